-- lay, of the model: its loops (written by wip/whole/gen31.py)
section C31
variable {X : Nat × (Nat → Int32)} {N : Nat} {h : zH} {Q : Option Value → Nat → zH → Prop}
variable {len at_ rp rj np_ nj_ kp su lo dr : Int32} {ab be : Int64}
theorem c115_30 {g : Nat → Int32} : ∀ (m i : Nat) (f : Nat → Int32) (h : zH), m + i = 72 → h 53 = mObj len at_ rp rj np_ nj_ kp su lo dr ab be → h 59 = .inl (.int, 72, f) → h 55 = .inl (.int, 72, g) → (∀ k, k < i → f k = g k) → (∀ h' f', h' 53 = mObj len at_ rp rj np_ nj_ kp su lo dr ab be → h' 59 = .inl (.int, 72, f') → (∀ k, k < 72 → f' k = g k) → zfr (fun a => a = 59) h h' → zE X 115 54 [some (.ref 53), some (.int (nI 72))] [] (N, 0, 0) h' Q) → zE X 115 30 [some (.ref 53), some (.int (nI i))] [] (N, 0, 0) h Q := by
  intro m
  induction m with
  | zero =>
    intro i f h hi h1 h2 h3 h4 k
    obtain rfl : i = 72 := by omega
    rw [e115_30]
    simp (disch := omega) only [e115_0, e115_1, e115_4, e115_6, e115_9, e115_11, e115_12, e115_13, e115_14, e115_17, e115_20, e115_21, e115_22, e115_25, e115_28, e115_29, e115_31, e115_33, e115_36, e115_37, e115_40, e115_41, e115_42, e115_45, e115_46, e115_47, e115_48, e115_51, e115_55, e115_57, e115_59, e115_62, e115_63, e115_66, e115_67, e115_68, e115_71, e115_72, e115_73, e115_74, e115_77, e115_80, e115_81, e115_83, e115_85, e115_88, e115_89, e115_92, e115_93, e115_94, e115_97, e115_98, e115_99, e115_100, e115_103, e115_106, e115_107, e115_109, e115_111, e115_114, e115_115, e115_118, e115_119, e115_120, e115_121, e115_124, e115_127, e115_128, e115_130, e115_132, e115_135, e115_136, e115_139, e115_140, e115_141, e115_144, e115_145, e115_146, e115_147, e115_148, e115_151, e115_152, e115_153, e115_154, e115_155, e115_158, e115_159, e115_160, e115_161, e115_164, e115_167, e115_168, e115_171, e115_172, e115_173, e115_174, e115_175, e115_178, e115_179, e115_180, e115_181, e115_182, e115_183, e115_186, e115_187, e115_190, zc72, znI_le, if_pos]
    exact k h f h1 h2 h4 zfr.rf
  | succ m ih =>
    intro i f h hi h1 h2 h3 h4 k
    have h1' := h1
    unfold mObj at h1
    rw [e115_30]
    simp (disch := omega) only [e115_0, e115_1, e115_4, e115_6, e115_9, e115_11, e115_12, e115_13, e115_14, e115_17, e115_20, e115_21, e115_22, e115_25, e115_28, e115_29, e115_31, e115_33, e115_36, e115_37, e115_40, e115_41, e115_42, e115_45, e115_46, e115_47, e115_48, e115_51, e115_55, e115_57, e115_59, e115_62, e115_63, e115_66, e115_67, e115_68, e115_71, e115_72, e115_73, e115_74, e115_77, e115_80, e115_81, e115_83, e115_85, e115_88, e115_89, e115_92, e115_93, e115_94, e115_97, e115_98, e115_99, e115_100, e115_103, e115_106, e115_107, e115_109, e115_111, e115_114, e115_115, e115_118, e115_119, e115_120, e115_121, e115_124, e115_127, e115_128, e115_130, e115_132, e115_135, e115_136, e115_139, e115_140, e115_141, e115_144, e115_145, e115_146, e115_147, e115_148, e115_151, e115_152, e115_153, e115_154, e115_155, e115_158, e115_159, e115_160, e115_161, e115_164, e115_167, e115_168, e115_171, e115_172, e115_173, e115_174, e115_175, e115_178, e115_179, e115_180, e115_181, e115_182, e115_183, e115_186, e115_187, e115_190, h1, h2, h3, zg10_0, zp10_0, zg10_1, zp10_1, zg10_2, zp10_2, zg10_3, zp10_3, zg10_4, zp10_4, zg10_5, zp10_5, zg10_6, zp10_6, zg10_7, zp10_7, zg10_8, zp10_8, zg10_9, zp10_9, zg10_10, zp10_10, zg10_11, zp10_11, zg10_12, zp10_12, zg10_13, zp10_13, zg10_14, zp10_14, zg10_15, zp10_15, zg10_16, zp10_16, zg10_17, zp10_17, zg10_18, zp10_18, zg10_19, zp10_19, zg10_20, zp10_20, zg10_21, zp10_21, zg10_22, zp10_22, zg10_23, zp10_23, zg10_24, zp10_24, zg10_25, zp10_25, zg10_26, zp10_26, zg10_27, zp10_27, zg10_28, zp10_28, zg10_29, zp10_29, zg10_30, zp10_30, zg10_31, zp10_31, zg10_32, zp10_32, zrc_eq, zup_s, zup_n, zup_up, zal_i, zal_b, zal_z, zas_i, zas_b, zas_z, zan_eq, Option.toList_some, Option.toList_none, List.cons_append, List.nil_append, if_true, if_false, ite_true, ite_false, true_or, or_true, zc72, znI_le, if_neg, nI_1]
    refine ih (i + 1) _ _ (by omega) ((zup_n (by omega)).trans h1') zup_s ((zup_n (by omega)).trans h3) (fun k hk => ?_) (fun h' f' a1 a2 a3 a4 => k h' f' a1 a2 a3 (zfr.up rfl a4))
    by_cases e : k = i
    · rw [e, upd_s]
    · rw [upd_n e]; exact h4 k (by omega)
theorem c115_56 {g : Nat → Int32} : ∀ (m i : Nat) (f : Nat → Int32) (h : zH), m + i = 18 → h 53 = mObj len at_ rp rj np_ nj_ kp su lo dr ab be → h 60 = .inl (.int, 18, f) → h 56 = .inl (.int, 18, g) → (∀ k, k < i → f k = g k) → (∀ h' f', h' 53 = mObj len at_ rp rj np_ nj_ kp su lo dr ab be → h' 60 = .inl (.int, 18, f') → (∀ k, k < 18 → f' k = g k) → zfr (fun a => a = 60) h h' → zE X 115 80 [some (.ref 53), some (.int (nI 18))] [] (N, 0, 0) h' Q) → zE X 115 56 [some (.ref 53), some (.int (nI i))] [] (N, 0, 0) h Q := by
  intro m
  induction m with
  | zero =>
    intro i f h hi h1 h2 h3 h4 k
    obtain rfl : i = 18 := by omega
    rw [e115_56]
    simp (disch := omega) only [e115_0, e115_1, e115_4, e115_6, e115_9, e115_11, e115_12, e115_13, e115_14, e115_17, e115_20, e115_21, e115_22, e115_25, e115_28, e115_29, e115_31, e115_33, e115_36, e115_37, e115_40, e115_41, e115_42, e115_45, e115_46, e115_47, e115_48, e115_51, e115_54, e115_55, e115_57, e115_59, e115_62, e115_63, e115_66, e115_67, e115_68, e115_71, e115_72, e115_73, e115_74, e115_77, e115_81, e115_83, e115_85, e115_88, e115_89, e115_92, e115_93, e115_94, e115_97, e115_98, e115_99, e115_100, e115_103, e115_106, e115_107, e115_109, e115_111, e115_114, e115_115, e115_118, e115_119, e115_120, e115_121, e115_124, e115_127, e115_128, e115_130, e115_132, e115_135, e115_136, e115_139, e115_140, e115_141, e115_144, e115_145, e115_146, e115_147, e115_148, e115_151, e115_152, e115_153, e115_154, e115_155, e115_158, e115_159, e115_160, e115_161, e115_164, e115_167, e115_168, e115_171, e115_172, e115_173, e115_174, e115_175, e115_178, e115_179, e115_180, e115_181, e115_182, e115_183, e115_186, e115_187, e115_190, zc18, znI_le, if_pos]
    exact k h f h1 h2 h4 zfr.rf
  | succ m ih =>
    intro i f h hi h1 h2 h3 h4 k
    have h1' := h1
    unfold mObj at h1
    rw [e115_56]
    simp (disch := omega) only [e115_0, e115_1, e115_4, e115_6, e115_9, e115_11, e115_12, e115_13, e115_14, e115_17, e115_20, e115_21, e115_22, e115_25, e115_28, e115_29, e115_31, e115_33, e115_36, e115_37, e115_40, e115_41, e115_42, e115_45, e115_46, e115_47, e115_48, e115_51, e115_54, e115_55, e115_57, e115_59, e115_62, e115_63, e115_66, e115_67, e115_68, e115_71, e115_72, e115_73, e115_74, e115_77, e115_81, e115_83, e115_85, e115_88, e115_89, e115_92, e115_93, e115_94, e115_97, e115_98, e115_99, e115_100, e115_103, e115_106, e115_107, e115_109, e115_111, e115_114, e115_115, e115_118, e115_119, e115_120, e115_121, e115_124, e115_127, e115_128, e115_130, e115_132, e115_135, e115_136, e115_139, e115_140, e115_141, e115_144, e115_145, e115_146, e115_147, e115_148, e115_151, e115_152, e115_153, e115_154, e115_155, e115_158, e115_159, e115_160, e115_161, e115_164, e115_167, e115_168, e115_171, e115_172, e115_173, e115_174, e115_175, e115_178, e115_179, e115_180, e115_181, e115_182, e115_183, e115_186, e115_187, e115_190, h1, h2, h3, zg10_0, zp10_0, zg10_1, zp10_1, zg10_2, zp10_2, zg10_3, zp10_3, zg10_4, zp10_4, zg10_5, zp10_5, zg10_6, zp10_6, zg10_7, zp10_7, zg10_8, zp10_8, zg10_9, zp10_9, zg10_10, zp10_10, zg10_11, zp10_11, zg10_12, zp10_12, zg10_13, zp10_13, zg10_14, zp10_14, zg10_15, zp10_15, zg10_16, zp10_16, zg10_17, zp10_17, zg10_18, zp10_18, zg10_19, zp10_19, zg10_20, zp10_20, zg10_21, zp10_21, zg10_22, zp10_22, zg10_23, zp10_23, zg10_24, zp10_24, zg10_25, zp10_25, zg10_26, zp10_26, zg10_27, zp10_27, zg10_28, zp10_28, zg10_29, zp10_29, zg10_30, zp10_30, zg10_31, zp10_31, zg10_32, zp10_32, zrc_eq, zup_s, zup_n, zup_up, zal_i, zal_b, zal_z, zas_i, zas_b, zas_z, zan_eq, Option.toList_some, Option.toList_none, List.cons_append, List.nil_append, if_true, if_false, ite_true, ite_false, true_or, or_true, zc18, znI_le, if_neg, nI_1]
    refine ih (i + 1) _ _ (by omega) ((zup_n (by omega)).trans h1') zup_s ((zup_n (by omega)).trans h3) (fun k hk => ?_) (fun h' f' a1 a2 a3 a4 => k h' f' a1 a2 a3 (zfr.up rfl a4))
    by_cases e : k = i
    · rw [e, upd_s]
    · rw [upd_n e]; exact h4 k (by omega)
theorem c115_82 {g : Nat → Int32} : ∀ (m i : Nat) (f : Nat → Int32) (h : zH), m + i = 7 → h 53 = mObj len at_ rp rj np_ nj_ kp su lo dr ab be → h 61 = .inl (.int, 7, f) → h 57 = .inl (.int, 7, g) → (∀ k, k < i → f k = g k) → (∀ h' f', h' 53 = mObj len at_ rp rj np_ nj_ kp su lo dr ab be → h' 61 = .inl (.int, 7, f') → (∀ k, k < 7 → f' k = g k) → zfr (fun a => a = 61) h h' → zE X 115 106 [some (.ref 53), some (.int (nI 7))] [] (N, 0, 0) h' Q) → zE X 115 82 [some (.ref 53), some (.int (nI i))] [] (N, 0, 0) h Q := by
  intro m
  induction m with
  | zero =>
    intro i f h hi h1 h2 h3 h4 k
    obtain rfl : i = 7 := by omega
    rw [e115_82]
    simp (disch := omega) only [e115_0, e115_1, e115_4, e115_6, e115_9, e115_11, e115_12, e115_13, e115_14, e115_17, e115_20, e115_21, e115_22, e115_25, e115_28, e115_29, e115_31, e115_33, e115_36, e115_37, e115_40, e115_41, e115_42, e115_45, e115_46, e115_47, e115_48, e115_51, e115_54, e115_55, e115_57, e115_59, e115_62, e115_63, e115_66, e115_67, e115_68, e115_71, e115_72, e115_73, e115_74, e115_77, e115_80, e115_81, e115_83, e115_85, e115_88, e115_89, e115_92, e115_93, e115_94, e115_97, e115_98, e115_99, e115_100, e115_103, e115_107, e115_109, e115_111, e115_114, e115_115, e115_118, e115_119, e115_120, e115_121, e115_124, e115_127, e115_128, e115_130, e115_132, e115_135, e115_136, e115_139, e115_140, e115_141, e115_144, e115_145, e115_146, e115_147, e115_148, e115_151, e115_152, e115_153, e115_154, e115_155, e115_158, e115_159, e115_160, e115_161, e115_164, e115_167, e115_168, e115_171, e115_172, e115_173, e115_174, e115_175, e115_178, e115_179, e115_180, e115_181, e115_182, e115_183, e115_186, e115_187, e115_190, zc7, znI_le, if_pos]
    exact k h f h1 h2 h4 zfr.rf
  | succ m ih =>
    intro i f h hi h1 h2 h3 h4 k
    have h1' := h1
    unfold mObj at h1
    rw [e115_82]
    simp (disch := omega) only [e115_0, e115_1, e115_4, e115_6, e115_9, e115_11, e115_12, e115_13, e115_14, e115_17, e115_20, e115_21, e115_22, e115_25, e115_28, e115_29, e115_31, e115_33, e115_36, e115_37, e115_40, e115_41, e115_42, e115_45, e115_46, e115_47, e115_48, e115_51, e115_54, e115_55, e115_57, e115_59, e115_62, e115_63, e115_66, e115_67, e115_68, e115_71, e115_72, e115_73, e115_74, e115_77, e115_80, e115_81, e115_83, e115_85, e115_88, e115_89, e115_92, e115_93, e115_94, e115_97, e115_98, e115_99, e115_100, e115_103, e115_107, e115_109, e115_111, e115_114, e115_115, e115_118, e115_119, e115_120, e115_121, e115_124, e115_127, e115_128, e115_130, e115_132, e115_135, e115_136, e115_139, e115_140, e115_141, e115_144, e115_145, e115_146, e115_147, e115_148, e115_151, e115_152, e115_153, e115_154, e115_155, e115_158, e115_159, e115_160, e115_161, e115_164, e115_167, e115_168, e115_171, e115_172, e115_173, e115_174, e115_175, e115_178, e115_179, e115_180, e115_181, e115_182, e115_183, e115_186, e115_187, e115_190, h1, h2, h3, zg10_0, zp10_0, zg10_1, zp10_1, zg10_2, zp10_2, zg10_3, zp10_3, zg10_4, zp10_4, zg10_5, zp10_5, zg10_6, zp10_6, zg10_7, zp10_7, zg10_8, zp10_8, zg10_9, zp10_9, zg10_10, zp10_10, zg10_11, zp10_11, zg10_12, zp10_12, zg10_13, zp10_13, zg10_14, zp10_14, zg10_15, zp10_15, zg10_16, zp10_16, zg10_17, zp10_17, zg10_18, zp10_18, zg10_19, zp10_19, zg10_20, zp10_20, zg10_21, zp10_21, zg10_22, zp10_22, zg10_23, zp10_23, zg10_24, zp10_24, zg10_25, zp10_25, zg10_26, zp10_26, zg10_27, zp10_27, zg10_28, zp10_28, zg10_29, zp10_29, zg10_30, zp10_30, zg10_31, zp10_31, zg10_32, zp10_32, zrc_eq, zup_s, zup_n, zup_up, zal_i, zal_b, zal_z, zas_i, zas_b, zas_z, zan_eq, Option.toList_some, Option.toList_none, List.cons_append, List.nil_append, if_true, if_false, ite_true, ite_false, true_or, or_true, zc7, znI_le, if_neg, nI_1]
    refine ih (i + 1) _ _ (by omega) ((zup_n (by omega)).trans h1') zup_s ((zup_n (by omega)).trans h3) (fun k hk => ?_) (fun h' f' a1 a2 a3 a4 => k h' f' a1 a2 a3 (zfr.up rfl a4))
    by_cases e : k = i
    · rw [e, upd_s]
    · rw [upd_n e]; exact h4 k (by omega)
theorem c115_108 : ∀ (m i : Nat) (f : Nat → Int32) (h : zH), m + i = 24 → h 53 = mObj len at_ rp rj np_ nj_ kp su lo dr ab be → h 62 = .inl (.int, 24, f) → (∀ k, k < i → f k = 0) → (∀ h' f', h' 53 = mObj len at_ rp rj np_ nj_ kp su lo dr ab be → h' 62 = .inl (.int, 24, f') → (∀ k, k < 24 → f' k = 0) → zfr (fun a => a = 62) h h' → zE X 115 127 [some (.ref 53), some (.int (nI 24))] [] (N, 0, 0) h' Q) → zE X 115 108 [some (.ref 53), some (.int (nI i))] [] (N, 0, 0) h Q := by
  intro m
  induction m with
  | zero =>
    intro i f h hi h1 h2 h4 k
    obtain rfl : i = 24 := by omega
    rw [e115_108]
    simp (disch := omega) only [e115_0, e115_1, e115_4, e115_6, e115_9, e115_11, e115_12, e115_13, e115_14, e115_17, e115_20, e115_21, e115_22, e115_25, e115_28, e115_29, e115_31, e115_33, e115_36, e115_37, e115_40, e115_41, e115_42, e115_45, e115_46, e115_47, e115_48, e115_51, e115_54, e115_55, e115_57, e115_59, e115_62, e115_63, e115_66, e115_67, e115_68, e115_71, e115_72, e115_73, e115_74, e115_77, e115_80, e115_81, e115_83, e115_85, e115_88, e115_89, e115_92, e115_93, e115_94, e115_97, e115_98, e115_99, e115_100, e115_103, e115_106, e115_107, e115_109, e115_111, e115_114, e115_115, e115_118, e115_119, e115_120, e115_121, e115_124, e115_128, e115_130, e115_132, e115_135, e115_136, e115_139, e115_140, e115_141, e115_144, e115_145, e115_146, e115_147, e115_148, e115_151, e115_152, e115_153, e115_154, e115_155, e115_158, e115_159, e115_160, e115_161, e115_164, e115_167, e115_168, e115_171, e115_172, e115_173, e115_174, e115_175, e115_178, e115_179, e115_180, e115_181, e115_182, e115_183, e115_186, e115_187, e115_190, zc24, znI_le, if_pos]
    exact k h f h1 h2 h4 zfr.rf
  | succ m ih =>
    intro i f h hi h1 h2 h4 k
    have h1' := h1
    unfold mObj at h1
    rw [e115_108]
    simp (disch := omega) only [e115_0, e115_1, e115_4, e115_6, e115_9, e115_11, e115_12, e115_13, e115_14, e115_17, e115_20, e115_21, e115_22, e115_25, e115_28, e115_29, e115_31, e115_33, e115_36, e115_37, e115_40, e115_41, e115_42, e115_45, e115_46, e115_47, e115_48, e115_51, e115_54, e115_55, e115_57, e115_59, e115_62, e115_63, e115_66, e115_67, e115_68, e115_71, e115_72, e115_73, e115_74, e115_77, e115_80, e115_81, e115_83, e115_85, e115_88, e115_89, e115_92, e115_93, e115_94, e115_97, e115_98, e115_99, e115_100, e115_103, e115_106, e115_107, e115_109, e115_111, e115_114, e115_115, e115_118, e115_119, e115_120, e115_121, e115_124, e115_128, e115_130, e115_132, e115_135, e115_136, e115_139, e115_140, e115_141, e115_144, e115_145, e115_146, e115_147, e115_148, e115_151, e115_152, e115_153, e115_154, e115_155, e115_158, e115_159, e115_160, e115_161, e115_164, e115_167, e115_168, e115_171, e115_172, e115_173, e115_174, e115_175, e115_178, e115_179, e115_180, e115_181, e115_182, e115_183, e115_186, e115_187, e115_190, h1, h2, zg10_0, zp10_0, zg10_1, zp10_1, zg10_2, zp10_2, zg10_3, zp10_3, zg10_4, zp10_4, zg10_5, zp10_5, zg10_6, zp10_6, zg10_7, zp10_7, zg10_8, zp10_8, zg10_9, zp10_9, zg10_10, zp10_10, zg10_11, zp10_11, zg10_12, zp10_12, zg10_13, zp10_13, zg10_14, zp10_14, zg10_15, zp10_15, zg10_16, zp10_16, zg10_17, zp10_17, zg10_18, zp10_18, zg10_19, zp10_19, zg10_20, zp10_20, zg10_21, zp10_21, zg10_22, zp10_22, zg10_23, zp10_23, zg10_24, zp10_24, zg10_25, zp10_25, zg10_26, zp10_26, zg10_27, zp10_27, zg10_28, zp10_28, zg10_29, zp10_29, zg10_30, zp10_30, zg10_31, zp10_31, zg10_32, zp10_32, zrc_eq, zup_s, zup_n, zup_up, zal_i, zal_b, zal_z, zas_i, zas_b, zas_z, zan_eq, Option.toList_some, Option.toList_none, List.cons_append, List.nil_append, if_true, if_false, ite_true, ite_false, true_or, or_true, zc24, znI_le, if_neg, nI_1]
    refine ih (i + 1) _ _ (by omega) ((zup_n (by omega)).trans h1') zup_s (fun k hk => ?_) (fun h' f' a1 a2 a3 a4 => k h' f' a1 a2 a3 (zfr.up rfl a4))
    by_cases e : k = i
    · rw [e, upd_s]
    · rw [upd_n e]; exact h4 k (by omega)
theorem c115_129 {g : Nat → Int32} : ∀ (m i : Nat) (a b c : Nat → Int32) (h : zH), m + i = 8 → h 53 = mObj len at_ rp rj np_ nj_ kp su lo dr ab be → h 58 = .inl (.int, 8, g) → h 63 = .inl (.int, 40, a) → h 64 = .inl (.int, 40, b) → h 65 = .inl (.boolean, 40, c) → (∀ k, k < i → a k = g k ∧ b k = 0 ∧ c k = 0) → (∀ h' a' b' c', h' 53 = mObj len at_ rp rj np_ nj_ kp su lo dr ab be → h' 63 = .inl (.int, 40, a') → h' 64 = .inl (.int, 40, b') → h' 65 = .inl (.boolean, 40, c') → (∀ k, k < 8 → a' k = g k ∧ b' k = 0 ∧ c' k = 0) → zfr (fun q => 63 ≤ q ∧ q ≤ 65) h h' → zE X 115 167 [some (.ref 53), some (.int (nI 8))] [] (N, 0, 0) h' Q) → zE X 115 129 [some (.ref 53), some (.int (nI i))] [] (N, 0, 0) h Q := by
  intro m
  induction m with
  | zero =>
    intro i a b c h hi h1 h2 h3 h4 h5 h6 k
    obtain rfl : i = 8 := by omega
    rw [e115_129]
    simp (disch := omega) only [e115_0, e115_1, e115_4, e115_6, e115_9, e115_11, e115_12, e115_13, e115_14, e115_17, e115_20, e115_21, e115_22, e115_25, e115_28, e115_29, e115_31, e115_33, e115_36, e115_37, e115_40, e115_41, e115_42, e115_45, e115_46, e115_47, e115_48, e115_51, e115_54, e115_55, e115_57, e115_59, e115_62, e115_63, e115_66, e115_67, e115_68, e115_71, e115_72, e115_73, e115_74, e115_77, e115_80, e115_81, e115_83, e115_85, e115_88, e115_89, e115_92, e115_93, e115_94, e115_97, e115_98, e115_99, e115_100, e115_103, e115_106, e115_107, e115_109, e115_111, e115_114, e115_115, e115_118, e115_119, e115_120, e115_121, e115_124, e115_127, e115_128, e115_130, e115_132, e115_135, e115_136, e115_139, e115_140, e115_141, e115_144, e115_145, e115_146, e115_147, e115_148, e115_151, e115_152, e115_153, e115_154, e115_155, e115_158, e115_159, e115_160, e115_161, e115_164, e115_168, e115_171, e115_172, e115_173, e115_174, e115_175, e115_178, e115_179, e115_180, e115_181, e115_182, e115_183, e115_186, e115_187, e115_190, zc8, znI_le, if_pos]
    exact k h a b c h1 h3 h4 h5 h6 zfr.rf
  | succ m ih =>
    intro i a b c h hi h1 h2 h3 h4 h5 h6 k
    have h1' := h1
    unfold mObj at h1
    rw [e115_129]
    simp (disch := omega) only [e115_0, e115_1, e115_4, e115_6, e115_9, e115_11, e115_12, e115_13, e115_14, e115_17, e115_20, e115_21, e115_22, e115_25, e115_28, e115_29, e115_31, e115_33, e115_36, e115_37, e115_40, e115_41, e115_42, e115_45, e115_46, e115_47, e115_48, e115_51, e115_54, e115_55, e115_57, e115_59, e115_62, e115_63, e115_66, e115_67, e115_68, e115_71, e115_72, e115_73, e115_74, e115_77, e115_80, e115_81, e115_83, e115_85, e115_88, e115_89, e115_92, e115_93, e115_94, e115_97, e115_98, e115_99, e115_100, e115_103, e115_106, e115_107, e115_109, e115_111, e115_114, e115_115, e115_118, e115_119, e115_120, e115_121, e115_124, e115_127, e115_128, e115_130, e115_132, e115_135, e115_136, e115_139, e115_140, e115_141, e115_144, e115_145, e115_146, e115_147, e115_148, e115_151, e115_152, e115_153, e115_154, e115_155, e115_158, e115_159, e115_160, e115_161, e115_164, e115_168, e115_171, e115_172, e115_173, e115_174, e115_175, e115_178, e115_179, e115_180, e115_181, e115_182, e115_183, e115_186, e115_187, e115_190, h1, h2, h3, h4, h5, zg10_0, zp10_0, zg10_1, zp10_1, zg10_2, zp10_2, zg10_3, zp10_3, zg10_4, zp10_4, zg10_5, zp10_5, zg10_6, zp10_6, zg10_7, zp10_7, zg10_8, zp10_8, zg10_9, zp10_9, zg10_10, zp10_10, zg10_11, zp10_11, zg10_12, zp10_12, zg10_13, zp10_13, zg10_14, zp10_14, zg10_15, zp10_15, zg10_16, zp10_16, zg10_17, zp10_17, zg10_18, zp10_18, zg10_19, zp10_19, zg10_20, zp10_20, zg10_21, zp10_21, zg10_22, zp10_22, zg10_23, zp10_23, zg10_24, zp10_24, zg10_25, zp10_25, zg10_26, zp10_26, zg10_27, zp10_27, zg10_28, zp10_28, zg10_29, zp10_29, zg10_30, zp10_30, zg10_31, zp10_31, zg10_32, zp10_32, zrc_eq, zup_s, zup_n, zup_up, zal_i, zal_b, zal_z, zas_i, zas_b, zas_z, zan_eq, Option.toList_some, Option.toList_none, List.cons_append, List.nil_append, if_true, if_false, ite_true, ite_false, true_or, or_true, zc8, znI_le, if_neg, nI_1]
    refine ih (i + 1) (upd a i (g i)) (upd b i 0) (upd c i (0 &&& 1)) _ (by omega) ?_ ?_ ?_ ?_ ?_ (fun k hk => ?_) (fun h' a' b' c' q1 q2 q3 q4 q5 q6 => k h' a' b' c' q1 q2 q3 q4 q5 (zfr.up (by omega) (zfr.up (by omega) (zfr.up (by omega) q6))))
    · simp (disch := omega) only [zup_n]; exact h1'
    · simp (disch := omega) only [zup_n, h2]
    · simp (disch := omega) only [zup_s, zup_n]
    · simp (disch := omega) only [zup_s, zup_n]
    · simp (disch := omega) only [zup_s, zup_n]
    · by_cases e : k = i
      · subst e
        rw [upd_s, upd_s, upd_s]
        exact ⟨rfl, rfl, rfl⟩
      · rw [upd_n e, upd_n e, upd_n e]; exact h6 k (by omega)
end C31
