-- the model puts an item down
section C24
variable {X : Nat × (Nat → Int32)} {N : Nat} {h : zH} {Q : Option Value → Nat → zH → Prop}
/-- a sheet in the model's rows -/
def pMs (h : zH) (a b c : Nat) (S : zSh) : Prop := match S with
  | ((np, wo, sa, au), (nj, le, fo, ro), (pa, pb, pc), (co, hx, hy), _, pt) => np ≤ 24 ∧ nj ≤ 6 ∧ ∃ rpl rju rre : Nat → Int32, h a = .inl (.int, 72, rpl) ∧ h b = .inl (.int, 18, rju) ∧ h c = .inl (.int, 7, rre) ∧ (∀ i, i < np → rpl (3 * i) = wo i ∧ rpl (3 * i + 1) = sa i ∧ rpl (3 * i + 2) = au i) ∧ (∀ j, j < nj → rju (3 * j) = le j ∧ rju (3 * j + 1) = fo j ∧ rju (3 * j + 2) = ro j) ∧ rre 0 = nI pa ∧ rre 1 = nI pb ∧ rre 2 = nI pc ∧ rre 3 = nI co ∧ rre 4 = nI hx ∧ rre 5 = nI hy ∧ rre 6 = nI pt
/-- what the model has read so far -/
def pMr (h : zH) (rp rj : Int32) (S : zSh) : Prop := rp = nI S.1.1 ∧ rj = nI S.2.1.1 ∧ pMs h 55 56 57 S ∧ ∃ rha : Nat → Int32, h 58 = .inl (.int, 8, rha) ∧ ∀ k, k < 8 → rha k = S.2.2.2.2.1 k
theorem upd_s {f : Nat → Int32} {k : Nat} {x : Int32} : upd f k x k = x := pk_us
theorem upd_n {f : Nat → Int32} {k j : Nat} {x : Int32} (h : j ≠ k) : upd f k x j = f j := pk_un h
variable {len at_ rp rj np_ nj_ kp su lo dr : Int32} {ab be : Int64}
theorem c114 {l k a b c : Nat} {S S' : zSh} (ht : sTake l k a b c S = some S') (ha : a ≤ 999) (hb : b ≤ 999) (hc : c ≤ 999) (h1 : h 53 = mObj len at_ rp rj np_ nj_ kp su lo dr ab be) (hm : pMr h rp rj S)
    (kk : ∀ h' rp' rj', h' 53 = mObj len at_ rp' rj' np_ nj_ kp su lo dr ab be → pMr h' rp' rj' S' → zfr (fun q => q = 53 ∨ (55 ≤ q ∧ q ≤ 58)) h h' → Q none N h') : zE X 114 0 [some (.ref 53), some (.int (nI l)), some (.int (nI a)), some (.int (nI b)), some (.int (nI c))] [] (N, 0, 0) h Q := by
  obtain ⟨⟨np, wo, sa, au⟩, ⟨nj, le, fo, ro⟩, ⟨pa, pb, pc⟩, ⟨co, hx, hy⟩, hf, pt⟩ := S
  obtain ⟨e1, e2, ⟨m1, m2, rpl, rju, rre, h55, h56, h57, q1, q2, r0, r1, r2, r3, r4, r5, r6⟩, rha, h58, q3⟩ := hm
  dsimp only at e1 e2 q3
  subst e1; subst e2
  have h1' := h1
  unfold mObj at h1
  unfold sTake at ht
  split at ht
  · next hl =>
    subst hl
    split at ht
    · rw [sPlan] at ht
      split at ht
      · next g =>
        cases ht
        simp (disch := omega) only [e114_0, e114_1, e114_3, e114_6, e114_7, e114_10, e114_11, e114_12, e114_15, e114_16, e114_17, e114_18, e114_19, e114_22, e114_23, e114_24, e114_27, e114_28, e114_29, e114_30, e114_31, e114_32, e114_33, e114_36, e114_37, e114_38, e114_41, e114_42, e114_43, e114_44, e114_46, e114_47, e114_48, e114_49, e114_52, e114_53, e114_54, e114_57, e114_60, e114_61, e114_63, e114_66, e114_67, e114_70, e114_71, e114_72, e114_75, e114_76, e114_77, e114_78, e114_79, e114_82, e114_83, e114_84, e114_87, e114_88, e114_89, e114_90, e114_91, e114_92, e114_93, e114_96, e114_97, e114_98, e114_101, e114_102, e114_103, e114_104, e114_106, e114_107, e114_108, e114_109, e114_112, e114_113, e114_114, e114_117, e114_120, e114_121, e114_123, e114_126, e114_127, e114_130, e114_131, e114_132, e114_133, e114_134, e114_137, e114_138, e114_139, e114_140, e114_141, e114_144, e114_145, e114_147, e114_148, e114_151, e114_152, e114_154, e114_157, e114_158, e114_161, e114_162, e114_163, e114_164, e114_167, e114_168, e114_170, e114_173, e114_174, e114_177, e114_178, e114_179, e114_180, e114_181, e114_184, e114_185, e114_186, e114_187, e114_190, e114_191, e114_193, e114_196, e114_197, e114_200, e114_201, e114_202, e114_203, e114_206, e114_207, e114_210, e114_212, e114_213, e114_214, h1, h55, zg10_0, zp10_0, zg10_1, zp10_1, zg10_2, zp10_2, zg10_3, zp10_3, zg10_4, zp10_4, zg10_5, zp10_5, zg10_6, zp10_6, zg10_7, zp10_7, zg10_8, zp10_8, zg10_9, zp10_9, zg10_10, zp10_10, zg10_11, zp10_11, zg10_12, zp10_12, zg10_13, zp10_13, zg10_14, zp10_14, zg10_15, zp10_15, zg10_16, zp10_16, zg10_17, zp10_17, zg10_18, zp10_18, zg10_19, zp10_19, zg10_20, zp10_20, zg10_21, zp10_21, zg10_22, zp10_22, zg10_23, zp10_23, zg10_24, zp10_24, zg10_25, zp10_25, zg10_26, zp10_26, zg10_27, zp10_27, zg10_28, zp10_28, zg10_29, zp10_29, zg10_30, zp10_30, zg10_31, zp10_31, zg10_32, zp10_32, zrc_eq, zup_s, zup_n, zup_up, zal_i, zal_b, zal_z, zas_i, zas_b, zas_z, zan_eq, Option.toList_some, Option.toList_none, List.cons_append, List.nil_append, if_true, if_false, ite_true, ite_false, true_or, or_true, zc1, zc2, zc3, zc119, znI_eq, pk_mul, nI_add]
        refine kk _ _ _ zup_s ⟨rfl, rfl, ⟨by omega, by omega, _, rju, rre, by rw [zup_n (by omega), zup_s], by simp (disch := omega) only [zup_n, h56], by simp (disch := omega) only [zup_n, h57], fun i hi => ?_, q2, r0, r1, r2, r3, r4, r5, r6⟩, rha, by simp (disch := omega) only [zup_n, h58], q3⟩ (zfr.up (by omega) (zfr.up (by omega) zfr.rf))
        by_cases hi2 : i = np
        · subst hi2
          simp (disch := omega) only [upd_s, upd_n, and_self]
        · simp (disch := omega) only [upd_n]
          exact q1 i (by omega)
      · cases ht
    · cases ht
  · split at ht
    · next hl =>
      subst hl
      split at ht
      · rw [sJudge] at ht
        split at ht
        · next g =>
          cases ht
          simp (disch := omega) only [e114_0, e114_1, e114_3, e114_6, e114_7, e114_10, e114_11, e114_12, e114_15, e114_16, e114_17, e114_18, e114_19, e114_22, e114_23, e114_24, e114_27, e114_28, e114_29, e114_30, e114_31, e114_32, e114_33, e114_36, e114_37, e114_38, e114_41, e114_42, e114_43, e114_44, e114_46, e114_47, e114_48, e114_49, e114_52, e114_53, e114_54, e114_57, e114_60, e114_61, e114_63, e114_66, e114_67, e114_70, e114_71, e114_72, e114_75, e114_76, e114_77, e114_78, e114_79, e114_82, e114_83, e114_84, e114_87, e114_88, e114_89, e114_90, e114_91, e114_92, e114_93, e114_96, e114_97, e114_98, e114_101, e114_102, e114_103, e114_104, e114_106, e114_107, e114_108, e114_109, e114_112, e114_113, e114_114, e114_117, e114_120, e114_121, e114_123, e114_126, e114_127, e114_130, e114_131, e114_132, e114_133, e114_134, e114_137, e114_138, e114_139, e114_140, e114_141, e114_144, e114_145, e114_147, e114_148, e114_151, e114_152, e114_154, e114_157, e114_158, e114_161, e114_162, e114_163, e114_164, e114_167, e114_168, e114_170, e114_173, e114_174, e114_177, e114_178, e114_179, e114_180, e114_181, e114_184, e114_185, e114_186, e114_187, e114_190, e114_191, e114_193, e114_196, e114_197, e114_200, e114_201, e114_202, e114_203, e114_206, e114_207, e114_210, e114_212, e114_213, e114_214, h1, h55, h56, h57, h58, zg10_0, zp10_0, zg10_1, zp10_1, zg10_2, zp10_2, zg10_3, zp10_3, zg10_4, zp10_4, zg10_5, zp10_5, zg10_6, zp10_6, zg10_7, zp10_7, zg10_8, zp10_8, zg10_9, zp10_9, zg10_10, zp10_10, zg10_11, zp10_11, zg10_12, zp10_12, zg10_13, zp10_13, zg10_14, zp10_14, zg10_15, zp10_15, zg10_16, zp10_16, zg10_17, zp10_17, zg10_18, zp10_18, zg10_19, zp10_19, zg10_20, zp10_20, zg10_21, zp10_21, zg10_22, zp10_22, zg10_23, zp10_23, zg10_24, zp10_24, zg10_25, zp10_25, zg10_26, zp10_26, zg10_27, zp10_27, zg10_28, zp10_28, zg10_29, zp10_29, zg10_30, zp10_30, zg10_31, zp10_31, zg10_32, zp10_32, zrc_eq, zup_s, zup_n, zup_up, zal_i, zal_b, zal_z, zas_i, zas_b, zas_z, zan_eq, Option.toList_some, Option.toList_none, List.cons_append, List.nil_append, if_true, if_false, ite_true, ite_false, true_or, or_true, zc0, zc1, zc2, zc3, zc4, zc5, zc6, zc119, zc106, zc112, zc99, zc104, zc102, zc108, znI_eq, if_neg, if_pos, pk_mul, nI_add]
          refine kk _ _ _ zup_s ⟨rfl, rfl, ⟨by omega, by omega, rpl, _, rre, by simp (disch := omega) only [zup_n, h55], by rw [zup_n (by omega), zup_s], by simp (disch := omega) only [zup_n, h57], q1, fun i hi => ?_, r0, r1, r2, r3, r4, r5, r6⟩, rha, by simp (disch := omega) only [zup_n, h58], q3⟩ (zfr.up (by omega) (zfr.up (by omega) zfr.rf))
          by_cases hi2 : i = nj
          · subst hi2
            simp (disch := omega) only [upd_s, upd_n, and_self]
          · simp (disch := omega) only [upd_n]
            exact q2 i (by omega)
        · cases ht
      · cases ht
    · split at ht
      · next hl =>
        subst hl
        split at ht
        · rw [sPurse] at ht
          split at ht
          · next g =>
            cases ht
            simp (disch := omega) only [e114_0, e114_1, e114_3, e114_6, e114_7, e114_10, e114_11, e114_12, e114_15, e114_16, e114_17, e114_18, e114_19, e114_22, e114_23, e114_24, e114_27, e114_28, e114_29, e114_30, e114_31, e114_32, e114_33, e114_36, e114_37, e114_38, e114_41, e114_42, e114_43, e114_44, e114_46, e114_47, e114_48, e114_49, e114_52, e114_53, e114_54, e114_57, e114_60, e114_61, e114_63, e114_66, e114_67, e114_70, e114_71, e114_72, e114_75, e114_76, e114_77, e114_78, e114_79, e114_82, e114_83, e114_84, e114_87, e114_88, e114_89, e114_90, e114_91, e114_92, e114_93, e114_96, e114_97, e114_98, e114_101, e114_102, e114_103, e114_104, e114_106, e114_107, e114_108, e114_109, e114_112, e114_113, e114_114, e114_117, e114_120, e114_121, e114_123, e114_126, e114_127, e114_130, e114_131, e114_132, e114_133, e114_134, e114_137, e114_138, e114_139, e114_140, e114_141, e114_144, e114_145, e114_147, e114_148, e114_151, e114_152, e114_154, e114_157, e114_158, e114_161, e114_162, e114_163, e114_164, e114_167, e114_168, e114_170, e114_173, e114_174, e114_177, e114_178, e114_179, e114_180, e114_181, e114_184, e114_185, e114_186, e114_187, e114_190, e114_191, e114_193, e114_196, e114_197, e114_200, e114_201, e114_202, e114_203, e114_206, e114_207, e114_210, e114_212, e114_213, e114_214, h1, h55, h56, h57, h58, zg10_0, zp10_0, zg10_1, zp10_1, zg10_2, zp10_2, zg10_3, zp10_3, zg10_4, zp10_4, zg10_5, zp10_5, zg10_6, zp10_6, zg10_7, zp10_7, zg10_8, zp10_8, zg10_9, zp10_9, zg10_10, zp10_10, zg10_11, zp10_11, zg10_12, zp10_12, zg10_13, zp10_13, zg10_14, zp10_14, zg10_15, zp10_15, zg10_16, zp10_16, zg10_17, zp10_17, zg10_18, zp10_18, zg10_19, zp10_19, zg10_20, zp10_20, zg10_21, zp10_21, zg10_22, zp10_22, zg10_23, zp10_23, zg10_24, zp10_24, zg10_25, zp10_25, zg10_26, zp10_26, zg10_27, zp10_27, zg10_28, zp10_28, zg10_29, zp10_29, zg10_30, zp10_30, zg10_31, zp10_31, zg10_32, zp10_32, zrc_eq, zup_s, zup_n, zup_up, zal_i, zal_b, zal_z, zas_i, zas_b, zas_z, zan_eq, Option.toList_some, Option.toList_none, List.cons_append, List.nil_append, if_true, if_false, ite_true, ite_false, true_or, or_true, zc0, zc1, zc2, zc3, zc4, zc5, zc6, zc119, zc106, zc112, zc99, zc104, zc102, zc108, znI_eq, if_neg, if_pos, pk_mul, nI_add]
            refine kk _ _ _ (by rw [zup_n (by omega)]; exact h1') ⟨rfl, rfl, ⟨by omega, by omega, rpl, rju, _, by simp (disch := omega) only [zup_n, h55], by simp (disch := omega) only [zup_n, h56], zup_s, q1, q2, ?_, ?_, ?_, ?_, ?_, ?_, ?_⟩, rha, by simp (disch := omega) only [zup_n, h58], q3⟩ (zfr.up (by omega) zfr.rf) <;> simp (disch := omega) only [upd_s, upd_n, r0, r1, r2, r3, r4, r5, r6]
          · cases ht
        · cases ht
      · split at ht
        · next hl =>
          subst hl
          split at ht
          · rw [sCoin] at ht
            split at ht
            · next g =>
              cases ht
              simp (disch := omega) only [e114_0, e114_1, e114_3, e114_6, e114_7, e114_10, e114_11, e114_12, e114_15, e114_16, e114_17, e114_18, e114_19, e114_22, e114_23, e114_24, e114_27, e114_28, e114_29, e114_30, e114_31, e114_32, e114_33, e114_36, e114_37, e114_38, e114_41, e114_42, e114_43, e114_44, e114_46, e114_47, e114_48, e114_49, e114_52, e114_53, e114_54, e114_57, e114_60, e114_61, e114_63, e114_66, e114_67, e114_70, e114_71, e114_72, e114_75, e114_76, e114_77, e114_78, e114_79, e114_82, e114_83, e114_84, e114_87, e114_88, e114_89, e114_90, e114_91, e114_92, e114_93, e114_96, e114_97, e114_98, e114_101, e114_102, e114_103, e114_104, e114_106, e114_107, e114_108, e114_109, e114_112, e114_113, e114_114, e114_117, e114_120, e114_121, e114_123, e114_126, e114_127, e114_130, e114_131, e114_132, e114_133, e114_134, e114_137, e114_138, e114_139, e114_140, e114_141, e114_144, e114_145, e114_147, e114_148, e114_151, e114_152, e114_154, e114_157, e114_158, e114_161, e114_162, e114_163, e114_164, e114_167, e114_168, e114_170, e114_173, e114_174, e114_177, e114_178, e114_179, e114_180, e114_181, e114_184, e114_185, e114_186, e114_187, e114_190, e114_191, e114_193, e114_196, e114_197, e114_200, e114_201, e114_202, e114_203, e114_206, e114_207, e114_210, e114_212, e114_213, e114_214, h1, h55, h56, h57, h58, zg10_0, zp10_0, zg10_1, zp10_1, zg10_2, zp10_2, zg10_3, zp10_3, zg10_4, zp10_4, zg10_5, zp10_5, zg10_6, zp10_6, zg10_7, zp10_7, zg10_8, zp10_8, zg10_9, zp10_9, zg10_10, zp10_10, zg10_11, zp10_11, zg10_12, zp10_12, zg10_13, zp10_13, zg10_14, zp10_14, zg10_15, zp10_15, zg10_16, zp10_16, zg10_17, zp10_17, zg10_18, zp10_18, zg10_19, zp10_19, zg10_20, zp10_20, zg10_21, zp10_21, zg10_22, zp10_22, zg10_23, zp10_23, zg10_24, zp10_24, zg10_25, zp10_25, zg10_26, zp10_26, zg10_27, zp10_27, zg10_28, zp10_28, zg10_29, zp10_29, zg10_30, zp10_30, zg10_31, zp10_31, zg10_32, zp10_32, zrc_eq, zup_s, zup_n, zup_up, zal_i, zal_b, zal_z, zas_i, zas_b, zas_z, zan_eq, Option.toList_some, Option.toList_none, List.cons_append, List.nil_append, if_true, if_false, ite_true, ite_false, true_or, or_true, zc0, zc1, zc2, zc3, zc4, zc5, zc6, zc119, zc106, zc112, zc99, zc104, zc102, zc108, znI_eq, if_neg, if_pos, pk_mul, nI_add]
              refine kk _ _ _ (by rw [zup_n (by omega)]; exact h1') ⟨rfl, rfl, ⟨by omega, by omega, rpl, rju, _, by simp (disch := omega) only [zup_n, h55], by simp (disch := omega) only [zup_n, h56], zup_s, q1, q2, ?_, ?_, ?_, ?_, ?_, ?_, ?_⟩, rha, by simp (disch := omega) only [zup_n, h58], q3⟩ (zfr.up (by omega) zfr.rf) <;> simp (disch := omega) only [upd_s, upd_n, r0, r1, r2, r3, r4, r5, r6]
            · cases ht
          · cases ht
        · split at ht
          · next hl =>
            subst hl
            split at ht
            · rw [sHours] at ht
              split at ht
              · next g =>
                cases ht
                simp (disch := omega) only [e114_0, e114_1, e114_3, e114_6, e114_7, e114_10, e114_11, e114_12, e114_15, e114_16, e114_17, e114_18, e114_19, e114_22, e114_23, e114_24, e114_27, e114_28, e114_29, e114_30, e114_31, e114_32, e114_33, e114_36, e114_37, e114_38, e114_41, e114_42, e114_43, e114_44, e114_46, e114_47, e114_48, e114_49, e114_52, e114_53, e114_54, e114_57, e114_60, e114_61, e114_63, e114_66, e114_67, e114_70, e114_71, e114_72, e114_75, e114_76, e114_77, e114_78, e114_79, e114_82, e114_83, e114_84, e114_87, e114_88, e114_89, e114_90, e114_91, e114_92, e114_93, e114_96, e114_97, e114_98, e114_101, e114_102, e114_103, e114_104, e114_106, e114_107, e114_108, e114_109, e114_112, e114_113, e114_114, e114_117, e114_120, e114_121, e114_123, e114_126, e114_127, e114_130, e114_131, e114_132, e114_133, e114_134, e114_137, e114_138, e114_139, e114_140, e114_141, e114_144, e114_145, e114_147, e114_148, e114_151, e114_152, e114_154, e114_157, e114_158, e114_161, e114_162, e114_163, e114_164, e114_167, e114_168, e114_170, e114_173, e114_174, e114_177, e114_178, e114_179, e114_180, e114_181, e114_184, e114_185, e114_186, e114_187, e114_190, e114_191, e114_193, e114_196, e114_197, e114_200, e114_201, e114_202, e114_203, e114_206, e114_207, e114_210, e114_212, e114_213, e114_214, h1, h55, h56, h57, h58, zg10_0, zp10_0, zg10_1, zp10_1, zg10_2, zp10_2, zg10_3, zp10_3, zg10_4, zp10_4, zg10_5, zp10_5, zg10_6, zp10_6, zg10_7, zp10_7, zg10_8, zp10_8, zg10_9, zp10_9, zg10_10, zp10_10, zg10_11, zp10_11, zg10_12, zp10_12, zg10_13, zp10_13, zg10_14, zp10_14, zg10_15, zp10_15, zg10_16, zp10_16, zg10_17, zp10_17, zg10_18, zp10_18, zg10_19, zp10_19, zg10_20, zp10_20, zg10_21, zp10_21, zg10_22, zp10_22, zg10_23, zp10_23, zg10_24, zp10_24, zg10_25, zp10_25, zg10_26, zp10_26, zg10_27, zp10_27, zg10_28, zp10_28, zg10_29, zp10_29, zg10_30, zp10_30, zg10_31, zp10_31, zg10_32, zp10_32, zrc_eq, zup_s, zup_n, zup_up, zal_i, zal_b, zal_z, zas_i, zas_b, zas_z, zan_eq, Option.toList_some, Option.toList_none, List.cons_append, List.nil_append, if_true, if_false, ite_true, ite_false, true_or, or_true, zc0, zc1, zc2, zc3, zc4, zc5, zc6, zc119, zc106, zc112, zc99, zc104, zc102, zc108, znI_eq, if_neg, if_pos, pk_mul, nI_add]
                refine kk _ _ _ (by rw [zup_n (by omega)]; exact h1') ⟨rfl, rfl, ⟨by omega, by omega, rpl, rju, _, by simp (disch := omega) only [zup_n, h55], by simp (disch := omega) only [zup_n, h56], zup_s, q1, q2, ?_, ?_, ?_, ?_, ?_, ?_, ?_⟩, rha, by simp (disch := omega) only [zup_n, h58], q3⟩ (zfr.up (by omega) zfr.rf) <;> simp (disch := omega) only [upd_s, upd_n, r0, r1, r2, r3, r4, r5, r6]
              · cases ht
            · cases ht
          · split at ht
            · next hl =>
              subst hl
              split at ht
              · rw [sHad] at ht
                split at ht
                · next g =>
                  cases ht
                  simp (disch := omega) only [e114_0, e114_1, e114_3, e114_6, e114_7, e114_10, e114_11, e114_12, e114_15, e114_16, e114_17, e114_18, e114_19, e114_22, e114_23, e114_24, e114_27, e114_28, e114_29, e114_30, e114_31, e114_32, e114_33, e114_36, e114_37, e114_38, e114_41, e114_42, e114_43, e114_44, e114_46, e114_47, e114_48, e114_49, e114_52, e114_53, e114_54, e114_57, e114_60, e114_61, e114_63, e114_66, e114_67, e114_70, e114_71, e114_72, e114_75, e114_76, e114_77, e114_78, e114_79, e114_82, e114_83, e114_84, e114_87, e114_88, e114_89, e114_90, e114_91, e114_92, e114_93, e114_96, e114_97, e114_98, e114_101, e114_102, e114_103, e114_104, e114_106, e114_107, e114_108, e114_109, e114_112, e114_113, e114_114, e114_117, e114_120, e114_121, e114_123, e114_126, e114_127, e114_130, e114_131, e114_132, e114_133, e114_134, e114_137, e114_138, e114_139, e114_140, e114_141, e114_144, e114_145, e114_147, e114_148, e114_151, e114_152, e114_154, e114_157, e114_158, e114_161, e114_162, e114_163, e114_164, e114_167, e114_168, e114_170, e114_173, e114_174, e114_177, e114_178, e114_179, e114_180, e114_181, e114_184, e114_185, e114_186, e114_187, e114_190, e114_191, e114_193, e114_196, e114_197, e114_200, e114_201, e114_202, e114_203, e114_206, e114_207, e114_210, e114_212, e114_213, e114_214, h1, h55, h56, h57, h58, zg10_0, zp10_0, zg10_1, zp10_1, zg10_2, zp10_2, zg10_3, zp10_3, zg10_4, zp10_4, zg10_5, zp10_5, zg10_6, zp10_6, zg10_7, zp10_7, zg10_8, zp10_8, zg10_9, zp10_9, zg10_10, zp10_10, zg10_11, zp10_11, zg10_12, zp10_12, zg10_13, zp10_13, zg10_14, zp10_14, zg10_15, zp10_15, zg10_16, zp10_16, zg10_17, zp10_17, zg10_18, zp10_18, zg10_19, zp10_19, zg10_20, zp10_20, zg10_21, zp10_21, zg10_22, zp10_22, zg10_23, zp10_23, zg10_24, zp10_24, zg10_25, zp10_25, zg10_26, zp10_26, zg10_27, zp10_27, zg10_28, zp10_28, zg10_29, zp10_29, zg10_30, zp10_30, zg10_31, zp10_31, zg10_32, zp10_32, zrc_eq, zup_s, zup_n, zup_up, zal_i, zal_b, zal_z, zas_i, zas_b, zas_z, zan_eq, Option.toList_some, Option.toList_none, List.cons_append, List.nil_append, if_true, if_false, ite_true, ite_false, true_or, or_true, zc0, zc1, zc2, zc3, zc4, zc5, zc6, zc119, zc106, zc112, zc99, zc104, zc102, zc108, znI_eq, if_neg, if_pos, pk_mul, nI_add]
                  refine kk _ _ _ (by rw [zup_n (by omega)]; exact h1') ⟨rfl, rfl, ⟨by omega, by omega, rpl, rju, rre, by simp (disch := omega) only [zup_n, h55], by simp (disch := omega) only [zup_n, h56], by simp (disch := omega) only [zup_n, h57], q1, q2, r0, r1, r2, r3, r4, r5, r6⟩, _, zup_s, fun k hk => ?_⟩ (zfr.up (by omega) zfr.rf)
                  dsimp only
                  by_cases hi2 : k = a
                  · subst hi2
                    rw [upd_s, upd_s]
                  · rw [upd_n hi2, upd_n hi2]
                    exact q3 k hk
                · cases ht
              · cases ht
            · split at ht
              · next hl =>
                subst hl
                split at ht
                · rw [sPat] at ht
                  split at ht
                  · next g =>
                    cases ht
                    simp (disch := omega) only [e114_0, e114_1, e114_3, e114_6, e114_7, e114_10, e114_11, e114_12, e114_15, e114_16, e114_17, e114_18, e114_19, e114_22, e114_23, e114_24, e114_27, e114_28, e114_29, e114_30, e114_31, e114_32, e114_33, e114_36, e114_37, e114_38, e114_41, e114_42, e114_43, e114_44, e114_46, e114_47, e114_48, e114_49, e114_52, e114_53, e114_54, e114_57, e114_60, e114_61, e114_63, e114_66, e114_67, e114_70, e114_71, e114_72, e114_75, e114_76, e114_77, e114_78, e114_79, e114_82, e114_83, e114_84, e114_87, e114_88, e114_89, e114_90, e114_91, e114_92, e114_93, e114_96, e114_97, e114_98, e114_101, e114_102, e114_103, e114_104, e114_106, e114_107, e114_108, e114_109, e114_112, e114_113, e114_114, e114_117, e114_120, e114_121, e114_123, e114_126, e114_127, e114_130, e114_131, e114_132, e114_133, e114_134, e114_137, e114_138, e114_139, e114_140, e114_141, e114_144, e114_145, e114_147, e114_148, e114_151, e114_152, e114_154, e114_157, e114_158, e114_161, e114_162, e114_163, e114_164, e114_167, e114_168, e114_170, e114_173, e114_174, e114_177, e114_178, e114_179, e114_180, e114_181, e114_184, e114_185, e114_186, e114_187, e114_190, e114_191, e114_193, e114_196, e114_197, e114_200, e114_201, e114_202, e114_203, e114_206, e114_207, e114_210, e114_212, e114_213, e114_214, h1, h55, h56, h57, h58, zg10_0, zp10_0, zg10_1, zp10_1, zg10_2, zp10_2, zg10_3, zp10_3, zg10_4, zp10_4, zg10_5, zp10_5, zg10_6, zp10_6, zg10_7, zp10_7, zg10_8, zp10_8, zg10_9, zp10_9, zg10_10, zp10_10, zg10_11, zp10_11, zg10_12, zp10_12, zg10_13, zp10_13, zg10_14, zp10_14, zg10_15, zp10_15, zg10_16, zp10_16, zg10_17, zp10_17, zg10_18, zp10_18, zg10_19, zp10_19, zg10_20, zp10_20, zg10_21, zp10_21, zg10_22, zp10_22, zg10_23, zp10_23, zg10_24, zp10_24, zg10_25, zp10_25, zg10_26, zp10_26, zg10_27, zp10_27, zg10_28, zp10_28, zg10_29, zp10_29, zg10_30, zp10_30, zg10_31, zp10_31, zg10_32, zp10_32, zrc_eq, zup_s, zup_n, zup_up, zal_i, zal_b, zal_z, zas_i, zas_b, zas_z, zan_eq, Option.toList_some, Option.toList_none, List.cons_append, List.nil_append, if_true, if_false, ite_true, ite_false, true_or, or_true, zc0, zc1, zc2, zc3, zc4, zc5, zc6, zc119, zc106, zc112, zc99, zc104, zc102, zc108, znI_eq, if_neg, if_pos, pk_mul, nI_add]
                    refine kk _ _ _ (by rw [zup_n (by omega)]; exact h1') ⟨rfl, rfl, ⟨by omega, by omega, rpl, rju, _, by simp (disch := omega) only [zup_n, h55], by simp (disch := omega) only [zup_n, h56], zup_s, q1, q2, ?_, ?_, ?_, ?_, ?_, ?_, ?_⟩, rha, by simp (disch := omega) only [zup_n, h58], q3⟩ (zfr.up (by omega) zfr.rf) <;> simp (disch := omega) only [upd_s, upd_n, r0, r1, r2, r3, r4, r5, r6]
                  · cases ht
                · cases ht
              · cases ht
end C24
