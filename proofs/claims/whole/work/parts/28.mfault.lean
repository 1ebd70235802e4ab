-- the model reads the whole text
section C28
variable {X : Nat × (Nat → Int32)} {N : Nat} {h : zH} {Q : Option Value → Nat → zH → Prop}
variable {np_ nj_ kp su lo dr : Int32} {ab be : Int64} {len p : Nat} {tx : Nat → Int32} {S : zSh}
theorem pMr.bd {h : zH} {rp rj : Int32} {S : zSh} (hm : pMr h rp rj S) : rp = nI S.1.1 ∧ rj = nI S.2.1.1 ∧ S.1.1 ≤ 24 ∧ S.2.1.1 ≤ 6 := by
  obtain ⟨⟨np, wo, sa, au⟩, ⟨nj, le, fo, ro⟩, ⟨pa, pb, pc⟩, ⟨co, hx, hy⟩, hf0, pt⟩ := S
  obtain ⟨e1, e2, ⟨m1, m2, -⟩, -⟩ := hm
  exact ⟨e1, e2, m1, m2⟩
theorem c111 {rp rj : Int32} (hb : bOk tx) (hl : len ≤ 400) (hp : p < len) (h1 : h 53 = mObj (nI len) (nI p) rp rj np_ nj_ kp su lo dr ab be) (h2 : h 54 = .inl (.byte, 400, tx)) (hm : pMr h rp rj S)
    (k1 : ∀ nx S', mIt (bt tx len) p S = some (nx, S') → nx ≤ len → ∀ h' rp' rj', h' 53 = mObj (nI len) (nI nx) rp' rj' np_ nj_ kp su lo dr ab be → pMr h' rp' rj' S' → zfr (fun q => q = 53 ∨ (55 ≤ q ∧ q ≤ 58)) h h' → Q (some (.int 1)) N h')
    (k0 : mIt (bt tx len) p S = none → ∀ h' q, q ≤ len → h' 53 = mObj (nI len) (nI q) rp rj np_ nj_ kp su lo dr ab be → zfr (fun a => a = 53) h h' → Q (some (.int 0)) N h') :
    zE X 111 0 [some (.ref 53), none, none, none, none, none] [] (N, 0, 0) h Q := by
  obtain ⟨e1, e2, m1, m2⟩ := hm.bd
  subst e1; subst e2
  by_cases g0 : bt tx len p = 119
  · exact c111_w hb hl hp g0 h1 h2 hm m1 k1 k0
  by_cases g1 : bt tx len p = 106
  · exact c111_j hb hl hp g1 h1 h2 hm m2 k1 k0
  by_cases g2 : bt tx len p = 112
  · exact c111_p hb hl hp g2 h1 h2 hm m2 k1 k0
  by_cases g3 : bt tx len p = 99
  · exact c111_c hb hl hp g3 h1 h2 hm m2 k1 k0
  by_cases g4 : bt tx len p = 104
  · exact c111_h hb hl hp g4 h1 h2 hm m2 k1 k0
  by_cases g5 : bt tx len p = 102
  · exact c111_f hb hl hp g5 h1 h2 hm m2 k1 k0
  by_cases g6 : bt tx len p = 108
  · exact c111_l hb hl hp g6 h1 h2 hm m2 k1 k0
  have f : ∀ c, c < 128 → bt tx len p ≠ c → (tx p = nI c) = False := fun c hc hn => by rw [mb_eq hb hp hc]; exact eq_false hn
  have h1' := h1
  unfold mObj at h1
  simp (disch := omega) only [e111_0, e111_1, e111_4, e111_5, e111_8, e111_10, e111_11, e111_12, e111_15, e111_16, e111_17, e111_20, e111_21, e111_23, e111_26, e111_27, e111_30, e111_33, e111_36, e111_37, e111_39, e111_42, e111_43, e111_45, e111_48, e111_51, e111_52, e111_54, e111_57, e111_58, e111_60, e111_63, e111_66, e111_67, e111_69, e111_72, e111_73, e111_76, e111_79, e111_82, e111_83, e111_85, e111_88, e111_89, e111_91, e111_94, e111_97, e111_98, e111_100, e111_103, e111_104, e111_106, e111_109, e111_112, e111_113, e111_115, e111_118, e111_119, e111_121, e111_124, e111_127, e111_128, e111_129, e111_130, e111_133, e111_134, e111_135, e111_136, e111_138, e111_141, e111_142, e111_144, e111_147, e111_148, e111_151, e111_152, e111_154, e111_157, e111_158, e111_160, e111_163, e111_164, e111_166, e111_169, e111_172, e111_173, e111_175, e111_178, e111_179, e111_181, e111_184, e111_187, e111_188, e111_190, e111_193, e111_194, e111_195, e111_198, e111_199, e111_200, e111_201, e111_203, e111_206, e111_207, e111_209, e111_212, e111_215, e111_216, e111_218, e111_221, e111_222, e111_224, e111_227, e111_230, e111_231, e111_233, e111_236, e111_237, e111_239, e111_242, e111_245, e111_246, e111_248, e111_250, e111_253, e111_254, e111_257, e111_258, e111_261, e111_264, e111_265, e111_268, e111_269, e111_272, e111_273, e111_275, e111_278, e111_279, e111_282, e111_283, e111_285, e111_287, e111_290, e111_291, e111_293, e111_296, e111_297, e111_300, e111_302, e111_305, e111_306, e111_308, e111_311, e111_312, e111_315, e111_317, e111_320, e111_321, e111_323, e111_326, e111_328, e111_329, e111_332, e111_333, e111_335, e111_338, e111_339, e111_342, e111_343, e111_346, e111_347, e111_349, e111_351, e111_354, e111_355, e111_356, e111_357, e111_358, e111_361, e111_362, e111_363, e111_366, e111_367, e111_368, e111_369, e111_370, e111_372, e111_375, e111_376, h1, h2, zg10_0, zp10_0, zg10_1, zp10_1, zg10_2, zp10_2, zg10_3, zp10_3, zg10_4, zp10_4, zg10_5, zp10_5, zg10_6, zp10_6, zg10_7, zp10_7, zg10_8, zp10_8, zg10_9, zp10_9, zg10_10, zp10_10, zg10_11, zp10_11, zg10_12, zp10_12, zg10_13, zp10_13, zg10_14, zp10_14, zg10_15, zp10_15, zg10_16, zp10_16, zg10_17, zp10_17, zg10_18, zp10_18, zg10_19, zp10_19, zg10_20, zp10_20, zg10_21, zp10_21, zg10_22, zp10_22, zg10_23, zp10_23, zg10_24, zp10_24, zg10_25, zp10_25, zg10_26, zp10_26, zg10_27, zp10_27, zg10_28, zp10_28, zg10_29, zp10_29, zg10_30, zp10_30, zg10_31, zp10_31, zg10_32, zp10_32, zrc_eq, zup_s, zup_n, zup_up, zal_i, zal_b, zal_z, zas_i, zas_b, zas_z, zan_eq, Option.toList_some, Option.toList_none, List.cons_append, List.nil_append, if_true, if_false, ite_true, ite_false, true_or, or_true]
  simp (disch := omega) only [↓reduceIte, e111_0, e111_1, e111_4, e111_5, e111_8, e111_9, e111_10, e111_11, e111_12, e111_15, e111_16, e111_17, e111_20, e111_21, e111_23, e111_26, e111_27, e111_30, e111_33, e111_36, e111_37, e111_39, e111_42, e111_43, e111_45, e111_48, e111_51, e111_52, e111_54, e111_57, e111_58, e111_60, e111_63, e111_66, e111_67, e111_69, e111_72, e111_73, e111_76, e111_79, e111_82, e111_83, e111_85, e111_88, e111_89, e111_91, e111_94, e111_97, e111_98, e111_100, e111_103, e111_104, e111_106, e111_109, e111_112, e111_113, e111_115, e111_118, e111_119, e111_121, e111_124, e111_127, e111_128, e111_129, e111_130, e111_133, e111_134, e111_135, e111_136, e111_138, e111_141, e111_142, e111_144, e111_147, e111_148, e111_151, e111_152, e111_154, e111_157, e111_158, e111_160, e111_163, e111_164, e111_166, e111_169, e111_172, e111_173, e111_175, e111_178, e111_179, e111_181, e111_184, e111_187, e111_188, e111_190, e111_193, e111_194, e111_195, e111_198, e111_199, e111_200, e111_201, e111_203, e111_206, e111_207, e111_209, e111_212, e111_215, e111_216, e111_218, e111_221, e111_222, e111_224, e111_227, e111_230, e111_231, e111_233, e111_236, e111_237, e111_239, e111_242, e111_245, e111_246, e111_248, e111_250, e111_253, e111_254, e111_257, e111_258, e111_261, e111_264, e111_265, e111_268, e111_269, e111_272, e111_273, e111_275, e111_278, e111_279, e111_282, e111_283, e111_285, e111_287, e111_290, e111_291, e111_293, e111_296, e111_297, e111_300, e111_302, e111_305, e111_306, e111_308, e111_311, e111_312, e111_315, e111_317, e111_320, e111_321, e111_323, e111_326, e111_328, e111_329, e111_332, e111_333, e111_335, e111_338, e111_339, e111_342, e111_343, e111_346, e111_347, e111_349, e111_351, e111_354, e111_355, e111_356, e111_357, e111_358, e111_361, e111_362, e111_363, e111_366, e111_367, e111_368, e111_369, e111_370, e111_372, e111_375, e111_376, h1, h2, zg10_0, zp10_0, zg10_1, zp10_1, zg10_2, zp10_2, zg10_3, zp10_3, zg10_4, zp10_4, zg10_5, zp10_5, zg10_6, zp10_6, zg10_7, zp10_7, zg10_8, zp10_8, zg10_9, zp10_9, zg10_10, zp10_10, zg10_11, zp10_11, zg10_12, zp10_12, zg10_13, zp10_13, zg10_14, zp10_14, zg10_15, zp10_15, zg10_16, zp10_16, zg10_17, zp10_17, zg10_18, zp10_18, zg10_19, zp10_19, zg10_20, zp10_20, zg10_21, zp10_21, zg10_22, zp10_22, zg10_23, zp10_23, zg10_24, zp10_24, zg10_25, zp10_25, zg10_26, zp10_26, zg10_27, zp10_27, zg10_28, zp10_28, zg10_29, zp10_29, zg10_30, zp10_30, zg10_31, zp10_31, zg10_32, zp10_32, zrc_eq, zup_s, zup_n, zup_up, zal_i, zal_b, zal_z, zas_i, zas_b, zas_z, zan_eq, Option.toList_some, Option.toList_none, List.cons_append, List.nil_append, if_true, if_false, ite_true, ite_false, true_or, or_true, zc99, zc102, zc104, zc106, zc108, zc112, zc119, f 119 (by decide) g0, f 106 (by decide) g1, f 112 (by decide) g2, f 99 (by decide) g3, f 104 (by decide) g4, f 102 (by decide) g5, f 108 (by decide) g6, show ¬ (0 : Int32) ≤ -1 from by decide]
  exact k0 (mIt_other ⟨g0, g1, g2, g3, g4, g5, g6⟩) _ (p + 1) (by omega) (by rw [zup_s, nI_1]; rfl) (zfr.up rfl zfr.rf)
theorem sAll_mIt {B : Nat → Nat} {f : Nat} : sAll B len (f + 1) p S = if p < len then (match mIt B p S with
    | none => (some p, S)
    | some (nx, S') => sAll B len f nx S') else (none, S) := by
  rw [sAll]
  split
  · unfold mIt
    rcases sItem B 3 (p + 1) [] with _ | ⟨nx, vs⟩
    · rfl
    · dsimp only
      rcases sTakeL (B p) vs S with _ | S'
      · rfl
      · rfl
  · rfl
theorem mIt_gt {B : Nat → Nat} {nx : Nat} {S' : zSh} (h : mIt B p S = some (nx, S')) : p < nx := by
  unfold mIt at h
  rcases hi : sItem B 3 (p + 1) [] with _ | ⟨n, vs⟩
  · rw [hi] at h; cases h
  · rw [hi] at h
    dsimp only at h
    have := sItem_ge _ _ _ _ _ _ hi
    rcases ht : sTakeL (B p) vs S with _ | S2
    · rw [ht] at h; cases h
    · rw [ht] at h; cases h; omega
theorem c110_loop (hb : bOk tx) (hl : len ≤ 400) : ∀ (f p : Nat) (S : zSh) (rp rj : Int32) (h : zH) (l1 : Option Value), len ≤ p + f → p ≤ len → h 53 = mObj (nI len) (nI p) rp rj np_ nj_ kp su lo dr ab be → h 54 = .inl (.byte, 400, tx) → pMr h rp rj S →
    (∀ h' q rp' rj', h' 53 = mObj (nI len) q rp' rj' np_ nj_ kp su lo dr ab be → pMr h' rp' rj' (sAll (bt tx len) len f p S).2 → zfr (fun q => q = 53 ∨ (55 ≤ q ∧ q ≤ 58)) h h' → Q (some (.int (sFl (sAll (bt tx len) len f p S).1))) N h') →
    zE X 110 59 [some (.ref 53), l1] [] (N, 0, 0) h Q := by
  intro f
  induction f with
  | zero =>
    intro p S rp rj h l1 hf hp h1 h2 hm k
    have h1' := h1
    unfold mObj at h1
    rw [e110_59]
    simp (disch := omega) only [e110_0, e110_1, e110_2, e110_5, e110_6, e110_7, e110_10, e110_11, e110_12, e110_15, e110_16, e110_18, e110_20, e110_23, e110_24, e110_27, e110_28, e110_29, e110_30, e110_31, e110_33, e110_36, e110_37, e110_40, e110_41, e110_42, e110_43, e110_46, e110_48, e110_51, e110_52, e110_53, e110_56, e110_60, e110_63, e110_64, e110_67, e110_70, e110_71, e110_74, e110_75, e110_76, e110_79, e110_82, e110_83, e110_84, e110_87, e110_89, h1, zg10_0, zp10_0, zg10_1, zp10_1, zg10_2, zp10_2, zg10_3, zp10_3, zg10_4, zp10_4, zg10_5, zp10_5, zg10_6, zp10_6, zg10_7, zp10_7, zg10_8, zp10_8, zg10_9, zp10_9, zg10_10, zp10_10, zg10_11, zp10_11, zg10_12, zp10_12, zg10_13, zp10_13, zg10_14, zp10_14, zg10_15, zp10_15, zg10_16, zp10_16, zg10_17, zp10_17, zg10_18, zp10_18, zg10_19, zp10_19, zg10_20, zp10_20, zg10_21, zp10_21, zg10_22, zp10_22, zg10_23, zp10_23, zg10_24, zp10_24, zg10_25, zp10_25, zg10_26, zp10_26, zg10_27, zp10_27, zg10_28, zp10_28, zg10_29, zp10_29, zg10_30, zp10_30, zg10_31, zp10_31, zg10_32, zp10_32, zrc_eq, zup_s, zup_n, zup_up, zal_i, zal_b, zal_z, zas_i, zas_b, zas_z, zan_eq, Option.toList_some, Option.toList_none, List.cons_append, List.nil_append, if_true, if_false, ite_true, ite_false, true_or, or_true, znI_le, if_pos]
    exact k h _ rp rj h1' hm zfr.rf
  | succ f ih =>
    intro p S rp rj h l1 hf hp h1 h2 hm k
    have h1' := h1
    unfold mObj at h1
    rw [e110_59]
    rw [sAll_mIt] at k
    by_cases hpl : p < len
    · rw [if_pos hpl] at k
      simp (disch := omega) only [e110_0, e110_1, e110_2, e110_5, e110_6, e110_7, e110_10, e110_11, e110_12, e110_15, e110_16, e110_18, e110_20, e110_23, e110_24, e110_27, e110_28, e110_29, e110_30, e110_31, e110_33, e110_36, e110_37, e110_40, e110_41, e110_42, e110_43, e110_46, e110_48, e110_51, e110_52, e110_53, e110_56, e110_60, e110_63, e110_64, e110_67, e110_70, e110_71, e110_74, e110_75, e110_76, e110_79, e110_82, e110_83, e110_84, e110_87, e110_89, h1, zg10_0, zp10_0, zg10_1, zp10_1, zg10_2, zp10_2, zg10_3, zp10_3, zg10_4, zp10_4, zg10_5, zp10_5, zg10_6, zp10_6, zg10_7, zp10_7, zg10_8, zp10_8, zg10_9, zp10_9, zg10_10, zp10_10, zg10_11, zp10_11, zg10_12, zp10_12, zg10_13, zp10_13, zg10_14, zp10_14, zg10_15, zp10_15, zg10_16, zp10_16, zg10_17, zp10_17, zg10_18, zp10_18, zg10_19, zp10_19, zg10_20, zp10_20, zg10_21, zp10_21, zg10_22, zp10_22, zg10_23, zp10_23, zg10_24, zp10_24, zg10_25, zp10_25, zg10_26, zp10_26, zg10_27, zp10_27, zg10_28, zp10_28, zg10_29, zp10_29, zg10_30, zp10_30, zg10_31, zp10_31, zg10_32, zp10_32, zrc_eq, zup_s, zup_n, zup_up, zal_i, zal_b, zal_z, zas_i, zas_b, zas_z, zan_eq, Option.toList_some, Option.toList_none, List.cons_append, List.nil_append, if_true, if_false, ite_true, ite_false, true_or, or_true, znI_le, if_neg]
      refine c111 hb hl hpl h1' h2 hm (fun nx S' q a1 h' rp' rj' a2 a3 a4 => ?_) (fun q h' q' a1 a2 a3 => ?_)
      · rw [q] at k
        have := mIt_gt q
        simp (disch := omega) only [e110_0, e110_1, e110_2, e110_5, e110_6, e110_7, e110_10, e110_11, e110_12, e110_15, e110_16, e110_18, e110_20, e110_23, e110_24, e110_27, e110_28, e110_29, e110_30, e110_31, e110_33, e110_36, e110_37, e110_40, e110_41, e110_42, e110_43, e110_46, e110_48, e110_51, e110_52, e110_53, e110_56, e110_60, e110_63, e110_64, e110_67, e110_70, e110_71, e110_74, e110_75, e110_76, e110_79, e110_82, e110_83, e110_84, e110_87, e110_89, zrc_eq, zup_s, zup_n, zup_up, zal_i, zal_b, zal_z, zas_i, zas_b, zas_z, zan_eq, Option.toList_some, Option.toList_none, List.cons_append, List.nil_append, if_true, if_false, ite_true, ite_false, true_or, or_true, z10]
        exact ih nx S' rp' rj' h' _ (by omega) a1 a2 ((a4 54 (by omega)).trans h2) a3 (fun h5 q5 rp5 rj5 b1 b2 b3 => k h5 q5 rp5 rj5 b1 b2 (a4.tr b3))
      · rw [q] at k
        simp (disch := omega) only [e110_0, e110_1, e110_2, e110_5, e110_6, e110_7, e110_10, e110_11, e110_12, e110_15, e110_16, e110_18, e110_20, e110_23, e110_24, e110_27, e110_28, e110_29, e110_30, e110_31, e110_33, e110_36, e110_37, e110_40, e110_41, e110_42, e110_43, e110_46, e110_48, e110_51, e110_52, e110_53, e110_56, e110_60, e110_63, e110_64, e110_67, e110_70, e110_71, e110_74, e110_75, e110_76, e110_79, e110_82, e110_83, e110_84, e110_87, e110_89, zrc_eq, zup_s, zup_n, zup_up, zal_i, zal_b, zal_z, zas_i, zas_b, zas_z, zan_eq, Option.toList_some, Option.toList_none, List.cons_append, List.nil_append, if_true, if_false, ite_true, ite_false, true_or, or_true, z00]
        exact k h' _ rp rj a2 (hm.kept a3 (by omega)) (a3.mono (fun a ha => Or.inl ha))
    · rw [if_neg hpl] at k
      simp (disch := omega) only [e110_0, e110_1, e110_2, e110_5, e110_6, e110_7, e110_10, e110_11, e110_12, e110_15, e110_16, e110_18, e110_20, e110_23, e110_24, e110_27, e110_28, e110_29, e110_30, e110_31, e110_33, e110_36, e110_37, e110_40, e110_41, e110_42, e110_43, e110_46, e110_48, e110_51, e110_52, e110_53, e110_56, e110_60, e110_63, e110_64, e110_67, e110_70, e110_71, e110_74, e110_75, e110_76, e110_79, e110_82, e110_83, e110_84, e110_87, e110_89, h1, zg10_0, zp10_0, zg10_1, zp10_1, zg10_2, zp10_2, zg10_3, zp10_3, zg10_4, zp10_4, zg10_5, zp10_5, zg10_6, zp10_6, zg10_7, zp10_7, zg10_8, zp10_8, zg10_9, zp10_9, zg10_10, zp10_10, zg10_11, zp10_11, zg10_12, zp10_12, zg10_13, zp10_13, zg10_14, zp10_14, zg10_15, zp10_15, zg10_16, zp10_16, zg10_17, zp10_17, zg10_18, zp10_18, zg10_19, zp10_19, zg10_20, zp10_20, zg10_21, zp10_21, zg10_22, zp10_22, zg10_23, zp10_23, zg10_24, zp10_24, zg10_25, zp10_25, zg10_26, zp10_26, zg10_27, zp10_27, zg10_28, zp10_28, zg10_29, zp10_29, zg10_30, zp10_30, zg10_31, zp10_31, zg10_32, zp10_32, zrc_eq, zup_s, zup_n, zup_up, zal_i, zal_b, zal_z, zas_i, zas_b, zas_z, zan_eq, Option.toList_some, Option.toList_none, List.cons_append, List.nil_append, if_true, if_false, ite_true, ite_false, true_or, or_true, znI_le, if_pos]
      exact k h _ rp rj h1' hm zfr.rf
/-- the model's rows have their shape -/
theorem pMr.arr {h : zH} {rp rj : Int32} {S : zSh} (hm : pMr h rp rj S) : ∃ rpl rju rre rha : Nat → Int32, h 55 = .inl (.int, 72, rpl) ∧ h 56 = .inl (.int, 18, rju) ∧ h 57 = .inl (.int, 7, rre) ∧ h 58 = .inl (.int, 8, rha) := by
  obtain ⟨⟨np, wo, sa, au⟩, ⟨nj, le, fo, ro⟩, ⟨pa, pb, pc⟩, ⟨co, hx, hy⟩, hf0, pt⟩ := S
  obtain ⟨e1, e2, ⟨m1, m2, rpl, rju, rre, g1, g2, g3, -⟩, rha, g4, -⟩ := hm
  exact ⟨rpl, rju, rre, rha, g1, g2, g3, g4⟩
theorem c110_clr {fs : List Value} (hfs : fs = [.int (nI len), .ref 54, .int (nI 0), .int (nI 0), .ref 55, .int (nI 0), .ref 56, .ref 57, .ref 58, .int np_, .ref 59, .int nj_, .ref 60, .ref 61, .ref 62, .int kp, .ref 63, .ref 64, .ref 65, .ref 66, .ref 67, .ref 68, .ref 69, .ref 70, .ref 71, .int su, .int lo, .int dr, .ref 72, .ref 73, .ref 74, .long ab, .long be]) : ∀ (m i : Nat) (rre rha : Nat → Int32) (h : zH), m + i = 8 → h 53 = .inr (10, fs) → h 57 = .inl (.int, 7, rre) → h 58 = .inl (.int, 8, rha) → (∀ k, k < i → rha k = 0) → (∀ k, k < i → k < 7 → rre k = if k = 3 then 100 else 0) →
    (∀ h' rre' rha', h' 53 = .inr (10, fs) → h' 57 = .inl (.int, 7, rre') → h' 58 = .inl (.int, 8, rha') → (∀ k, k < 8 → rha' k = 0) → (∀ k, k < 7 → rre' k = if k = 3 then 100 else 0) → zfr (fun q => q = 57 ∨ q = 58) h h' → zE X 110 59 [some (.ref 53), some (.int (nI 8))] [] (N, 0, 0) h' Q) →
    zE X 110 17 [some (.ref 53), some (.int (nI i))] [] (N, 0, 0) h Q := by
  subst hfs
  intro m
  induction m with
  | zero =>
    intro i rre rha h hi h1 h2 h3 q1 q2 k
    obtain rfl : i = 8 := by omega
    rw [e110_17]
    simp (disch := omega) only [e110_0, e110_1, e110_2, e110_5, e110_6, e110_7, e110_10, e110_11, e110_12, e110_15, e110_16, e110_18, e110_20, e110_23, e110_24, e110_27, e110_28, e110_29, e110_30, e110_31, e110_33, e110_36, e110_37, e110_40, e110_41, e110_42, e110_43, e110_46, e110_48, e110_51, e110_52, e110_53, e110_56, e110_60, e110_63, e110_64, e110_67, e110_70, e110_71, e110_74, e110_75, e110_76, e110_79, e110_82, e110_83, e110_84, e110_87, e110_89, zc8, znI_le, if_pos]
    exact k h rre rha h1 h2 h3 q1 (fun k hk => q2 k (by omega) hk) zfr.rf
  | succ m ih =>
    intro i rre rha h hi h1 h2 h3 q1 q2 k
    rw [e110_17]
    have r1 : ∀ k, k < i + 1 → upd rha i 0 k = 0 := fun k hk => by
      by_cases e : k = i
      · rw [e, upd_s]
      · rw [upd_n e]; exact q1 k (by omega)
    by_cases g7 : i < 7
    · by_cases g3 : i = 3
      · simp (disch := omega) only [e110_0, e110_1, e110_2, e110_5, e110_6, e110_7, e110_10, e110_11, e110_12, e110_15, e110_16, e110_18, e110_20, e110_23, e110_24, e110_27, e110_28, e110_29, e110_30, e110_31, e110_33, e110_36, e110_37, e110_40, e110_41, e110_42, e110_43, e110_46, e110_48, e110_51, e110_52, e110_53, e110_56, e110_60, e110_63, e110_64, e110_67, e110_70, e110_71, e110_74, e110_75, e110_76, e110_79, e110_82, e110_83, e110_84, e110_87, e110_89, h1, h2, h3, zg10_0, zp10_0, zg10_1, zp10_1, zg10_2, zp10_2, zg10_3, zp10_3, zg10_4, zp10_4, zg10_5, zp10_5, zg10_6, zp10_6, zg10_7, zp10_7, zg10_8, zp10_8, zg10_9, zp10_9, zg10_10, zp10_10, zg10_11, zp10_11, zg10_12, zp10_12, zg10_13, zp10_13, zg10_14, zp10_14, zg10_15, zp10_15, zg10_16, zp10_16, zg10_17, zp10_17, zg10_18, zp10_18, zg10_19, zp10_19, zg10_20, zp10_20, zg10_21, zp10_21, zg10_22, zp10_22, zg10_23, zp10_23, zg10_24, zp10_24, zg10_25, zp10_25, zg10_26, zp10_26, zg10_27, zp10_27, zg10_28, zp10_28, zg10_29, zp10_29, zg10_30, zp10_30, zg10_31, zp10_31, zg10_32, zp10_32, zrc_eq, zup_s, zup_n, zup_up, zal_i, zal_b, zal_z, zas_i, zas_b, zas_z, zan_eq, Option.toList_some, Option.toList_none, List.cons_append, List.nil_append, if_true, if_false, ite_true, ite_false, true_or, or_true, zc3, zc7, zc8, znI_le, znI_eq, if_pos, if_neg, nI_1]
        refine ih (i + 1) _ _ _ (by omega) (by simp (disch := omega) only [zup_s, zup_n, h1]) zup_s (by rw [zup_n (by omega), zup_s]) r1 (fun k hk hk7 => ?_) (fun h' a b c1 c2 c3 c4 c5 c6 => k h' a b c1 c2 c3 c4 c5 (zfr.up (by omega) (zfr.up (by omega) c6)))
        by_cases e : k = i
        · rw [e, upd_s, if_pos g3]
        · rw [upd_n e]; exact q2 k (by omega) hk7
      · simp (disch := omega) only [e110_0, e110_1, e110_2, e110_5, e110_6, e110_7, e110_10, e110_11, e110_12, e110_15, e110_16, e110_18, e110_20, e110_23, e110_24, e110_27, e110_28, e110_29, e110_30, e110_31, e110_33, e110_36, e110_37, e110_40, e110_41, e110_42, e110_43, e110_46, e110_48, e110_51, e110_52, e110_53, e110_56, e110_60, e110_63, e110_64, e110_67, e110_70, e110_71, e110_74, e110_75, e110_76, e110_79, e110_82, e110_83, e110_84, e110_87, e110_89, h1, h2, h3, zg10_0, zp10_0, zg10_1, zp10_1, zg10_2, zp10_2, zg10_3, zp10_3, zg10_4, zp10_4, zg10_5, zp10_5, zg10_6, zp10_6, zg10_7, zp10_7, zg10_8, zp10_8, zg10_9, zp10_9, zg10_10, zp10_10, zg10_11, zp10_11, zg10_12, zp10_12, zg10_13, zp10_13, zg10_14, zp10_14, zg10_15, zp10_15, zg10_16, zp10_16, zg10_17, zp10_17, zg10_18, zp10_18, zg10_19, zp10_19, zg10_20, zp10_20, zg10_21, zp10_21, zg10_22, zp10_22, zg10_23, zp10_23, zg10_24, zp10_24, zg10_25, zp10_25, zg10_26, zp10_26, zg10_27, zp10_27, zg10_28, zp10_28, zg10_29, zp10_29, zg10_30, zp10_30, zg10_31, zp10_31, zg10_32, zp10_32, zrc_eq, zup_s, zup_n, zup_up, zal_i, zal_b, zal_z, zas_i, zas_b, zas_z, zan_eq, Option.toList_some, Option.toList_none, List.cons_append, List.nil_append, if_true, if_false, ite_true, ite_false, true_or, or_true, zc3, zc7, zc8, znI_le, znI_eq, if_pos, if_neg, nI_1]
        refine ih (i + 1) _ _ _ (by omega) (by simp (disch := omega) only [zup_s, zup_n, h1]) zup_s (by rw [zup_n (by omega), zup_s]) r1 (fun k hk hk7 => ?_) (fun h' a b c1 c2 c3 c4 c5 c6 => k h' a b c1 c2 c3 c4 c5 (zfr.up (by omega) (zfr.up (by omega) c6)))
        by_cases e : k = i
        · rw [e, upd_s, if_neg g3]
        · rw [upd_n e]; exact q2 k (by omega) hk7
    · simp (disch := omega) only [e110_0, e110_1, e110_2, e110_5, e110_6, e110_7, e110_10, e110_11, e110_12, e110_15, e110_16, e110_18, e110_20, e110_23, e110_24, e110_27, e110_28, e110_29, e110_30, e110_31, e110_33, e110_36, e110_37, e110_40, e110_41, e110_42, e110_43, e110_46, e110_48, e110_51, e110_52, e110_53, e110_56, e110_60, e110_63, e110_64, e110_67, e110_70, e110_71, e110_74, e110_75, e110_76, e110_79, e110_82, e110_83, e110_84, e110_87, e110_89, h1, h2, h3, zg10_0, zp10_0, zg10_1, zp10_1, zg10_2, zp10_2, zg10_3, zp10_3, zg10_4, zp10_4, zg10_5, zp10_5, zg10_6, zp10_6, zg10_7, zp10_7, zg10_8, zp10_8, zg10_9, zp10_9, zg10_10, zp10_10, zg10_11, zp10_11, zg10_12, zp10_12, zg10_13, zp10_13, zg10_14, zp10_14, zg10_15, zp10_15, zg10_16, zp10_16, zg10_17, zp10_17, zg10_18, zp10_18, zg10_19, zp10_19, zg10_20, zp10_20, zg10_21, zp10_21, zg10_22, zp10_22, zg10_23, zp10_23, zg10_24, zp10_24, zg10_25, zp10_25, zg10_26, zp10_26, zg10_27, zp10_27, zg10_28, zp10_28, zg10_29, zp10_29, zg10_30, zp10_30, zg10_31, zp10_31, zg10_32, zp10_32, zrc_eq, zup_s, zup_n, zup_up, zal_i, zal_b, zal_z, zas_i, zas_b, zas_z, zan_eq, Option.toList_some, Option.toList_none, List.cons_append, List.nil_append, if_true, if_false, ite_true, ite_false, true_or, or_true, zc3, zc7, zc8, znI_le, znI_eq, if_pos, if_neg, nI_1]
      exact ih (i + 1) rre _ _ (by omega) (by simp (disch := omega) only [zup_s, zup_n, h1]) (by rw [zup_n (by omega)]; exact h2) zup_s r1 (fun k hk hk7 => q2 k (by omega) hk7) (fun h' a b c1 c2 c3 c4 c5 c6 => k h' a b c1 c2 c3 c4 c5 (zfr.up (by omega) c6))
/-- fault, of the model -/
theorem c110 {at_ rp rj : Int32} {S0 : zSh} (hb : bOk tx) (hl : len ≤ 400) (h1 : h 53 = mObj (nI len) at_ rp rj np_ nj_ kp su lo dr ab be) (h2 : h 54 = .inl (.byte, 400, tx)) (hm : pMr h rp rj S0)
    (k : ∀ h' q rp' rj', h' 53 = mObj (nI len) q rp' rj' np_ nj_ kp su lo dr ab be → pMr h' rp' rj' (sAll (bt tx len) len 400 0 (sClr S)).2 → zfr (fun q => q = 53 ∨ (55 ≤ q ∧ q ≤ 58)) h h' → Q (some (.int (sFl (sAll (bt tx len) len 400 0 (sClr S)).1))) N h') :
    zE X 110 0 [some (.ref 53), none] [] (N, 0, 0) h Q := by
  obtain ⟨rpl, rju, rre, rha, g1, g2, g3, g4⟩ := hm.arr
  unfold mObj at h1
  simp (disch := omega) only [e110_0, e110_1, e110_2, e110_5, e110_6, e110_7, e110_10, e110_11, e110_12, e110_15, e110_16, e110_18, e110_20, e110_23, e110_24, e110_27, e110_28, e110_29, e110_30, e110_31, e110_33, e110_36, e110_37, e110_40, e110_41, e110_42, e110_43, e110_46, e110_48, e110_51, e110_52, e110_53, e110_56, e110_60, e110_63, e110_64, e110_67, e110_70, e110_71, e110_74, e110_75, e110_76, e110_79, e110_82, e110_83, e110_84, e110_87, e110_89, h1, zg10_0, zp10_0, zg10_1, zp10_1, zg10_2, zp10_2, zg10_3, zp10_3, zg10_4, zp10_4, zg10_5, zp10_5, zg10_6, zp10_6, zg10_7, zp10_7, zg10_8, zp10_8, zg10_9, zp10_9, zg10_10, zp10_10, zg10_11, zp10_11, zg10_12, zp10_12, zg10_13, zp10_13, zg10_14, zp10_14, zg10_15, zp10_15, zg10_16, zp10_16, zg10_17, zp10_17, zg10_18, zp10_18, zg10_19, zp10_19, zg10_20, zp10_20, zg10_21, zp10_21, zg10_22, zp10_22, zg10_23, zp10_23, zg10_24, zp10_24, zg10_25, zp10_25, zg10_26, zp10_26, zg10_27, zp10_27, zg10_28, zp10_28, zg10_29, zp10_29, zg10_30, zp10_30, zg10_31, zp10_31, zg10_32, zp10_32, zrc_eq, zup_s, zup_n, zup_up, zal_i, zal_b, zal_z, zas_i, zas_b, zas_z, zan_eq, Option.toList_some, Option.toList_none, List.cons_append, List.nil_append, if_true, if_false, ite_true, ite_false, true_or, or_true, zc0]
  refine c110_clr rfl 8 0 rre rha _ (by omega) zup_s (by rw [zup_n (by omega)]; exact g3) (by rw [zup_n (by omega)]; exact g4) (fun k hk => by omega) (fun k hk => by omega) (fun h' rre' rha' a1 a2 a3 a4 a5 a6 => ?_)
  refine c110_loop hb hl 400 0 (sClr S) _ _ h' _ (by omega) (by omega) a1 ((a6 54 (by omega)).trans ((zup_n (by omega)).trans h2)) ?_ (fun h5 q rp' rj' b1 b2 b3 => k h5 q rp' rj' b1 b2 (zfr.up (Or.inl rfl) ((a6.mono (fun a ha => by omega)).tr b3)))
  obtain ⟨⟨np, wo, sa, au⟩, ⟨nj, le, fo, ro⟩, ⟨pa, pb, pc⟩, ⟨co, hx, hy⟩, hf0, pt⟩ := S
  refine ⟨rfl, rfl, ⟨by omega, by omega, rpl, rju, rre', ?_, ?_, a2, fun i hi => by omega, fun i hi => by omega, a5 0 (by omega), a5 1 (by omega), a5 2 (by omega), a5 3 (by omega), a5 4 (by omega), a5 5 (by omega), a5 6 (by omega)⟩, rha', a3, fun k hk => ?_⟩
  · exact (a6 55 (by omega)).trans ((zup_n (by omega)).trans g1)
  · exact (a6 56 (by omega)).trans ((zup_n (by omega)).trans g2)
  · rw [a4 k hk]
    exact (if_pos hk).symm
end C28
