-- brings of the model
section C47
variable {X : Nat × (Nat → Int32)} {N : Nat} {h : zH} {Q : Option Value → Nat → zH → Prop} {S : zSh} {F : Nat → zTm} {D : Nat → Prop} {p d w mo : Int32}
variable {len at_ rp rj np_ nj_ kp su lo dr : Int32} {ab be : Int64}
set_option maxHeartbeats 2000000 in
/-- the model's worth of a plan -/
theorem pMs.wo {h : zH} (hs : pMs h 59 60 61 S) (ok : sK S) : ∃ rpl : Nat → Int32, h 59 = .inl (.int, 72, rpl) ∧ ∀ i, i < S.1.1 → rpl (3 * i) = nI (sW S i) := by
  obtain ⟨m1, m2, rpl, rju, rre, g1, g2, g3, w1, w2, -⟩ := hs.rows
  exact ⟨rpl, g1, fun i hi => (w1 i hi).1.trans (ok.wo hi).1⟩
set_option maxHeartbeats 2000000 in
theorem c141_loop {n a b : Nat} {f : Nat → Nat} {od rpl : Nat → Int32} (h24 : S.1.1 ≤ 24) (h1 : h 53 = mObj len at_ rp rj np_ nj_ kp su lo dr ab be) (h2 : h 69 = .inl (.int, 48, od)) (h3 : h 59 = .inl (.int, 72, rpl)) (hr : ∀ i, i < S.1.1 → rpl (3 * i) = nI (sW S i)) (hn : n ≤ 24) (ho : ∀ j, j < n → od j = nI (f j)) (hf : ∀ j, j < n → f j < S.1.1) (hab : a + b ≤ n) : ∀ m u, m + u = b → zE X 141 5 [some (.ref 53), some (.int (nI a)), some (.int (nI b)), some (.int (nI (nSum (fun k => sW S (f (a + k))) u))), some (.int (nI (a + u)))] [] (N, 0, 0) h Q = Q (some (.int (nI (nSum (fun k => sW S (f (a + k))) b)))) N h := by
  unfold mObj at h1
  intro m
  induction m with
  | zero =>
    intro u hu
    obtain rfl : u = b := by omega
    rw [e141_5]
    simp (disch := omega) only [e141_0, e141_1, e141_2, e141_3, e141_7, e141_8, e141_9, e141_10, e141_13, e141_14, e141_15, e141_18, e141_19, e141_20, e141_23, e141_25, e141_26, e141_27, e141_28, e141_29, e141_30, e141_33, e141_36, e141_37, nI_add, znI_le, if_pos]
  | succ m ih =>
    intro u hu
    have ih' := ih (u + 1) (by omega)
    rw [nSum, ← Nat.add_assoc] at ih'
    have hfu := hf (a + u) (by omega)
    have e3 : (3 : Int32) * nI (f (a + u)) = nI (3 * f (a + u)) := by rw [zc3, pk_mul]
    rw [e141_5]
    simp (disch := omega) only [e141_0, e141_1, e141_2, e141_3, e141_7, e141_8, e141_9, e141_10, e141_13, e141_14, e141_15, e141_18, e141_19, e141_20, e141_23, e141_25, e141_27, e141_28, e141_29, e141_30, e141_33, e141_36, e141_37, h1, h2, zg10_0, zp10_0, zg10_1, zp10_1, zg10_2, zp10_2, zg10_3, zp10_3, zg10_4, zp10_4, zg10_5, zp10_5, zg10_6, zp10_6, zg10_7, zp10_7, zg10_8, zp10_8, zg10_9, zp10_9, zg10_10, zp10_10, zg10_11, zp10_11, zg10_12, zp10_12, zg10_13, zp10_13, zg10_14, zp10_14, zg10_15, zp10_15, zg10_16, zp10_16, zg10_17, zp10_17, zg10_18, zp10_18, zg10_19, zp10_19, zg10_20, zp10_20, zg10_21, zp10_21, zg10_22, zp10_22, zg10_23, zp10_23, zg10_24, zp10_24, zg10_25, zp10_25, zg10_26, zp10_26, zg10_27, zp10_27, zg10_28, zp10_28, zg10_29, zp10_29, zg10_30, zp10_30, zg10_31, zp10_31, zg10_32, zp10_32, zrc_eq, zup_s, zup_n, zup_up, zal_i, zal_b, zal_z, zas_i, zas_b, zas_z, zan_eq, Option.toList_some, Option.toList_none, List.cons_append, List.nil_append, if_true, if_false, ite_true, ite_false, true_or, or_true, nI_add, znI_le, if_neg, ho]
    simp (disch := omega) only [e141_0, e141_1, e141_2, e141_3, e141_7, e141_8, e141_9, e141_10, e141_13, e141_14, e141_15, e141_18, e141_19, e141_20, e141_23, e141_25, e141_26, e141_27, e141_28, e141_29, e141_30, e141_33, e141_36, e141_37, h3, zrc_eq, zup_s, zup_n, zup_up, zal_i, zal_b, zal_z, zas_i, zas_b, zas_z, zan_eq, Option.toList_some, Option.toList_none, List.cons_append, List.nil_append, if_true, if_false, ite_true, ite_false, true_or, or_true, e3, hr _ hfu, nI_add, nI_1]
    exact ih'
set_option maxHeartbeats 2000000 in
theorem c141 {n a b : Nat} {f : Nat → Nat} (ok : sK S) (h1 : h 53 = mObj len at_ rp rj np_ nj_ kp su lo dr ab be) (hs : pMs h 59 60 61 S) (hn : pMn h 0 n f) (hf : ∀ j, j < n → f j < S.1.1) (hab : a + b ≤ n) : zE X 141 0 [some (.ref 53), some (.int (nI a)), some (.int (nI b)), none, none] [] (N, 0, 0) h Q = Q (some (.int (nI (nSum (fun k => sW S (f (a + k))) b)))) N h := by
  obtain ⟨rpl, g1, g2⟩ := hs.wo ok
  obtain ⟨mn, od, rk, mk, n1, n2, n3, n4, n5, n6, n7, n8, n9⟩ := hn
  simp only [e141_0, e141_1, e141_2, e141_3, e141_7, e141_8, e141_9, e141_10, e141_13, e141_14, e141_15, e141_18, e141_19, e141_20, e141_23, e141_25, e141_26, e141_27, e141_28, e141_29, e141_30, e141_33, e141_36, e141_37]
  exact c141_loop ok.1.1 h1 n2 g1 g2 n5 (fun j hj => by have := n7 j hj; rwa [Nat.mul_zero, Nat.zero_add] at this) hf hab b 0 (by omega)
/-- no worse, as what is looked for goes -/
def bet (mo : Int32) (a b : Nat) : Prop := if mo = 0 then a ≤ b else b ≤ a
set_option maxHeartbeats 2000000 in
theorem bet.rf {a : Nat} : bet mo a a := by unfold bet; split <;> omega
set_option maxHeartbeats 2000000 in
theorem c142_24 {k l : Nat} {W : Nat → Nat} {f rpl : Nat → Int32} {l2 : Option Value} (h24 : S.1.1 ≤ 24) (h1 : h 53 = mObj len at_ rp rj np_ nj_ kp su (nI l) dr ab be) (h2 : h 72 = .inl (.int, 24, f)) (h3 : h 59 = .inl (.int, 72, rpl)) (hr : ∀ i, i < S.1.1 → rpl (3 * i) = nI (sW S i)) (hw9 : ∀ i, i < S.1.1 → sW S i ≤ 999) (hl : l ≤ 24) (hW : ∀ j, j < l → f j = nI (W j) ∧ W j < S.1.1) : ∀ (m i b : Nat) (l6 l7 : Option Value), m + i = l → k ≤ b → b < i → (∀ j, k ≤ j → j < i → bet mo (sW S (W b)) (sW S (W j))) →
    (∀ b l6 l7, k ≤ b → b < l → (∀ j, k ≤ j → j < l → bet mo (sW S (W b)) (sW S (W j))) → zE X 142 108 [some (.ref 53), some (.int mo), l2, some (.int (nI k)), some (.int (nI b)), some (.int (nI l)), l6, l7] [] (N, 0, 0) h Q) →
    zE X 142 24 [some (.ref 53), some (.int mo), l2, some (.int (nI k)), some (.int (nI b)), some (.int (nI i)), l6, l7] [] (N, 0, 0) h Q := by
  unfold mObj at h1
  intro m
  induction m with
  | zero =>
    intro i b l6 l7 hm hb hbi ha K
    obtain rfl : i = l := by omega
    rw [e142_24]
    simp (disch := omega) only [e142_0, e142_1, e142_4, e142_5, e142_6, e142_7, e142_9, e142_10, e142_13, e142_16, e142_17, e142_19, e142_20, e142_21, e142_22, e142_26, e142_27, e142_30, e142_33, e142_34, e142_37, e142_38, e142_39, e142_42, e142_44, e142_45, e142_46, e142_47, e142_49, e142_50, e142_53, e142_54, e142_55, e142_58, e142_60, e142_61, e142_62, e142_63, e142_65, e142_66, e142_69, e142_71, e142_73, e142_76, e142_78, e142_81, e142_83, e142_86, e142_88, e142_90, e142_93, e142_95, e142_98, e142_100, e142_102, e142_105, e142_109, e142_112, e142_113, e142_114, e142_116, e142_117, e142_120, e142_121, e142_122, e142_125, e142_127, e142_128, e142_129, e142_130, e142_133, e142_135, e142_137, e142_138, e142_139, e142_140, e142_143, e142_144, e142_145, e142_148, e142_149, e142_150, e142_151, e142_152, e142_153, e142_154, e142_157, e142_160, e142_161, h1, zg10_0, zp10_0, zg10_1, zp10_1, zg10_2, zp10_2, zg10_3, zp10_3, zg10_4, zp10_4, zg10_5, zp10_5, zg10_6, zp10_6, zg10_7, zp10_7, zg10_8, zp10_8, zg10_9, zp10_9, zg10_10, zp10_10, zg10_11, zp10_11, zg10_12, zp10_12, zg10_13, zp10_13, zg10_14, zp10_14, zg10_15, zp10_15, zg10_16, zp10_16, zg10_17, zp10_17, zg10_18, zp10_18, zg10_19, zp10_19, zg10_20, zp10_20, zg10_21, zp10_21, zg10_22, zp10_22, zg10_23, zp10_23, zg10_24, zp10_24, zg10_25, zp10_25, zg10_26, zp10_26, zg10_27, zp10_27, zg10_28, zp10_28, zg10_29, zp10_29, zg10_30, zp10_30, zg10_31, zp10_31, zg10_32, zp10_32, zrc_eq, zup_s, zup_n, zup_up, zal_i, zal_b, zal_z, zas_i, zas_b, zas_z, zan_eq, Option.toList_some, Option.toList_none, List.cons_append, List.nil_append, if_true, if_false, ite_true, ite_false, true_or, or_true, znI_le, if_pos]
    exact K b _ _ hb hbi ha
  | succ m ih =>
    intro i b l6 l7 hm hb hbi ha K
    obtain ⟨p1, p2⟩ := hW i (by omega)
    obtain ⟨q1, q2⟩ := hW b (by omega)
    have e1 : (3 : Int32) * nI (W i) = nI (3 * W i) := by rw [zc3, pk_mul]
    have e2 : (3 : Int32) * nI (W b) = nI (3 * W b) := by rw [zc3, pk_mul]
    have r1 := hr _ p2
    have r2 := hr _ q2
    have s1 := hw9 _ p2
    have s2 := hw9 _ q2
    rw [e142_24]
    simp (disch := omega) only [e142_0, e142_1, e142_4, e142_5, e142_6, e142_7, e142_9, e142_10, e142_13, e142_16, e142_17, e142_19, e142_20, e142_21, e142_22, e142_26, e142_27, e142_30, e142_33, e142_34, e142_37, e142_38, e142_39, e142_42, e142_44, e142_46, e142_47, e142_49, e142_50, e142_53, e142_54, e142_55, e142_58, e142_60, e142_61, e142_62, e142_63, e142_65, e142_66, e142_69, e142_71, e142_73, e142_76, e142_78, e142_81, e142_83, e142_86, e142_88, e142_90, e142_93, e142_95, e142_98, e142_100, e142_102, e142_105, e142_109, e142_112, e142_113, e142_114, e142_116, e142_117, e142_120, e142_121, e142_122, e142_125, e142_127, e142_128, e142_129, e142_130, e142_133, e142_135, e142_137, e142_138, e142_139, e142_140, e142_143, e142_144, e142_145, e142_148, e142_149, e142_150, e142_151, e142_152, e142_153, e142_154, e142_157, e142_160, e142_161, h1, h2, zg10_0, zp10_0, zg10_1, zp10_1, zg10_2, zp10_2, zg10_3, zp10_3, zg10_4, zp10_4, zg10_5, zp10_5, zg10_6, zp10_6, zg10_7, zp10_7, zg10_8, zp10_8, zg10_9, zp10_9, zg10_10, zp10_10, zg10_11, zp10_11, zg10_12, zp10_12, zg10_13, zp10_13, zg10_14, zp10_14, zg10_15, zp10_15, zg10_16, zp10_16, zg10_17, zp10_17, zg10_18, zp10_18, zg10_19, zp10_19, zg10_20, zp10_20, zg10_21, zp10_21, zg10_22, zp10_22, zg10_23, zp10_23, zg10_24, zp10_24, zg10_25, zp10_25, zg10_26, zp10_26, zg10_27, zp10_27, zg10_28, zp10_28, zg10_29, zp10_29, zg10_30, zp10_30, zg10_31, zp10_31, zg10_32, zp10_32, zrc_eq, zup_s, zup_n, zup_up, zal_i, zal_b, zal_z, zas_i, zas_b, zas_z, zan_eq, Option.toList_some, Option.toList_none, List.cons_append, List.nil_append, if_true, if_false, ite_true, ite_false, true_or, or_true, znI_le, if_neg, p1]
    simp (disch := omega) only [e142_0, e142_1, e142_4, e142_5, e142_6, e142_7, e142_9, e142_10, e142_13, e142_16, e142_17, e142_19, e142_20, e142_21, e142_22, e142_26, e142_27, e142_30, e142_33, e142_34, e142_37, e142_38, e142_39, e142_42, e142_44, e142_45, e142_46, e142_47, e142_49, e142_50, e142_53, e142_54, e142_55, e142_58, e142_60, e142_62, e142_63, e142_65, e142_66, e142_69, e142_71, e142_73, e142_76, e142_78, e142_81, e142_83, e142_86, e142_88, e142_90, e142_93, e142_95, e142_98, e142_100, e142_102, e142_105, e142_109, e142_112, e142_113, e142_114, e142_116, e142_117, e142_120, e142_121, e142_122, e142_125, e142_127, e142_128, e142_129, e142_130, e142_133, e142_135, e142_137, e142_138, e142_139, e142_140, e142_143, e142_144, e142_145, e142_148, e142_149, e142_150, e142_151, e142_152, e142_153, e142_154, e142_157, e142_160, e142_161, h1, h2, h3, zg10_0, zp10_0, zg10_1, zp10_1, zg10_2, zp10_2, zg10_3, zp10_3, zg10_4, zp10_4, zg10_5, zp10_5, zg10_6, zp10_6, zg10_7, zp10_7, zg10_8, zp10_8, zg10_9, zp10_9, zg10_10, zp10_10, zg10_11, zp10_11, zg10_12, zp10_12, zg10_13, zp10_13, zg10_14, zp10_14, zg10_15, zp10_15, zg10_16, zp10_16, zg10_17, zp10_17, zg10_18, zp10_18, zg10_19, zp10_19, zg10_20, zp10_20, zg10_21, zp10_21, zg10_22, zp10_22, zg10_23, zp10_23, zg10_24, zp10_24, zg10_25, zp10_25, zg10_26, zp10_26, zg10_27, zp10_27, zg10_28, zp10_28, zg10_29, zp10_29, zg10_30, zp10_30, zg10_31, zp10_31, zg10_32, zp10_32, zrc_eq, zup_s, zup_n, zup_up, zal_i, zal_b, zal_z, zas_i, zas_b, zas_z, zan_eq, Option.toList_some, Option.toList_none, List.cons_append, List.nil_append, if_true, if_false, ite_true, ite_false, true_or, or_true, e1, r1, q1]
    simp (disch := omega) only [e142_0, e142_1, e142_4, e142_5, e142_6, e142_7, e142_9, e142_10, e142_13, e142_16, e142_17, e142_19, e142_20, e142_21, e142_22, e142_26, e142_27, e142_30, e142_33, e142_34, e142_37, e142_38, e142_39, e142_42, e142_44, e142_45, e142_46, e142_47, e142_49, e142_50, e142_53, e142_54, e142_55, e142_58, e142_60, e142_61, e142_62, e142_63, e142_65, e142_69, e142_71, e142_73, e142_76, e142_78, e142_81, e142_83, e142_86, e142_88, e142_90, e142_93, e142_95, e142_98, e142_100, e142_102, e142_105, e142_109, e142_112, e142_113, e142_114, e142_116, e142_117, e142_120, e142_121, e142_122, e142_125, e142_127, e142_128, e142_129, e142_130, e142_133, e142_135, e142_137, e142_138, e142_139, e142_140, e142_143, e142_144, e142_145, e142_148, e142_149, e142_150, e142_151, e142_152, e142_153, e142_154, e142_157, e142_160, e142_161, h3, zrc_eq, zup_s, zup_n, zup_up, zal_i, zal_b, zal_z, zas_i, zas_b, zas_z, zan_eq, Option.toList_some, Option.toList_none, List.cons_append, List.nil_append, if_true, if_false, ite_true, ite_false, true_or, or_true, e2, r2]
    rw [e142_66]
    by_cases g : mo = 0
    · rw [if_pos g]
      simp (disch := omega) only [e142_0, e142_1, e142_4, e142_5, e142_6, e142_7, e142_9, e142_10, e142_13, e142_16, e142_17, e142_19, e142_20, e142_21, e142_22, e142_26, e142_27, e142_30, e142_33, e142_34, e142_37, e142_38, e142_39, e142_42, e142_44, e142_45, e142_46, e142_47, e142_49, e142_50, e142_53, e142_54, e142_55, e142_58, e142_60, e142_61, e142_62, e142_63, e142_65, e142_66, e142_69, e142_71, e142_73, e142_76, e142_78, e142_81, e142_83, e142_86, e142_88, e142_93, e142_95, e142_98, e142_100, e142_102, e142_105, e142_109, e142_112, e142_113, e142_114, e142_116, e142_117, e142_120, e142_121, e142_122, e142_125, e142_127, e142_128, e142_129, e142_130, e142_133, e142_135, e142_137, e142_138, e142_139, e142_140, e142_143, e142_144, e142_145, e142_148, e142_149, e142_150, e142_151, e142_152, e142_153, e142_154, e142_157, e142_160, e142_161, znI_le]
      simp (disch := omega) only [e142_90, znI_le]
      by_cases g2 : sW S (W i) < sW S (W b)
      · rw [if_neg (by omega)]
        simp (disch := omega) only [e142_0, e142_1, e142_4, e142_5, e142_6, e142_7, e142_9, e142_10, e142_13, e142_16, e142_17, e142_19, e142_20, e142_21, e142_22, e142_26, e142_27, e142_30, e142_33, e142_34, e142_37, e142_38, e142_39, e142_42, e142_44, e142_45, e142_46, e142_47, e142_49, e142_50, e142_53, e142_54, e142_55, e142_58, e142_60, e142_61, e142_62, e142_63, e142_65, e142_66, e142_69, e142_71, e142_73, e142_76, e142_78, e142_81, e142_83, e142_86, e142_88, e142_90, e142_93, e142_95, e142_98, e142_100, e142_102, e142_105, e142_109, e142_112, e142_113, e142_114, e142_116, e142_117, e142_120, e142_121, e142_122, e142_125, e142_127, e142_128, e142_129, e142_130, e142_133, e142_135, e142_137, e142_138, e142_139, e142_140, e142_143, e142_144, e142_145, e142_148, e142_149, e142_150, e142_151, e142_152, e142_153, e142_154, e142_157, e142_160, e142_161, nI_1]
        refine ih (i + 1) i _ _ (by omega) (by omega) (by omega) (fun j hj hj2 => ?_) K
        by_cases q : j = i
        · rw [q]; exact bet.rf
        · have := ha j hj (by omega)
          unfold bet at this ⊢
          rw [if_pos g] at this ⊢
          omega
      · rw [if_pos (by omega)]
        simp (disch := omega) only [e142_0, e142_1, e142_4, e142_5, e142_6, e142_7, e142_9, e142_10, e142_13, e142_16, e142_17, e142_19, e142_20, e142_21, e142_22, e142_26, e142_27, e142_30, e142_33, e142_34, e142_37, e142_38, e142_39, e142_42, e142_44, e142_45, e142_46, e142_47, e142_49, e142_50, e142_53, e142_54, e142_55, e142_58, e142_60, e142_61, e142_62, e142_63, e142_65, e142_66, e142_69, e142_71, e142_73, e142_76, e142_78, e142_81, e142_83, e142_86, e142_88, e142_90, e142_93, e142_95, e142_98, e142_100, e142_102, e142_105, e142_109, e142_112, e142_113, e142_114, e142_116, e142_117, e142_120, e142_121, e142_122, e142_125, e142_127, e142_128, e142_129, e142_130, e142_133, e142_135, e142_137, e142_138, e142_139, e142_140, e142_143, e142_144, e142_145, e142_148, e142_149, e142_150, e142_151, e142_152, e142_153, e142_154, e142_157, e142_160, e142_161, nI_1]
        refine ih (i + 1) b _ _ (by omega) hb (by omega) (fun j hj hj2 => ?_) K
        by_cases q : j = i
        · rw [q]; unfold bet; rw [if_pos g]; omega
        · exact ha j hj (by omega)
    · rw [if_neg g]
      simp (disch := omega) only [e142_0, e142_1, e142_4, e142_5, e142_6, e142_7, e142_9, e142_10, e142_13, e142_16, e142_17, e142_19, e142_20, e142_21, e142_22, e142_26, e142_27, e142_30, e142_33, e142_34, e142_37, e142_38, e142_39, e142_42, e142_44, e142_45, e142_46, e142_47, e142_49, e142_50, e142_53, e142_54, e142_55, e142_58, e142_60, e142_61, e142_62, e142_63, e142_65, e142_66, e142_69, e142_71, e142_76, e142_78, e142_81, e142_83, e142_86, e142_88, e142_90, e142_93, e142_95, e142_98, e142_100, e142_102, e142_105, e142_109, e142_112, e142_113, e142_114, e142_116, e142_117, e142_120, e142_121, e142_122, e142_125, e142_127, e142_128, e142_129, e142_130, e142_133, e142_135, e142_137, e142_138, e142_139, e142_140, e142_143, e142_144, e142_145, e142_148, e142_149, e142_150, e142_151, e142_152, e142_153, e142_154, e142_157, e142_160, e142_161, znI_le]
      simp (disch := omega) only [e142_73, znI_le]
      by_cases g2 : sW S (W b) < sW S (W i)
      · rw [if_neg (by omega)]
        simp (disch := omega) only [e142_0, e142_1, e142_4, e142_5, e142_6, e142_7, e142_9, e142_10, e142_13, e142_16, e142_17, e142_19, e142_20, e142_21, e142_22, e142_26, e142_27, e142_30, e142_33, e142_34, e142_37, e142_38, e142_39, e142_42, e142_44, e142_45, e142_46, e142_47, e142_49, e142_50, e142_53, e142_54, e142_55, e142_58, e142_60, e142_61, e142_62, e142_63, e142_65, e142_66, e142_69, e142_71, e142_73, e142_76, e142_78, e142_81, e142_83, e142_86, e142_88, e142_90, e142_93, e142_95, e142_98, e142_100, e142_102, e142_105, e142_109, e142_112, e142_113, e142_114, e142_116, e142_117, e142_120, e142_121, e142_122, e142_125, e142_127, e142_128, e142_129, e142_130, e142_133, e142_135, e142_137, e142_138, e142_139, e142_140, e142_143, e142_144, e142_145, e142_148, e142_149, e142_150, e142_151, e142_152, e142_153, e142_154, e142_157, e142_160, e142_161, nI_1]
        refine ih (i + 1) i _ _ (by omega) (by omega) (by omega) (fun j hj hj2 => ?_) K
        by_cases q : j = i
        · rw [q]; exact bet.rf
        · have := ha j hj (by omega)
          unfold bet at this ⊢
          rw [if_neg g] at this ⊢
          omega
      · rw [if_pos (by omega)]
        simp (disch := omega) only [e142_0, e142_1, e142_4, e142_5, e142_6, e142_7, e142_9, e142_10, e142_13, e142_16, e142_17, e142_19, e142_20, e142_21, e142_22, e142_26, e142_27, e142_30, e142_33, e142_34, e142_37, e142_38, e142_39, e142_42, e142_44, e142_45, e142_46, e142_47, e142_49, e142_50, e142_53, e142_54, e142_55, e142_58, e142_60, e142_61, e142_62, e142_63, e142_65, e142_66, e142_69, e142_71, e142_73, e142_76, e142_78, e142_81, e142_83, e142_86, e142_88, e142_90, e142_93, e142_95, e142_98, e142_100, e142_102, e142_105, e142_109, e142_112, e142_113, e142_114, e142_116, e142_117, e142_120, e142_121, e142_122, e142_125, e142_127, e142_128, e142_129, e142_130, e142_133, e142_135, e142_137, e142_138, e142_139, e142_140, e142_143, e142_144, e142_145, e142_148, e142_149, e142_150, e142_151, e142_152, e142_153, e142_154, e142_157, e142_160, e142_161, nI_1]
        refine ih (i + 1) b _ _ (by omega) hb (by omega) (fun j hj hj2 => ?_) K
        by_cases q : j = i
        · rw [q]; unfold bet; rw [if_neg g]; omega
        · exact ha j hj (by omega)
set_option maxHeartbeats 2000000 in
theorem swp_ge {W : Nat → Nat} {k b j l : Nat} (hk : k ≤ b) (hb : b < l) (hj : k ≤ j) (hjl : j < l) : ∃ i, k ≤ i ∧ i < l ∧ swp W k b j = W i := by
  unfold swp
  by_cases e : j = k
  · rw [if_pos e]; exact ⟨b, hk, hb, rfl⟩
  · rw [if_neg e]
    by_cases e2 : j = b
    · rw [if_pos e2]; exact ⟨k, Nat.le_refl _, by omega, rfl⟩
    · rw [if_neg e2]; exact ⟨j, hj, hjl, rfl⟩
set_option maxHeartbeats 2000000 in
theorem swp_lt {W : Nat → Nat} {k b j : Nat} (hk : k ≤ b) (hj : j < k) : swp W k b j = W j := by
  unfold swp
  rw [if_neg (by omega), if_neg (by omega)]
set_option maxHeartbeats 2000000 in
theorem swp_k {W : Nat → Nat} {k b : Nat} : swp W k b k = W b := by unfold swp; rw [if_pos rfl]
set_option maxHeartbeats 2000000 in
theorem c142_8 {l c : Nat} {L : Nat → Nat} {rpl : Nat → Int32} (h24 : S.1.1 ≤ 24) (hr : ∀ i, i < S.1.1 → rpl (3 * i) = nI (sW S i)) (hw9 : ∀ i, i < S.1.1 → sW S i ≤ 999) (hl : l ≤ 24) (hc : c ≤ l) : ∀ (m k : Nat) (W : Nat → Nat) (h : zH) (l4 l5 l6 l7 : Option Value), m + k = c → h 53 = mObj len at_ rp rj np_ nj_ kp su (nI l) (nI c) ab be → h 59 = .inl (.int, 72, rpl) → pWt h l W → (∀ j, j < l → W j < S.1.1) → (∀ i j, i < k → i < j → j < l → bet mo (sW S (W i)) (sW S (W j))) → (∀ p, cq p (fun j => sW S (W j)) l = cq p (fun j => sW S (L j)) l) →
    (∀ h' W', pWt h' l W' → (∀ j, j < l → W' j < S.1.1) → (∀ i j, i < c → i < j → j < l → bet mo (sW S (W' i)) (sW S (W' j))) → (∀ p, cq p (fun j => sW S (W' j)) l = cq p (fun j => sW S (L j)) l) → zfr (fun a => a = 72) h h' → Q (some (.int (nI (nSum (fun j => sW S (W' j)) c)))) N h') →
    zE X 142 8 [some (.ref 53), some (.int mo), some (.int (nI (nSum (fun j => sW S (W j)) k))), some (.int (nI k)), l4, l5, l6, l7] [] (N, 0, 0) h Q := by
  intro m
  induction m with
  | zero =>
    intro k W h l4 l5 l6 l7 hm h1 h3 hw hlt hb hq K
    obtain rfl : k = c := by omega
    unfold mObj at h1
    rw [e142_8]
    simp (disch := omega) only [e142_0, e142_1, e142_4, e142_5, e142_6, e142_7, e142_9, e142_10, e142_13, e142_16, e142_17, e142_19, e142_20, e142_21, e142_22, e142_26, e142_27, e142_30, e142_33, e142_34, e142_37, e142_38, e142_39, e142_42, e142_44, e142_45, e142_46, e142_47, e142_49, e142_50, e142_53, e142_54, e142_55, e142_58, e142_60, e142_61, e142_62, e142_63, e142_65, e142_66, e142_69, e142_71, e142_73, e142_76, e142_78, e142_81, e142_83, e142_86, e142_88, e142_90, e142_93, e142_95, e142_98, e142_100, e142_102, e142_105, e142_108, e142_109, e142_112, e142_113, e142_114, e142_116, e142_117, e142_120, e142_121, e142_122, e142_125, e142_127, e142_128, e142_129, e142_130, e142_133, e142_135, e142_137, e142_138, e142_139, e142_140, e142_143, e142_144, e142_145, e142_148, e142_149, e142_150, e142_151, e142_152, e142_153, e142_154, e142_157, e142_160, e142_161, h1, zg10_0, zp10_0, zg10_1, zp10_1, zg10_2, zp10_2, zg10_3, zp10_3, zg10_4, zp10_4, zg10_5, zp10_5, zg10_6, zp10_6, zg10_7, zp10_7, zg10_8, zp10_8, zg10_9, zp10_9, zg10_10, zp10_10, zg10_11, zp10_11, zg10_12, zp10_12, zg10_13, zp10_13, zg10_14, zp10_14, zg10_15, zp10_15, zg10_16, zp10_16, zg10_17, zp10_17, zg10_18, zp10_18, zg10_19, zp10_19, zg10_20, zp10_20, zg10_21, zp10_21, zg10_22, zp10_22, zg10_23, zp10_23, zg10_24, zp10_24, zg10_25, zp10_25, zg10_26, zp10_26, zg10_27, zp10_27, zg10_28, zp10_28, zg10_29, zp10_29, zg10_30, zp10_30, zg10_31, zp10_31, zg10_32, zp10_32, zrc_eq, zup_s, zup_n, zup_up, zal_i, zal_b, zal_z, zas_i, zas_b, zas_z, zan_eq, Option.toList_some, Option.toList_none, List.cons_append, List.nil_append, if_true, if_false, ite_true, ite_false, true_or, or_true, znI_le, if_pos]
    exact K h W hw hlt hb hq zfr.rf
  | succ m ih =>
    intro k W h l4 l5 l6 l7 hm h1 h3 hw hlt hb hq K
    obtain ⟨f, h2, h4, h5⟩ := hw
    have h1' := h1
    unfold mObj at h1
    rw [e142_8]
    simp (disch := omega) only [e142_0, e142_1, e142_4, e142_5, e142_6, e142_7, e142_9, e142_10, e142_13, e142_16, e142_17, e142_19, e142_20, e142_21, e142_22, e142_26, e142_27, e142_30, e142_33, e142_34, e142_37, e142_38, e142_39, e142_42, e142_44, e142_45, e142_46, e142_47, e142_49, e142_50, e142_53, e142_54, e142_55, e142_58, e142_60, e142_61, e142_62, e142_63, e142_65, e142_66, e142_69, e142_71, e142_73, e142_76, e142_78, e142_81, e142_83, e142_86, e142_88, e142_90, e142_93, e142_95, e142_98, e142_100, e142_102, e142_105, e142_109, e142_112, e142_113, e142_114, e142_116, e142_117, e142_120, e142_121, e142_122, e142_125, e142_127, e142_128, e142_129, e142_130, e142_133, e142_135, e142_137, e142_138, e142_139, e142_140, e142_143, e142_144, e142_145, e142_148, e142_149, e142_150, e142_151, e142_152, e142_153, e142_154, e142_157, e142_160, e142_161, h1, zg10_0, zp10_0, zg10_1, zp10_1, zg10_2, zp10_2, zg10_3, zp10_3, zg10_4, zp10_4, zg10_5, zp10_5, zg10_6, zp10_6, zg10_7, zp10_7, zg10_8, zp10_8, zg10_9, zp10_9, zg10_10, zp10_10, zg10_11, zp10_11, zg10_12, zp10_12, zg10_13, zp10_13, zg10_14, zp10_14, zg10_15, zp10_15, zg10_16, zp10_16, zg10_17, zp10_17, zg10_18, zp10_18, zg10_19, zp10_19, zg10_20, zp10_20, zg10_21, zp10_21, zg10_22, zp10_22, zg10_23, zp10_23, zg10_24, zp10_24, zg10_25, zp10_25, zg10_26, zp10_26, zg10_27, zp10_27, zg10_28, zp10_28, zg10_29, zp10_29, zg10_30, zp10_30, zg10_31, zp10_31, zg10_32, zp10_32, zrc_eq, zup_s, zup_n, zup_up, zal_i, zal_b, zal_z, zas_i, zas_b, zas_z, zan_eq, Option.toList_some, Option.toList_none, List.cons_append, List.nil_append, if_true, if_false, ite_true, ite_false, true_or, or_true, znI_le, if_neg, nI_1]
    refine c142_24 (k := k) h24 h1' h2 h3 hr hw9 hl (fun j hj => ⟨h5 j hj, hlt j hj⟩) (l - (k + 1)) (k + 1) k _ _ (by omega) (Nat.le_refl _) (by omega) (fun j hj hj2 => by rw [show j = k by omega]; exact bet.rf) (fun b l6 l7 hkb hbl hopt => ?_)
    have hfin : ∀ j, j < l → upd (upd f k (nI (W b))) b (nI (W k)) j = nI (swp W k b j) := fun j hj => by
      unfold swp
      by_cases e2 : j = b
      · subst e2
        rw [upd_s]
        by_cases e : j = k
        · rw [if_pos e, e]
        · rw [if_neg e, if_pos rfl]
      · rw [upd_n e2]
        by_cases e : j = k
        · subst e; rw [upd_s, if_pos rfl]
        · rw [upd_n e, if_neg e, if_neg e2]; exact h5 j hj
    have hlt' : ∀ j, j < l → swp W k b j < S.1.1 := fun j hj => by
      by_cases e : j < k
      · rw [swp_lt hkb e]; exact hlt j hj
      · obtain ⟨i, -, hi2, e⟩ := swp_ge (W := W) hkb hbl (by omega) hj
        rw [e]; exact hlt i hi2
    have hwb := hlt b hbl
    have ek := hfin k (by omega)
    rw [swp_k] at ek
    have e3 : (3 : Int32) * nI (W b) = nI (3 * W b) := by rw [zc3, pk_mul]
    have hs : nSum (fun j => sW S (W j)) k + sW S (W b) = nSum (fun j => sW S (swp W k b j)) (k + 1) := by
      rw [nSum, swp_k]
      congr 1
      apply nSum_congr
      intro j hj
      rw [swp_lt hkb hj]
    simp (disch := omega) only [e142_0, e142_1, e142_4, e142_5, e142_6, e142_7, e142_9, e142_10, e142_13, e142_16, e142_17, e142_19, e142_20, e142_21, e142_22, e142_26, e142_27, e142_30, e142_33, e142_34, e142_37, e142_38, e142_39, e142_42, e142_44, e142_45, e142_46, e142_47, e142_49, e142_50, e142_53, e142_54, e142_55, e142_58, e142_60, e142_61, e142_62, e142_63, e142_65, e142_66, e142_69, e142_71, e142_73, e142_76, e142_78, e142_81, e142_83, e142_86, e142_88, e142_90, e142_93, e142_95, e142_98, e142_100, e142_102, e142_105, e142_108, e142_109, e142_112, e142_113, e142_114, e142_116, e142_117, e142_120, e142_121, e142_122, e142_125, e142_127, e142_128, e142_129, e142_130, e142_133, e142_135, e142_137, e142_138, e142_139, e142_140, e142_143, e142_144, e142_145, e142_148, e142_149, e142_151, e142_152, e142_153, e142_154, e142_157, e142_160, e142_161, h1, h2, zg10_0, zp10_0, zg10_1, zp10_1, zg10_2, zp10_2, zg10_3, zp10_3, zg10_4, zp10_4, zg10_5, zp10_5, zg10_6, zp10_6, zg10_7, zp10_7, zg10_8, zp10_8, zg10_9, zp10_9, zg10_10, zp10_10, zg10_11, zp10_11, zg10_12, zp10_12, zg10_13, zp10_13, zg10_14, zp10_14, zg10_15, zp10_15, zg10_16, zp10_16, zg10_17, zp10_17, zg10_18, zp10_18, zg10_19, zp10_19, zg10_20, zp10_20, zg10_21, zp10_21, zg10_22, zp10_22, zg10_23, zp10_23, zg10_24, zp10_24, zg10_25, zp10_25, zg10_26, zp10_26, zg10_27, zp10_27, zg10_28, zp10_28, zg10_29, zp10_29, zg10_30, zp10_30, zg10_31, zp10_31, zg10_32, zp10_32, zrc_eq, zup_s, zup_n, zup_up, zal_i, zal_b, zal_z, zas_i, zas_b, zas_z, zan_eq, Option.toList_some, Option.toList_none, List.cons_append, List.nil_append, if_true, if_false, ite_true, ite_false, true_or, or_true, h5, ek]
    simp (disch := omega) only [e142_0, e142_1, e142_4, e142_5, e142_6, e142_7, e142_9, e142_10, e142_13, e142_16, e142_17, e142_19, e142_20, e142_21, e142_22, e142_26, e142_27, e142_30, e142_33, e142_34, e142_37, e142_38, e142_39, e142_42, e142_44, e142_45, e142_46, e142_47, e142_49, e142_50, e142_53, e142_54, e142_55, e142_58, e142_60, e142_61, e142_62, e142_63, e142_65, e142_66, e142_69, e142_71, e142_73, e142_76, e142_78, e142_81, e142_83, e142_86, e142_88, e142_90, e142_93, e142_95, e142_98, e142_100, e142_102, e142_105, e142_108, e142_109, e142_112, e142_113, e142_114, e142_116, e142_117, e142_120, e142_121, e142_122, e142_125, e142_127, e142_128, e142_129, e142_130, e142_133, e142_135, e142_137, e142_138, e142_139, e142_140, e142_143, e142_144, e142_145, e142_148, e142_149, e142_150, e142_151, e142_152, e142_153, e142_154, e142_157, e142_160, e142_161, h3, zrc_eq, zup_s, zup_n, zup_up, zal_i, zal_b, zal_z, zas_i, zas_b, zas_z, zan_eq, Option.toList_some, Option.toList_none, List.cons_append, List.nil_append, if_true, if_false, ite_true, ite_false, true_or, or_true, e3, hr _ hwb, nI_add, nI_1, hs]
    refine ih (k + 1) (swp W k b) _ _ _ _ _ (by omega) ((zup_n (by omega)).trans h1') ((zup_n (by omega)).trans h3) ⟨_, zup_s, h4, hfin⟩ hlt' (fun i j hi hij hj => ?_) (fun p => ?_) (fun h' W' c1 c2 c3 c4 c5 => K h' W' c1 c2 c3 c4 (zfr.up rfl c5))
    · by_cases e : i = k
      · subst e
        obtain ⟨i', hi1, hi2, e⟩ := swp_ge (W := W) hkb hbl (by omega) hj
        rw [swp_k, e]
        exact hopt i' hi1 hi2
      · rw [swp_lt hkb (by omega)]
        by_cases e2 : j < k
        · rw [swp_lt hkb e2]; exact hb i j (by omega) hij hj
        · obtain ⟨i', hi1, hi2, e⟩ := swp_ge (W := W) hkb hbl (by omega) hj
          rw [e]; exact hb i i' (by omega) (by omega) hi2
    · rw [← hq p]
      unfold cq
      exact nSum_swp (h := fun a => if p (sW S a) = true then 1 else 0) (by omega) hbl
set_option maxHeartbeats 2000000 in
theorem c142 {n : Nat} {f : Nat → Nat} (ok : sK S) (h1 : h 53 = mObj len at_ rp rj np_ nj_ kp (nI (pSu S n)) (nI (pLo S n)) (nI (pDr S n)) ab be) (hs : pMs h 59 60 61 S) (hn : pMn h 0 n f) (hw : qW h) (hf : ∀ j, j < n → f j < S.1.1) (K : ∀ h' un L, pWt h' un L → zfr (fun a => a = 72) h h' → Q (some (.int (nI (if mo = 0 then vMin (fun k => sW S (f (pSu S n + k))) (pLo S n) (pDr S n) else vMax (fun k => sW S (f (pSu S n + k))) (pLo S n) (pDr S n))))) N h') : zE X 142 0 [some (.ref 53), some (.int mo), none, none, none, none, none, none] [] (N, 0, 0) h Q := by
  have b1 : pSu S n ≤ n := Nat.min_le_right _ _
  have b2 : pLo S n ≤ n - pSu S n := Nat.min_le_right _ _
  have b4 : pDr S n ≤ pLo S n := Nat.min_le_right _ _
  have n24 : n ≤ 24 := by obtain ⟨mn, od, rk, mk, n1, n2, n3, n4, n5, -⟩ := hn; exact n5
  obtain ⟨rpl, g1, g2⟩ := hs.wo ok
  have e53 : ∃ fs, h 53 = .inr (10, fs) := ⟨_, h1⟩
  obtain ⟨fs, e53⟩ := e53
  simp (disch := omega) only [e142_0, e142_1, e142_4, e142_5, e142_6, e142_7, e142_9, e142_10, e142_13, e142_16, e142_17, e142_19, e142_20, e142_21, e142_22, e142_26, e142_27, e142_30, e142_33, e142_34, e142_37, e142_38, e142_39, e142_42, e142_44, e142_45, e142_46, e142_47, e142_49, e142_50, e142_53, e142_54, e142_55, e142_58, e142_60, e142_61, e142_62, e142_63, e142_65, e142_66, e142_69, e142_71, e142_73, e142_76, e142_78, e142_81, e142_83, e142_86, e142_88, e142_90, e142_93, e142_95, e142_98, e142_100, e142_102, e142_105, e142_108, e142_109, e142_112, e142_113, e142_114, e142_116, e142_117, e142_120, e142_121, e142_122, e142_125, e142_127, e142_128, e142_129, e142_130, e142_133, e142_135, e142_137, e142_138, e142_139, e142_140, e142_143, e142_144, e142_145, e142_148, e142_149, e142_150, e142_151, e142_152, e142_153, e142_154, e142_157, e142_160, e142_161, e53, zrc_eq, zup_s, zup_n, zup_up, zal_i, zal_b, zal_z, zas_i, zas_b, zas_z, zan_eq, Option.toList_some, Option.toList_none, List.cons_append, List.nil_append, if_true, if_false, ite_true, ite_false, true_or, or_true]
  refine c137 (by omega) h1 hn hw (fun h2 c1 c2 => ?_)
  simp (disch := omega) only [e142_0, e142_1, e142_4, e142_5, e142_6, e142_7, e142_9, e142_10, e142_13, e142_16, e142_17, e142_19, e142_20, e142_21, e142_22, e142_26, e142_27, e142_30, e142_33, e142_34, e142_37, e142_38, e142_39, e142_42, e142_44, e142_45, e142_46, e142_47, e142_49, e142_50, e142_53, e142_54, e142_55, e142_58, e142_60, e142_61, e142_62, e142_63, e142_65, e142_66, e142_69, e142_71, e142_73, e142_76, e142_78, e142_81, e142_83, e142_86, e142_88, e142_90, e142_93, e142_95, e142_98, e142_100, e142_102, e142_105, e142_108, e142_109, e142_112, e142_113, e142_114, e142_116, e142_117, e142_120, e142_121, e142_122, e142_125, e142_127, e142_128, e142_129, e142_130, e142_133, e142_135, e142_137, e142_138, e142_139, e142_140, e142_143, e142_144, e142_145, e142_148, e142_149, e142_150, e142_151, e142_152, e142_153, e142_154, e142_157, e142_160, e142_161, Option.toList_none, List.nil_append, zc0]
  refine c142_8 (L := fun j => f (pSu S n + j)) ok.1.1 g2 (fun i hi => (ok.wo hi).2) (by omega) b4 (pDr S n) 0 (fun j => f (pSu S n + j)) h2 _ _ _ _ (by omega) ((c2 53 (by omega)).trans h1) ((c2 59 (by omega)).trans g1) c1 (fun j hj => hf _ (by omega)) (fun i j hi => absurd hi (Nat.not_lt_zero i)) (fun p => rfl) (fun h3 W d1 d2 d3 d4 d5 => ?_)
  have k3 := K h3 _ _ d1 (c2.tr d5)
  have hle : ∀ k, k < pLo S n → sW S (W k) ≤ 999 := fun k hk => (ok.wo (d2 k hk)).2
  by_cases g : mo = 0
  · rw [if_pos g] at k3
    rw [pre_min (x := fun k => sW S (f (pSu S n + k))) b4 hle d4 (fun i j x y z => by have := d3 i j x (by omega) z; unfold bet at this; rw [if_pos g] at this; exact this)]
    exact k3
  · rw [if_neg g] at k3
    rw [pre_max (x := fun k => sW S (f (pSu S n + k))) b4 hle d4 (fun i j x y z => by have := d3 i j x (by omega) z; unfold bet at this; rw [if_neg g] at this; exact this)]
    exact k3
set_option maxHeartbeats 2000000 in
theorem zw03 {w : Int32} : ((0 : Int32).toInt64 ≤ w.toInt64 ∧ w.toInt64 ≤ 3) = (0 ≤ w ∧ w ≤ 3) := by
  rw [show (3 : Int64) = (3 : Int32).toInt64 from by decide, zl_le, zl_le]
set_option maxHeartbeats 2000000 in
theorem c140 (hm : zMR h S D F len at_ rp rj kp su lo dr ab be) (K : ∀ h', zMk' h h' S len at_ rp rj kp → Q (some (.int (aBrings S (F 0) p d w))) N h') : zE X 140 0 [some (.ref 53), some (.int p), some (.int d), some (.int w), none] [] (N, 0, 0) h Q := by
  have hm' := hm
  obtain ⟨h1, hs, ok, hT, hD, ms⟩ := hm
  have h1' := h1
  have rf : zMk' h h S len at_ rp rj kp := ⟨⟨_, _, _, _, _, h1⟩, ms, zfr.rf⟩
  unfold mObj at h1
  simp only [e140_0, e140_1, e140_2, e140_5, e140_8, e140_9, e140_12, e140_15, e140_16, e140_17, e140_18, e140_21, e140_24, e140_27, e140_28, e140_30, e140_31, e140_32, e140_35, e140_36, e140_37, e140_38, e140_41, e140_44, e140_46, e140_47, e140_48, e140_51, e140_53, e140_54, e140_55, e140_56, e140_59, e140_60, e140_63, e140_64, e140_67, e140_68, e140_69, e140_70, e140_71, e140_74, e140_77, e140_79, e140_80, e140_83, e140_85, e140_86, e140_87, e140_90, e140_91, e140_92, e140_93, e140_96, e140_97, e140_98, e140_99, e140_102, e140_103, e140_106, e140_109, e140_110, e140_111, e140_112, e140_113, e140_116, e140_119, e140_120, e140_123, e140_124, e140_127, e140_128, e140_131, e140_132, e140_133, e140_136, e140_137, e140_140, e140_143, e140_144, e140_147, e140_148, h1, c122 h1', c119, c108, zrc_eq, zup_s, zup_n, zup_up, zal_i, zal_b, zal_z, zas_i, zas_b, zas_z, zan_eq, Option.toList_some, Option.toList_none, List.cons_append, List.nil_append, if_true, if_false, ite_true, ite_false, true_or, or_true, z10, z00, zl64, zw03]
  unfold aBrings at K
  by_cases g1 : isPan S.2.1.1 p
  · rw [if_pos g1]
    by_cases g2 : isDr d
    · rw [if_pos g2]
      by_cases g3 : 0 ≤ w ∧ w ≤ 3
      · rw [if_pos g3]
        rw [if_pos ⟨g1, g2, g3⟩] at K
        simp (disch := omega) only [e140_0, e140_1, e140_2, e140_5, e140_8, e140_9, e140_12, e140_15, e140_16, e140_17, e140_18, e140_21, e140_24, e140_27, e140_28, e140_29, e140_30, e140_31, e140_32, e140_35, e140_36, e140_37, e140_38, e140_41, e140_44, e140_46, e140_47, e140_48, e140_51, e140_53, e140_54, e140_55, e140_56, e140_59, e140_60, e140_63, e140_64, e140_67, e140_68, e140_69, e140_70, e140_71, e140_74, e140_77, e140_79, e140_80, e140_83, e140_85, e140_86, e140_87, e140_90, e140_91, e140_92, e140_93, e140_96, e140_97, e140_98, e140_99, e140_102, e140_103, e140_106, e140_109, e140_110, e140_111, e140_112, e140_113, e140_116, e140_119, e140_120, e140_123, e140_124, e140_127, e140_128, e140_131, e140_132, e140_133, e140_136, e140_137, e140_140, e140_143, e140_144, e140_147, e140_148, h1, zrc_eq, zup_s, zup_n, zup_up, zal_i, zal_b, zal_z, zas_i, zas_b, zas_z, zan_eq, Option.toList_some, Option.toList_none, List.cons_append, List.nil_append, if_true, if_false, ite_true, ite_false, true_or, or_true]
        refine c123 hm' (fun h' a1 a2 a3 => ?_)
        have hO := oOkN (S := S) (T := F 0) (p := p) (d := d)
        have hf : ∀ j, j < oN S (F 0) → oF S (F 0) p d j < S.1.1 := fun j hj => (hO.2.1 j hj).1
        have n24 : oN S (F 0) ≤ 24 := by obtain ⟨mn, od, rk, mk, n1, n2, n3, n4, n5, -⟩ := a1; exact n5
        have bl := brA_le (f := oF S (F 0) p d) ok n24 hf
        generalize hn : oN S (F 0) = n at *
        generalize hF : oF S (F 0) p d = f at *
        have q1 : pSu S n ≤ n := Nat.min_le_right _ _
        have q2 : pLo S n ≤ n - pSu S n := Nat.min_le_right _ _
        have q4 : pDr S n ≤ pLo S n := Nat.min_le_right _ _
        have E1 := fun Q' => c141 (X := X) (N := N) (Q := Q') (a := 0) (b := pSu S n) ok a2.1 a2.2.1 a1 hf (by omega)
        simp only [Nat.zero_add] at E1
        rw [nI_0] at E1
        have E2 := fun Q' => c141 (X := X) (N := N) (Q := Q') (a := pSu S n) (b := pLo S n) ok a2.1 a2.2.1 a1 hf (by omega)
        have e1 := a2.1
        unfold mObj at e1
        have fin : ∀ (h2 : zH) (un : Nat) (L : Nat → Nat), pWt h2 un L → zfr (fun a => a = 72) h' h2 → zMk' h h2 S len at_ rp rj kp := by
          intro h2 un L d1 d2
          exact ⟨⟨_, _, _, _, _, (d2 53 (by omega)).trans a2.1⟩, d1.ms a2.2.2.2.2.2 d2, a3.tr (d2.mono (fun a ha => by omega))⟩
        by_cases g4 : w = 0
        · rw [if_pos g4] at K
          rw [g4]
          simp (disch := omega) only [e140_0, e140_1, e140_2, e140_5, e140_8, e140_9, e140_12, e140_15, e140_16, e140_17, e140_18, e140_21, e140_24, e140_27, e140_28, e140_29, e140_30, e140_31, e140_32, e140_35, e140_36, e140_37, e140_38, e140_41, e140_44, e140_46, e140_47, e140_48, e140_51, e140_53, e140_54, e140_55, e140_56, e140_59, e140_60, e140_63, e140_64, e140_67, e140_68, e140_69, e140_70, e140_71, e140_74, e140_77, e140_79, e140_80, e140_83, e140_85, e140_86, e140_87, e140_90, e140_91, e140_92, e140_93, e140_96, e140_97, e140_98, e140_99, e140_102, e140_103, e140_106, e140_109, e140_110, e140_111, e140_112, e140_113, e140_116, e140_119, e140_120, e140_123, e140_124, e140_127, e140_128, e140_131, e140_132, e140_133, e140_136, e140_137, e140_140, e140_143, e140_144, e140_147, e140_148, Option.toList_none, List.nil_append, e1, zg10_0, zp10_0, zg10_1, zp10_1, zg10_2, zp10_2, zg10_3, zp10_3, zg10_4, zp10_4, zg10_5, zp10_5, zg10_6, zp10_6, zg10_7, zp10_7, zg10_8, zp10_8, zg10_9, zp10_9, zg10_10, zp10_10, zg10_11, zp10_11, zg10_12, zp10_12, zg10_13, zp10_13, zg10_14, zp10_14, zg10_15, zp10_15, zg10_16, zp10_16, zg10_17, zp10_17, zg10_18, zp10_18, zg10_19, zp10_19, zg10_20, zp10_20, zg10_21, zp10_21, zg10_22, zp10_22, zg10_23, zp10_23, zg10_24, zp10_24, zg10_25, zp10_25, zg10_26, zp10_26, zg10_27, zp10_27, zg10_28, zp10_28, zg10_29, zp10_29, zg10_30, zp10_30, zg10_31, zp10_31, zg10_32, zp10_32, zrc_eq, zup_s, zup_n, zup_up, zal_i, zal_b, zal_z, zas_i, zas_b, zas_z, zan_eq, Option.toList_some, Option.toList_none, List.cons_append, List.nil_append, if_true, if_false, ite_true, ite_false, true_or, or_true, E1, show ¬ (2 : Int32) ≤ 0 from by decide, show ¬ (0 : Int32) = 1 from by decide, ↓reduceIte]
          refine c142 ok a2.1 a2.2.1 a1 a2.2.2.2.2.2.2.1 hf (fun h2 un L d1 d2 => ?_)
          simp (disch := omega) only [e140_0, e140_1, e140_2, e140_5, e140_8, e140_9, e140_12, e140_15, e140_16, e140_17, e140_18, e140_21, e140_24, e140_27, e140_28, e140_29, e140_30, e140_31, e140_32, e140_35, e140_36, e140_37, e140_38, e140_41, e140_44, e140_46, e140_47, e140_48, e140_51, e140_53, e140_54, e140_55, e140_56, e140_59, e140_60, e140_63, e140_64, e140_67, e140_68, e140_69, e140_70, e140_71, e140_74, e140_77, e140_79, e140_80, e140_83, e140_85, e140_86, e140_87, e140_90, e140_91, e140_92, e140_93, e140_96, e140_97, e140_98, e140_99, e140_102, e140_103, e140_106, e140_109, e140_110, e140_111, e140_112, e140_113, e140_116, e140_119, e140_120, e140_123, e140_124, e140_127, e140_128, e140_131, e140_132, e140_133, e140_136, e140_137, e140_140, e140_143, e140_144, e140_147, e140_148, Option.toList_some, List.cons_append, List.nil_append, ↓reduceIte]
          exact K h2 (fin h2 un L d1 d2)
        · rw [if_neg g4] at K
          by_cases g5 : w = 1
          · rw [if_pos g5] at K
            rw [g5]
            simp (disch := omega) only [e140_0, e140_1, e140_2, e140_5, e140_8, e140_9, e140_12, e140_15, e140_16, e140_17, e140_18, e140_21, e140_24, e140_27, e140_28, e140_29, e140_30, e140_31, e140_32, e140_35, e140_36, e140_37, e140_38, e140_41, e140_44, e140_46, e140_47, e140_48, e140_51, e140_53, e140_54, e140_55, e140_56, e140_59, e140_60, e140_63, e140_64, e140_67, e140_68, e140_69, e140_70, e140_71, e140_74, e140_77, e140_79, e140_80, e140_83, e140_85, e140_86, e140_87, e140_90, e140_91, e140_92, e140_93, e140_96, e140_97, e140_98, e140_99, e140_102, e140_103, e140_106, e140_109, e140_110, e140_111, e140_112, e140_113, e140_116, e140_119, e140_120, e140_123, e140_124, e140_127, e140_128, e140_131, e140_132, e140_133, e140_136, e140_137, e140_140, e140_143, e140_144, e140_147, e140_148, Option.toList_none, List.nil_append, e1, zg10_0, zp10_0, zg10_1, zp10_1, zg10_2, zp10_2, zg10_3, zp10_3, zg10_4, zp10_4, zg10_5, zp10_5, zg10_6, zp10_6, zg10_7, zp10_7, zg10_8, zp10_8, zg10_9, zp10_9, zg10_10, zp10_10, zg10_11, zp10_11, zg10_12, zp10_12, zg10_13, zp10_13, zg10_14, zp10_14, zg10_15, zp10_15, zg10_16, zp10_16, zg10_17, zp10_17, zg10_18, zp10_18, zg10_19, zp10_19, zg10_20, zp10_20, zg10_21, zp10_21, zg10_22, zp10_22, zg10_23, zp10_23, zg10_24, zp10_24, zg10_25, zp10_25, zg10_26, zp10_26, zg10_27, zp10_27, zg10_28, zp10_28, zg10_29, zp10_29, zg10_30, zp10_30, zg10_31, zp10_31, zg10_32, zp10_32, zrc_eq, zup_s, zup_n, zup_up, zal_i, zal_b, zal_z, zas_i, zas_b, zas_z, zan_eq, Option.toList_some, Option.toList_none, List.cons_append, List.nil_append, if_true, if_false, ite_true, ite_false, true_or, or_true, E1, show ¬ (2 : Int32) ≤ 1 from by decide, ↓reduceIte]
            refine c142 ok a2.1 a2.2.1 a1 a2.2.2.2.2.2.2.1 hf (fun h2 un L d1 d2 => ?_)
            simp (disch := omega) only [e140_0, e140_1, e140_2, e140_5, e140_8, e140_9, e140_12, e140_15, e140_16, e140_17, e140_18, e140_21, e140_24, e140_27, e140_28, e140_29, e140_30, e140_31, e140_32, e140_35, e140_36, e140_37, e140_38, e140_41, e140_44, e140_46, e140_47, e140_48, e140_51, e140_53, e140_54, e140_55, e140_56, e140_59, e140_60, e140_63, e140_64, e140_67, e140_68, e140_69, e140_70, e140_71, e140_74, e140_77, e140_79, e140_80, e140_83, e140_85, e140_86, e140_87, e140_90, e140_91, e140_92, e140_93, e140_96, e140_97, e140_98, e140_99, e140_102, e140_103, e140_106, e140_109, e140_110, e140_111, e140_112, e140_113, e140_116, e140_119, e140_120, e140_123, e140_124, e140_127, e140_128, e140_131, e140_132, e140_133, e140_136, e140_137, e140_140, e140_143, e140_144, e140_147, e140_148, Option.toList_some, List.cons_append, List.nil_append, show ¬ (1 : Int32) = 0 from by decide, ↓reduceIte]
            exact K h2 (fin h2 un L d1 d2)
          · rw [if_neg g5] at K
            have g6 : (2 : Int32) ≤ w := by
              obtain ⟨z, -, hz, rfl⟩ := zrange (lo := 0) (hi := 3) (by decide) g3.1 g3.2 (by decide)
              rw [zc2]
              refine (nI_leI (by omega) (by omega)).mpr ?_
              have : z ≠ 0 := fun e => g4 (by rw [e]; rfl)
              have : z ≠ 1 := fun e => g5 (by rw [e]; rfl)
              omega
            have b0 : 0 < brB S n ∧ brB S n ≤ 24 := by unfold brB; split <;> omega
            have run : ∀ l4, zE X 134 0 [some (.ref 53), some (.long (lN (brA S n f))), none, some (.long (lN (brB S n))), none, none, none, none, none, none, none] [] (N, 0, 0) h' (fun v N' h' => zE X 140 131 [some (.ref 53), some (.int p), some (.int d), some (.int w), l4] (v.toList ++ []) (N', 0, 0) h' Q) := by
              intro l4
              refine c134' (by omega) b0.1 (by omega) a2.1 ?_
              have F2 : zfr (fun a => a = 53) h' (va_up h' 53 (mObj len at_ rp rj (nI S.1.1) (nI S.2.1.1) kp (nI (pSu S n)) (nI (pLo S n)) (nI (pDr S n)) (lN (brA S n f / Nat.gcd (brA S n f) (brB S n))) (lN (brB S n / Nat.gcd (brA S n f) (brB S n))))) := zfr.up rfl zfr.rf
              have k2 := K _ ⟨⟨_, _, _, _, _, zup_s⟩, a2.2.2.2.2.2.kept F2 (by omega), a3.tr (F2.mono (fun a ha => by omega))⟩
              unfold mObj at k2 ⊢
              by_cases g5 : w = 2
              · rw [if_pos g5] at k2
                simp (disch := omega) only [e140_0, e140_1, e140_2, e140_5, e140_8, e140_9, e140_12, e140_15, e140_16, e140_17, e140_18, e140_21, e140_24, e140_27, e140_28, e140_29, e140_30, e140_31, e140_32, e140_35, e140_36, e140_37, e140_38, e140_41, e140_44, e140_46, e140_47, e140_48, e140_51, e140_53, e140_54, e140_55, e140_56, e140_59, e140_60, e140_63, e140_64, e140_67, e140_68, e140_69, e140_70, e140_71, e140_74, e140_77, e140_79, e140_80, e140_83, e140_85, e140_86, e140_87, e140_90, e140_91, e140_92, e140_93, e140_96, e140_97, e140_98, e140_99, e140_102, e140_103, e140_106, e140_109, e140_110, e140_111, e140_112, e140_113, e140_116, e140_119, e140_120, e140_123, e140_124, e140_127, e140_128, e140_131, e140_132, e140_133, e140_136, e140_137, e140_140, e140_143, e140_144, e140_147, e140_148, Option.toList_none, List.nil_append, zup_s, zg10_0, zp10_0, zg10_1, zp10_1, zg10_2, zp10_2, zg10_3, zp10_3, zg10_4, zp10_4, zg10_5, zp10_5, zg10_6, zp10_6, zg10_7, zp10_7, zg10_8, zp10_8, zg10_9, zp10_9, zg10_10, zp10_10, zg10_11, zp10_11, zg10_12, zp10_12, zg10_13, zp10_13, zg10_14, zp10_14, zg10_15, zp10_15, zg10_16, zp10_16, zg10_17, zp10_17, zg10_18, zp10_18, zg10_19, zp10_19, zg10_20, zp10_20, zg10_21, zp10_21, zg10_22, zp10_22, zg10_23, zp10_23, zg10_24, zp10_24, zg10_25, zp10_25, zg10_26, zp10_26, zg10_27, zp10_27, zg10_28, zp10_28, zg10_29, zp10_29, zg10_30, zp10_30, zg10_31, zp10_31, zg10_32, zp10_32, zrc_eq, zup_s, zup_n, zup_up, zal_i, zal_b, zal_z, zas_i, zas_b, zas_z, zan_eq, Option.toList_some, Option.toList_none, List.cons_append, List.nil_append, if_true, if_false, ite_true, ite_false, true_or, or_true, g5, ↓reduceIte, lN_i]
                exact k2
              · rw [if_neg g5] at k2
                simp (disch := omega) only [e140_0, e140_1, e140_2, e140_5, e140_8, e140_9, e140_12, e140_15, e140_16, e140_17, e140_18, e140_21, e140_24, e140_27, e140_28, e140_29, e140_30, e140_31, e140_32, e140_35, e140_36, e140_37, e140_38, e140_41, e140_44, e140_46, e140_47, e140_48, e140_51, e140_53, e140_54, e140_55, e140_56, e140_59, e140_60, e140_63, e140_64, e140_67, e140_68, e140_69, e140_70, e140_71, e140_74, e140_77, e140_79, e140_80, e140_83, e140_85, e140_86, e140_87, e140_90, e140_91, e140_92, e140_93, e140_96, e140_97, e140_98, e140_99, e140_102, e140_103, e140_106, e140_109, e140_110, e140_111, e140_112, e140_113, e140_116, e140_119, e140_120, e140_123, e140_124, e140_127, e140_128, e140_131, e140_132, e140_133, e140_136, e140_137, e140_140, e140_143, e140_144, e140_147, e140_148, Option.toList_none, List.nil_append, zup_s, zg10_0, zp10_0, zg10_1, zp10_1, zg10_2, zp10_2, zg10_3, zp10_3, zg10_4, zp10_4, zg10_5, zp10_5, zg10_6, zp10_6, zg10_7, zp10_7, zg10_8, zp10_8, zg10_9, zp10_9, zg10_10, zp10_10, zg10_11, zp10_11, zg10_12, zp10_12, zg10_13, zp10_13, zg10_14, zp10_14, zg10_15, zp10_15, zg10_16, zp10_16, zg10_17, zp10_17, zg10_18, zp10_18, zg10_19, zp10_19, zg10_20, zp10_20, zg10_21, zp10_21, zg10_22, zp10_22, zg10_23, zp10_23, zg10_24, zp10_24, zg10_25, zp10_25, zg10_26, zp10_26, zg10_27, zp10_27, zg10_28, zp10_28, zg10_29, zp10_29, zg10_30, zp10_30, zg10_31, zp10_31, zg10_32, zp10_32, zrc_eq, zup_s, zup_n, zup_up, zal_i, zal_b, zal_z, zas_i, zas_b, zas_z, zan_eq, Option.toList_some, Option.toList_none, List.cons_append, List.nil_append, if_true, if_false, ite_true, ite_false, true_or, or_true, g5, ↓reduceIte, lN_i]
                exact k2
            have x1 := nSum_le (f := fun k => sW S (f k)) (c := 999) (pSu S n) (fun k hk => (ok.wo (hf _ (by omega))).2)
            have x2 := nSum_le (f := fun k => sW S (f (pSu S n + k))) (c := 999) (pLo S n) (fun k hk => (ok.wo (hf _ (by omega))).2)
            by_cases g7 : pLo S n = 0
            · rw [show brA S n f = nSum (fun k => sW S (f k)) (pSu S n) from if_pos g7, show brB S n = 1 from if_pos g7, ← zl1] at run
              rw [g7] at e1
              simp (disch := omega) only [e140_0, e140_1, e140_2, e140_5, e140_8, e140_9, e140_12, e140_15, e140_16, e140_17, e140_18, e140_21, e140_24, e140_27, e140_28, e140_29, e140_30, e140_31, e140_32, e140_35, e140_36, e140_37, e140_38, e140_41, e140_44, e140_46, e140_47, e140_48, e140_51, e140_53, e140_54, e140_55, e140_56, e140_59, e140_60, e140_63, e140_64, e140_67, e140_68, e140_69, e140_70, e140_71, e140_74, e140_77, e140_79, e140_80, e140_83, e140_85, e140_86, e140_87, e140_90, e140_91, e140_92, e140_93, e140_96, e140_97, e140_98, e140_99, e140_102, e140_103, e140_106, e140_109, e140_110, e140_111, e140_112, e140_113, e140_116, e140_119, e140_120, e140_123, e140_124, e140_127, e140_128, e140_132, e140_133, e140_136, e140_137, e140_140, e140_143, e140_144, e140_147, e140_148, Option.toList_none, List.nil_append, e1, zg10_0, zp10_0, zg10_1, zp10_1, zg10_2, zp10_2, zg10_3, zp10_3, zg10_4, zp10_4, zg10_5, zp10_5, zg10_6, zp10_6, zg10_7, zp10_7, zg10_8, zp10_8, zg10_9, zp10_9, zg10_10, zp10_10, zg10_11, zp10_11, zg10_12, zp10_12, zg10_13, zp10_13, zg10_14, zp10_14, zg10_15, zp10_15, zg10_16, zp10_16, zg10_17, zp10_17, zg10_18, zp10_18, zg10_19, zp10_19, zg10_20, zp10_20, zg10_21, zp10_21, zg10_22, zp10_22, zg10_23, zp10_23, zg10_24, zp10_24, zg10_25, zp10_25, zg10_26, zp10_26, zg10_27, zp10_27, zg10_28, zp10_28, zg10_29, zp10_29, zg10_30, zp10_30, zg10_31, zp10_31, zg10_32, zp10_32, zrc_eq, zup_s, zup_n, zup_up, zal_i, zal_b, zal_z, zas_i, zas_b, zas_z, zan_eq, Option.toList_some, Option.toList_none, List.cons_append, List.nil_append, if_true, if_false, ite_true, ite_false, true_or, or_true, E1, g6, ↓reduceIte, nI_0, nI_l]
              exact run _
            · have g7' : (nI (pLo S n) = 0) = False := eq_false (nI_ne0 (by omega) (by omega))
              rw [show brA S n f = _ from if_neg g7, show brB S n = _ from if_neg g7] at run
              simp (disch := omega) only [e140_0, e140_1, e140_2, e140_5, e140_8, e140_9, e140_12, e140_15, e140_16, e140_17, e140_18, e140_21, e140_24, e140_27, e140_28, e140_29, e140_30, e140_31, e140_32, e140_35, e140_36, e140_37, e140_38, e140_41, e140_44, e140_46, e140_47, e140_48, e140_51, e140_53, e140_54, e140_55, e140_56, e140_59, e140_60, e140_63, e140_64, e140_67, e140_68, e140_69, e140_70, e140_71, e140_74, e140_77, e140_79, e140_80, e140_83, e140_85, e140_86, e140_87, e140_90, e140_91, e140_92, e140_93, e140_96, e140_97, e140_98, e140_99, e140_102, e140_103, e140_106, e140_109, e140_110, e140_111, e140_112, e140_113, e140_116, e140_119, e140_120, e140_123, e140_124, e140_127, e140_128, e140_132, e140_133, e140_136, e140_137, e140_140, e140_143, e140_144, e140_147, e140_148, Option.toList_none, List.nil_append, e1, zg10_0, zp10_0, zg10_1, zp10_1, zg10_2, zp10_2, zg10_3, zp10_3, zg10_4, zp10_4, zg10_5, zp10_5, zg10_6, zp10_6, zg10_7, zp10_7, zg10_8, zp10_8, zg10_9, zp10_9, zg10_10, zp10_10, zg10_11, zp10_11, zg10_12, zp10_12, zg10_13, zp10_13, zg10_14, zp10_14, zg10_15, zp10_15, zg10_16, zp10_16, zg10_17, zp10_17, zg10_18, zp10_18, zg10_19, zp10_19, zg10_20, zp10_20, zg10_21, zp10_21, zg10_22, zp10_22, zg10_23, zp10_23, zg10_24, zp10_24, zg10_25, zp10_25, zg10_26, zp10_26, zg10_27, zp10_27, zg10_28, zp10_28, zg10_29, zp10_29, zg10_30, zp10_30, zg10_31, zp10_31, zg10_32, zp10_32, zrc_eq, zup_s, zup_n, zup_up, zal_i, zal_b, zal_z, zas_i, zas_b, zas_z, zan_eq, Option.toList_some, Option.toList_none, List.cons_append, List.nil_append, if_true, if_false, ite_true, ite_false, true_or, or_true, E1, E2, g6, g7', ↓reduceIte, nI_l, lN_mul, lN_add]
              exact run _
      · rw [if_neg g3]
        rw [if_neg (fun z => g3 z.2.2)] at K
        exact K h rf
    · rw [if_neg g2]
      rw [if_neg (fun z => g2 z.2.1)] at K
      exact K h rf
  · rw [if_neg g1]
    rw [if_neg (fun z => g1 z.1)] at K
    exact K h rf
end C47
