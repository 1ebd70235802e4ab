-- the model's text: write, wipe
section C16
variable {X : Nat × (Nat → Int32)} {N : Nat} {h : zH} {Q : Option Value → Nat → zH → Prop}
/-- the object of the model: its numbers -/
def mObj (len at_ rp rj np nj kp su lo dr : Int32) (ab be : Int64) : zC := .inr (10, [.int len, .ref 54, .int at_, .int rp, .ref 55, .int rj, .ref 56, .ref 57, .ref 58, .int np, .ref 59, .int nj, .ref 60, .ref 61, .ref 62, .int kp, .ref 63, .ref 64, .ref 65, .ref 66, .ref 67, .ref 68, .ref 69, .ref 70, .ref 71, .int su, .int lo, .int dr, .ref 72, .ref 73, .ref 74, .long ab, .long be])
variable {at_ rp rj np nj kp su lo dr : Int32} {ab be : Int64}
theorem c107_loop {v : Int64} {l1 : Option Value} : ∀ (n len : Nat) (tx : Nat → Int32) (h : zH), h 53 = mObj (nI len) at_ rp rj np nj kp su lo dr ab be → h 54 = .inl (.byte, 400, tx) → len + n ≤ 400 → n ≤ 8 → (∀ h', h' 53 = mObj (nI (len + n)) at_ rp rj np nj kp su lo dr ab be → h' 54 = .inl (.byte, 400, zapp v n len tx) → zfr (fun a => a = 53 ∨ a = 54) h h' → Q (some (.int (nI (len + n)))) N h') → zE X 107 34 [some (.ref 53), l1, some (.long v), none, some (.int (nI n - 1))] [] (N, 0, 0) h Q := by
  intro n
  unfold mObj
  induction n with
  | zero =>
    intro len tx h h1 h2 _ _ k
    rw [show (nI 0 - 1 : Int32) = -1 from by decide, e107_34]
    simp only [e107_0, e107_1, e107_2, e107_3, e107_6, e107_9, e107_12, e107_13, e107_14, e107_15, e107_18, e107_19, e107_20, e107_23, e107_26, e107_28, e107_29, e107_30, e107_31, e107_32, e107_36, e107_39, e107_40, e107_43, e107_44, e107_47, e107_48, e107_50, e107_52, e107_53, e107_54, e107_55, e107_56, e107_57, e107_58, e107_59, e107_62, e107_63, e107_64, e107_67, e107_70, e107_73, e107_74, e107_77, show (-1 : Int32) < 0 from by decide, h1, zg10_0, zp10_0, zg10_1, zp10_1, zg10_2, zp10_2, zg10_3, zp10_3, zg10_4, zp10_4, zg10_5, zp10_5, zg10_6, zp10_6, zg10_7, zp10_7, zg10_8, zp10_8, zg10_9, zp10_9, zg10_10, zp10_10, zg10_11, zp10_11, zg10_12, zp10_12, zg10_13, zp10_13, zg10_14, zp10_14, zg10_15, zp10_15, zg10_16, zp10_16, zg10_17, zp10_17, zg10_18, zp10_18, zg10_19, zp10_19, zg10_20, zp10_20, zg10_21, zp10_21, zg10_22, zp10_22, zg10_23, zp10_23, zg10_24, zp10_24, zg10_25, zp10_25, zg10_26, zp10_26, zg10_27, zp10_27, zg10_28, zp10_28, zg10_29, zp10_29, zg10_30, zp10_30, zg10_31, zp10_31, zg10_32, zp10_32, zrc_eq, zup_s, zup_n, zup_up, zal_i, zal_b, zal_z, zas_i, zas_b, zas_z, zan_eq, Option.toList_some, Option.toList_none, List.cons_append, List.nil_append, if_true, if_false, ite_true, ite_false, true_or, or_true]
    exact k h h1 h2 zfr.rf
  | succ n ih =>
    intro len tx h h1 h2 hl hn k
    rw [nI_pred, e107_34]
    simp (disch := omega) only [e107_0, e107_1, e107_2, e107_3, e107_6, e107_9, e107_12, e107_13, e107_14, e107_15, e107_18, e107_19, e107_20, e107_23, e107_26, e107_28, e107_29, e107_30, e107_31, e107_32, e107_36, e107_39, e107_40, e107_43, e107_44, e107_47, e107_48, e107_50, e107_52, e107_53, e107_54, e107_55, e107_56, e107_57, e107_58, e107_59, e107_62, e107_63, e107_64, e107_67, e107_70, e107_73, e107_74, e107_77, h1, h2, zg10_0, zp10_0, zg10_1, zp10_1, zg10_2, zp10_2, zg10_3, zp10_3, zg10_4, zp10_4, zg10_5, zp10_5, zg10_6, zp10_6, zg10_7, zp10_7, zg10_8, zp10_8, zg10_9, zp10_9, zg10_10, zp10_10, zg10_11, zp10_11, zg10_12, zp10_12, zg10_13, zp10_13, zg10_14, zp10_14, zg10_15, zp10_15, zg10_16, zp10_16, zg10_17, zp10_17, zg10_18, zp10_18, zg10_19, zp10_19, zg10_20, zp10_20, zg10_21, zp10_21, zg10_22, zp10_22, zg10_23, zp10_23, zg10_24, zp10_24, zg10_25, zp10_25, zg10_26, zp10_26, zg10_27, zp10_27, zg10_28, zp10_28, zg10_29, zp10_29, zg10_30, zp10_30, zg10_31, zp10_31, zg10_32, zp10_32, zrc_eq, zup_s, zup_n, zup_up, zal_i, zal_b, zal_z, zas_i, zas_b, zas_z, zan_eq, Option.toList_some, Option.toList_none, List.cons_append, List.nil_append, if_true, if_false, ite_true, ite_false, true_or, or_true, zc0, zc8, znI_lt, if_neg]
    rw [zb8, nI_1, show nI n + -1 = nI n - 1 from (Int32.sub_eq_add_neg ..).symm]
    refine ih (len + 1) _ _ zup_s (by rw [zup_n (by omega), zup_s]) (by omega) (by omega) (fun h' g1 g2 hf => ?_)
    rw [show len + 1 + n = len + (n + 1) by omega] at g1 ⊢
    exact k h' g1 g2 (zfr.up (Or.inr rfl) (zfr.up (Or.inl rfl) hf))
theorem c107 {len : Nat} {n : Int32} {v : Int64} {tx : Nat → Int32} (h0 : h 53 = mObj (nI len) at_ rp rj np nj kp su lo dr ab be) (h2 : h 54 = .inl (.byte, 400, tx)) (h3 : len ≤ 400)
    (k1 : ∀ r, (r = -1 ∧ ¬ (1 ≤ n ∧ n ≤ 8)) ∨ (r = -3 ∧ (1 ≤ n ∧ n ≤ 8) ∧ 400 < len + n.toNatClampNeg) → Q (some (.int r)) N h)
    (k2 : ∀ (j : Nat) h', 1 ≤ j → j ≤ 8 → n = nI j → len + j ≤ 400 → h' 53 = mObj (nI (len + j)) at_ rp rj np nj kp su lo dr ab be → h' 54 = .inl (.byte, 400, zapp v j len tx) → zfr (fun a => a = 53 ∨ a = 54) h h' → Q (some (.int (nI (len + j)))) N h') : zE X 107 0 [some (.ref 53), some (.int n), some (.long v), none, none] [] (N, 0, 0) h Q := by
  have h0' := h0
  unfold mObj at h0
  by_cases hn : 1 ≤ n ∧ n ≤ 8
  · have hn2 : (1 : Int64) ≤ n.toInt64 ∧ n.toInt64 ≤ 8 := by
      rw [show (1 : Int64) = (1 : Int32).toInt64 from rfl, show (8 : Int64) = (8 : Int32).toInt64 from rfl, zl_le, zl_le]; exact hn
    obtain ⟨j, hj1, hj8, rfl⟩ := zrange (lo := 1) (hi := 8) (by decide) hn.1 hn.2 (by decide)
    simp (disch := omega) only [e107_0, e107_1, e107_2, e107_3, e107_6, e107_9, e107_12, e107_13, e107_14, e107_15, e107_18, e107_19, e107_20, e107_23, e107_26, e107_28, e107_29, e107_30, e107_31, e107_32, e107_36, e107_39, e107_40, e107_43, e107_44, e107_47, e107_48, e107_50, e107_52, e107_53, e107_54, e107_55, e107_56, e107_57, e107_58, e107_59, e107_62, e107_63, e107_64, e107_67, e107_70, e107_73, e107_74, e107_77, c108, hn2, h0, zg10_0, zp10_0, zg10_1, zp10_1, zg10_2, zp10_2, zg10_3, zp10_3, zg10_4, zp10_4, zg10_5, zp10_5, zg10_6, zp10_6, zg10_7, zp10_7, zg10_8, zp10_8, zg10_9, zp10_9, zg10_10, zp10_10, zg10_11, zp10_11, zg10_12, zp10_12, zg10_13, zp10_13, zg10_14, zp10_14, zg10_15, zp10_15, zg10_16, zp10_16, zg10_17, zp10_17, zg10_18, zp10_18, zg10_19, zp10_19, zg10_20, zp10_20, zg10_21, zp10_21, zg10_22, zp10_22, zg10_23, zp10_23, zg10_24, zp10_24, zg10_25, zp10_25, zg10_26, zp10_26, zg10_27, zp10_27, zg10_28, zp10_28, zg10_29, zp10_29, zg10_30, zp10_30, zg10_31, zp10_31, zg10_32, zp10_32, zrc_eq, zup_s, zup_n, zup_up, zal_i, zal_b, zal_z, zas_i, zas_b, zas_z, zan_eq, Option.toList_some, Option.toList_none, List.cons_append, List.nil_append, if_true, if_false, ite_true, ite_false, true_or, or_true, zc400, and_self, nI_add, znI_le, z10]
    by_cases hl : len + j ≤ 400
    · rw [if_pos hl]
      exact c107_loop j len tx h h0' h2 hl hj8 (fun h' g1 g2 hf => k2 j h' hj1 hj8 rfl hl g1 g2 hf)
    · rw [if_neg hl]
      exact k1 _ (Or.inr ⟨rfl, hn, by rw [nI_clamp (by omega)]; omega⟩)
  · have hn2 : ¬ ((1 : Int64) ≤ n.toInt64 ∧ n.toInt64 ≤ 8) := by
      rw [show (1 : Int64) = (1 : Int32).toInt64 from rfl, show (8 : Int64) = (8 : Int32).toInt64 from rfl, zl_le, zl_le]; exact hn
    simp only [e107_0, e107_1, e107_2, e107_3, e107_6, e107_9, e107_12, e107_13, e107_14, e107_15, e107_18, e107_19, e107_20, e107_23, e107_26, e107_28, e107_29, e107_30, e107_31, e107_32, e107_36, e107_39, e107_40, e107_43, e107_44, e107_47, e107_48, e107_50, e107_52, e107_53, e107_54, e107_55, e107_56, e107_57, e107_58, e107_59, e107_62, e107_63, e107_64, e107_67, e107_70, e107_73, e107_74, e107_77, c108, hn2, zrc_eq, zup_s, zup_n, zup_up, zal_i, zal_b, zal_z, zas_i, zas_b, zas_z, zan_eq, Option.toList_some, Option.toList_none, List.cons_append, List.nil_append, if_true, if_false, ite_true, ite_false, true_or, or_true, z00]
    exact k1 _ (Or.inl ⟨rfl, hn⟩)
theorem c109 {len : Nat} (h0 : h 53 = mObj (nI len) at_ rp rj np nj kp su lo dr ab be) (k : ∀ h', h' 53 = mObj (nI 0) at_ rp rj np nj kp su lo dr ab be → zfr (fun a => a = 53) h h' → Q (some (.int (nI len))) N h') : zE X 109 0 [some (.ref 53), none] [] (N, 0, 0) h Q := by
  unfold mObj at h0
  simp (disch := omega) only [e109_0, e109_1, e109_4, e109_5, e109_6, e109_7, e109_10, e109_11, h0, zg10_0, zp10_0, zg10_1, zp10_1, zg10_2, zp10_2, zg10_3, zp10_3, zg10_4, zp10_4, zg10_5, zp10_5, zg10_6, zp10_6, zg10_7, zp10_7, zg10_8, zp10_8, zg10_9, zp10_9, zg10_10, zp10_10, zg10_11, zp10_11, zg10_12, zp10_12, zg10_13, zp10_13, zg10_14, zp10_14, zg10_15, zp10_15, zg10_16, zp10_16, zg10_17, zp10_17, zg10_18, zp10_18, zg10_19, zp10_19, zg10_20, zp10_20, zg10_21, zp10_21, zg10_22, zp10_22, zg10_23, zp10_23, zg10_24, zp10_24, zg10_25, zp10_25, zg10_26, zp10_26, zg10_27, zp10_27, zg10_28, zp10_28, zg10_29, zp10_29, zg10_30, zp10_30, zg10_31, zp10_31, zg10_32, zp10_32, zrc_eq, zup_s, zup_n, zup_up, zal_i, zal_b, zal_z, zas_i, zas_b, zas_z, zan_eq, Option.toList_some, Option.toList_none, List.cons_append, List.nil_append, if_true, if_false, ite_true, ite_false, true_or, or_true]
  exact k _ zup_s (zfr.up rfl zfr.rf)
end C16
