-- writer, now, keep, back, count
section C56
variable {X : Nat × (Nat → Int32)} {N : Nat} {h : zH} {Q : Option Value → Nat → zH → Prop} {S : zSh} {T : zTm} {F : Nat → zTm} {D : Nat → Prop} {ld dd : Nat} {p d n w kp : Int32}
variable {len at_ rp rj np_ nj_ su lo dr : Int32} {ab be : Int64}
def aWriter (T : zTm) (n w : Int32) : Int32 := if (0 ≤ n ∧ n ≤ 7) ∧ (0 ≤ w ∧ w ≤ 2) then (if w = 0 then T.1 n.toNatClampNeg else if w = 1 then T.2.1 n.toNatClampNeg else if T.2.2.1 n.toNatClampNeg = 0 then 0 else 1) else -1
set_option maxHeartbeats 2000000 in
theorem c97 (h0 : h 0 = pObj ld dd kp) (ht : pTm h 21 T) : zE X 97 0 [some (.ref 0), some (.int n), some (.int w)] [] (N, 0, 0) h Q = Q (some (.int (aWriter T n w))) N h := by
  unfold pObj at h0
  obtain ⟨f, g, e, t1, t2, t3, t4, t5⟩ := ht
  simp only [e97_0, e97_1, e97_2, e97_4, e97_7, e97_10, e97_11, e97_12, e97_13, e97_16, e97_19, e97_20, e97_22, e97_25, e97_26, e97_29, e97_32, e97_33, e97_34, e97_35, e97_36, e97_37, e97_40, e97_41, e97_44, e97_47, e97_48, e97_49, e97_50, e97_51, e97_54, e97_57, e97_58, e97_59, e97_62, e97_63, e97_66, e97_67, c13, zrc_eq, zup_s, zup_n, zup_up, zal_i, zal_b, zal_z, zas_i, zas_b, zas_z, zan_eq, Option.toList_some, Option.toList_none, List.cons_append, List.nil_append, if_true, if_false, ite_true, ite_false, true_or, or_true, z10, z00]
  unfold aWriter
  by_cases g1 : 0 ≤ n ∧ n ≤ 7
  · rw [if_pos g1]
    by_cases g2 : 0 ≤ w ∧ w ≤ 2
    · rw [if_pos g2, if_pos ⟨g1, g2⟩]
      obtain ⟨k, -, hk, rfl⟩ := zrange (lo := 0) (hi := 7) (by decide) g1.1 g1.2 (by decide)
      rw [nI_clamp (by omega)]
      obtain ⟨e1, e2, e3, e4⟩ := t5 k (by omega)
      by_cases g3 : w = 0
      · rw [if_pos g3]
        simp (disch := omega) only [e97_0, e97_1, e97_2, e97_4, e97_7, e97_10, e97_11, e97_12, e97_13, e97_16, e97_19, e97_20, e97_21, e97_22, e97_25, e97_26, e97_29, e97_32, e97_33, e97_34, e97_35, e97_36, e97_37, e97_40, e97_41, e97_44, e97_47, e97_48, e97_49, e97_50, e97_51, e97_54, e97_57, e97_58, e97_59, e97_62, e97_63, e97_66, e97_67, g3, ↓reduceIte, h0, t1, t2, zg9_0, zp9_0, zg9_1, zp9_1, zg9_2, zp9_2, zg9_3, zp9_3, zg9_4, zp9_4, zg9_5, zp9_5, zg9_6, zp9_6, zg9_7, zp9_7, zg9_8, zp9_8, zg9_9, zp9_9, zg9_10, zp9_10, zg9_11, zp9_11, zg9_12, zp9_12, zg9_13, zp9_13, zg9_14, zp9_14, zg9_15, zp9_15, zg9_16, zp9_16, zg8_0, zp8_0, zg8_1, zp8_1, zg8_2, zp8_2, zg8_3, zp8_3, zg8_4, zp8_4, zrc_eq, zup_s, zup_n, zup_up, zal_i, zal_b, zal_z, zas_i, zas_b, zas_z, zan_eq, Option.toList_some, Option.toList_none, List.cons_append, List.nil_append, if_true, if_false, ite_true, ite_false, true_or, or_true, e1]
      · rw [if_neg g3]
        by_cases g4 : w = 1
        · rw [if_pos g4]
          simp (disch := omega) only [e97_0, e97_1, e97_2, e97_4, e97_7, e97_10, e97_11, e97_12, e97_13, e97_16, e97_19, e97_20, e97_21, e97_22, e97_25, e97_26, e97_29, e97_32, e97_33, e97_34, e97_35, e97_36, e97_37, e97_40, e97_41, e97_44, e97_47, e97_48, e97_49, e97_50, e97_51, e97_54, e97_57, e97_58, e97_59, e97_62, e97_63, e97_66, e97_67, g4, z10, ↓reduceIte, h0, t1, t3, zg9_0, zp9_0, zg9_1, zp9_1, zg9_2, zp9_2, zg9_3, zp9_3, zg9_4, zp9_4, zg9_5, zp9_5, zg9_6, zp9_6, zg9_7, zp9_7, zg9_8, zp9_8, zg9_9, zp9_9, zg9_10, zp9_10, zg9_11, zp9_11, zg9_12, zp9_12, zg9_13, zp9_13, zg9_14, zp9_14, zg9_15, zp9_15, zg9_16, zp9_16, zg8_0, zp8_0, zg8_1, zp8_1, zg8_2, zp8_2, zg8_3, zp8_3, zg8_4, zp8_4, zrc_eq, zup_s, zup_n, zup_up, zal_i, zal_b, zal_z, zas_i, zas_b, zas_z, zan_eq, Option.toList_some, Option.toList_none, List.cons_append, List.nil_append, if_true, if_false, ite_true, ite_false, true_or, or_true, e2]
        · rw [if_neg g4]
          by_cases g5 : T.2.2.1 k = 0
          · rw [if_pos g5]
            simp (disch := omega) only [e97_0, e97_1, e97_2, e97_4, e97_7, e97_10, e97_11, e97_12, e97_13, e97_16, e97_19, e97_20, e97_21, e97_22, e97_25, e97_26, e97_29, e97_32, e97_33, e97_34, e97_35, e97_36, e97_37, e97_40, e97_41, e97_44, e97_47, e97_48, e97_49, e97_50, e97_51, e97_54, e97_57, e97_58, e97_59, e97_62, e97_63, e97_66, e97_67, g3, g4, ↓reduceIte, h0, t1, t4, zg9_0, zp9_0, zg9_1, zp9_1, zg9_2, zp9_2, zg9_3, zp9_3, zg9_4, zp9_4, zg9_5, zp9_5, zg9_6, zp9_6, zg9_7, zp9_7, zg9_8, zp9_8, zg9_9, zp9_9, zg9_10, zp9_10, zg9_11, zp9_11, zg9_12, zp9_12, zg9_13, zp9_13, zg9_14, zp9_14, zg9_15, zp9_15, zg9_16, zp9_16, zg8_0, zp8_0, zg8_1, zp8_1, zg8_2, zp8_2, zg8_3, zp8_3, zg8_4, zp8_4, zrc_eq, zup_s, zup_n, zup_up, zal_i, zal_b, zal_z, zas_i, zas_b, zas_z, zan_eq, Option.toList_some, Option.toList_none, List.cons_append, List.nil_append, if_true, if_false, ite_true, ite_false, true_or, or_true, e3, g5]
          · rw [if_neg g5]
            simp (disch := omega) only [e97_0, e97_1, e97_2, e97_4, e97_7, e97_10, e97_11, e97_12, e97_13, e97_16, e97_19, e97_20, e97_21, e97_22, e97_25, e97_26, e97_29, e97_32, e97_33, e97_34, e97_35, e97_36, e97_37, e97_40, e97_41, e97_44, e97_47, e97_48, e97_49, e97_50, e97_51, e97_54, e97_57, e97_58, e97_59, e97_62, e97_63, e97_66, e97_67, g3, g4, ↓reduceIte, h0, t1, t4, zg9_0, zp9_0, zg9_1, zp9_1, zg9_2, zp9_2, zg9_3, zp9_3, zg9_4, zp9_4, zg9_5, zp9_5, zg9_6, zp9_6, zg9_7, zp9_7, zg9_8, zp9_8, zg9_9, zp9_9, zg9_10, zp9_10, zg9_11, zp9_11, zg9_12, zp9_12, zg9_13, zp9_13, zg9_14, zp9_14, zg9_15, zp9_15, zg9_16, zp9_16, zg8_0, zp8_0, zg8_1, zp8_1, zg8_2, zp8_2, zg8_3, zp8_3, zg8_4, zp8_4, zrc_eq, zup_s, zup_n, zup_up, zal_i, zal_b, zal_z, zas_i, zas_b, zas_z, zan_eq, Option.toList_some, Option.toList_none, List.cons_append, List.nil_append, if_true, if_false, ite_true, ite_false, true_or, or_true, e3, g5]
    · rw [if_neg g2, if_neg (fun z => g2 z.2)]
  · rw [if_neg g1, if_neg (fun z => g1 z.1)]
set_option maxHeartbeats 2000000 in
theorem zn07 {v : Int32} : ((0 : Int32).toInt64 ≤ v.toInt64 ∧ v.toInt64 ≤ 7) = (0 ≤ v ∧ v ≤ 7) := by
  rw [show (7 : Int64) = (7 : Int32).toInt64 from by decide, zl_le, zl_le]
set_option maxHeartbeats 2000000 in
theorem c153 (h1 : h 53 = mObj len at_ rp rj np_ nj_ kp su lo dr ab be) (hT : pMz h D F) (hD : D 0) : zE X 153 0 [some (.ref 53), some (.int n), some (.int w)] [] (N, 0, 0) h Q = Q (some (.int (aWriter (F 0) n w))) N h := by
  unfold mObj at h1
  obtain ⟨a, b, c, y, r, t1, t2, t3, t4, t5, t6⟩ := hT
  obtain ⟨u1, u2, u3⟩ := t6 0 (by omega) hD
  simp only [e153_0, e153_1, e153_2, e153_3, e153_6, e153_9, e153_12, e153_13, e153_14, e153_15, e153_18, e153_21, e153_24, e153_25, e153_29, e153_32, e153_33, e153_36, e153_37, e153_38, e153_41, e153_42, e153_43, e153_46, e153_47, e153_50, e153_51, e153_52, e153_55, e153_56, e153_59, e153_60, e153_61, e153_64, e153_65, e153_68, e153_69, c108, zrc_eq, zup_s, zup_n, zup_up, zal_i, zal_b, zal_z, zas_i, zas_b, zas_z, zan_eq, Option.toList_some, Option.toList_none, List.cons_append, List.nil_append, if_true, if_false, ite_true, ite_false, true_or, or_true, z10, z00, zl64, zn07, zw02]
  unfold aWriter
  by_cases g1 : 0 ≤ n ∧ n ≤ 7
  · rw [if_pos g1]
    by_cases g2 : 0 ≤ w ∧ w ≤ 2
    · rw [if_pos g2, if_pos ⟨g1, g2⟩]
      obtain ⟨k, -, hk, rfl⟩ := zrange (lo := 0) (hi := 7) (by decide) g1.1 g1.2 (by decide)
      rw [nI_clamp (by omega)]
      obtain ⟨e1, e2, e3, e4⟩ := u1 k (by omega)
      rw [Nat.mul_zero, Nat.zero_add] at e1 e2 e3
      by_cases g3 : w = 0
      · rw [if_pos g3]
        simp (disch := omega) only [e153_0, e153_1, e153_2, e153_3, e153_6, e153_9, e153_12, e153_13, e153_14, e153_15, e153_18, e153_21, e153_24, e153_25, e153_28, e153_29, e153_32, e153_33, e153_36, e153_37, e153_38, e153_41, e153_42, e153_43, e153_46, e153_47, e153_50, e153_51, e153_52, e153_55, e153_56, e153_59, e153_60, e153_61, e153_64, e153_65, e153_68, e153_69, g3, ↓reduceIte, h1, t1, zg10_0, zp10_0, zg10_1, zp10_1, zg10_2, zp10_2, zg10_3, zp10_3, zg10_4, zp10_4, zg10_5, zp10_5, zg10_6, zp10_6, zg10_7, zp10_7, zg10_8, zp10_8, zg10_9, zp10_9, zg10_10, zp10_10, zg10_11, zp10_11, zg10_12, zp10_12, zg10_13, zp10_13, zg10_14, zp10_14, zg10_15, zp10_15, zg10_16, zp10_16, zg10_17, zp10_17, zg10_18, zp10_18, zg10_19, zp10_19, zg10_20, zp10_20, zg10_21, zp10_21, zg10_22, zp10_22, zg10_23, zp10_23, zg10_24, zp10_24, zg10_25, zp10_25, zg10_26, zp10_26, zg10_27, zp10_27, zg10_28, zp10_28, zg10_29, zp10_29, zg10_30, zp10_30, zg10_31, zp10_31, zg10_32, zp10_32, zrc_eq, zup_s, zup_n, zup_up, zal_i, zal_b, zal_z, zas_i, zas_b, zas_z, zan_eq, Option.toList_some, Option.toList_none, List.cons_append, List.nil_append, if_true, if_false, ite_true, ite_false, true_or, or_true, e1]
      · rw [if_neg g3]
        by_cases g4 : w = 1
        · rw [if_pos g4]
          simp (disch := omega) only [e153_0, e153_1, e153_2, e153_3, e153_6, e153_9, e153_12, e153_13, e153_14, e153_15, e153_18, e153_21, e153_24, e153_25, e153_28, e153_29, e153_32, e153_33, e153_36, e153_37, e153_38, e153_41, e153_42, e153_43, e153_46, e153_47, e153_50, e153_51, e153_52, e153_55, e153_56, e153_59, e153_60, e153_61, e153_64, e153_65, e153_68, e153_69, g4, z10, ↓reduceIte, h1, t2, zg10_0, zp10_0, zg10_1, zp10_1, zg10_2, zp10_2, zg10_3, zp10_3, zg10_4, zp10_4, zg10_5, zp10_5, zg10_6, zp10_6, zg10_7, zp10_7, zg10_8, zp10_8, zg10_9, zp10_9, zg10_10, zp10_10, zg10_11, zp10_11, zg10_12, zp10_12, zg10_13, zp10_13, zg10_14, zp10_14, zg10_15, zp10_15, zg10_16, zp10_16, zg10_17, zp10_17, zg10_18, zp10_18, zg10_19, zp10_19, zg10_20, zp10_20, zg10_21, zp10_21, zg10_22, zp10_22, zg10_23, zp10_23, zg10_24, zp10_24, zg10_25, zp10_25, zg10_26, zp10_26, zg10_27, zp10_27, zg10_28, zp10_28, zg10_29, zp10_29, zg10_30, zp10_30, zg10_31, zp10_31, zg10_32, zp10_32, zrc_eq, zup_s, zup_n, zup_up, zal_i, zal_b, zal_z, zas_i, zas_b, zas_z, zan_eq, Option.toList_some, Option.toList_none, List.cons_append, List.nil_append, if_true, if_false, ite_true, ite_false, true_or, or_true, e2]
        · rw [if_neg g4]
          by_cases g5 : (F 0).2.2.1 k = 0
          · rw [if_pos g5]
            simp (disch := omega) only [e153_0, e153_1, e153_2, e153_3, e153_6, e153_9, e153_12, e153_13, e153_14, e153_15, e153_18, e153_21, e153_24, e153_25, e153_28, e153_29, e153_32, e153_33, e153_36, e153_37, e153_38, e153_41, e153_42, e153_43, e153_46, e153_47, e153_50, e153_51, e153_52, e153_55, e153_56, e153_59, e153_60, e153_61, e153_64, e153_65, e153_68, e153_69, g3, g4, ↓reduceIte, h1, t3, zg10_0, zp10_0, zg10_1, zp10_1, zg10_2, zp10_2, zg10_3, zp10_3, zg10_4, zp10_4, zg10_5, zp10_5, zg10_6, zp10_6, zg10_7, zp10_7, zg10_8, zp10_8, zg10_9, zp10_9, zg10_10, zp10_10, zg10_11, zp10_11, zg10_12, zp10_12, zg10_13, zp10_13, zg10_14, zp10_14, zg10_15, zp10_15, zg10_16, zp10_16, zg10_17, zp10_17, zg10_18, zp10_18, zg10_19, zp10_19, zg10_20, zp10_20, zg10_21, zp10_21, zg10_22, zp10_22, zg10_23, zp10_23, zg10_24, zp10_24, zg10_25, zp10_25, zg10_26, zp10_26, zg10_27, zp10_27, zg10_28, zp10_28, zg10_29, zp10_29, zg10_30, zp10_30, zg10_31, zp10_31, zg10_32, zp10_32, zrc_eq, zup_s, zup_n, zup_up, zal_i, zal_b, zal_z, zas_i, zas_b, zas_z, zan_eq, Option.toList_some, Option.toList_none, List.cons_append, List.nil_append, if_true, if_false, ite_true, ite_false, true_or, or_true, e3, g5]
          · rw [if_neg g5]
            simp (disch := omega) only [e153_0, e153_1, e153_2, e153_3, e153_6, e153_9, e153_12, e153_13, e153_14, e153_15, e153_18, e153_21, e153_24, e153_25, e153_28, e153_29, e153_32, e153_33, e153_36, e153_37, e153_38, e153_41, e153_42, e153_43, e153_46, e153_47, e153_50, e153_51, e153_52, e153_55, e153_56, e153_59, e153_60, e153_61, e153_64, e153_65, e153_68, e153_69, g3, g4, ↓reduceIte, h1, t3, zg10_0, zp10_0, zg10_1, zp10_1, zg10_2, zp10_2, zg10_3, zp10_3, zg10_4, zp10_4, zg10_5, zp10_5, zg10_6, zp10_6, zg10_7, zp10_7, zg10_8, zp10_8, zg10_9, zp10_9, zg10_10, zp10_10, zg10_11, zp10_11, zg10_12, zp10_12, zg10_13, zp10_13, zg10_14, zp10_14, zg10_15, zp10_15, zg10_16, zp10_16, zg10_17, zp10_17, zg10_18, zp10_18, zg10_19, zp10_19, zg10_20, zp10_20, zg10_21, zp10_21, zg10_22, zp10_22, zg10_23, zp10_23, zg10_24, zp10_24, zg10_25, zp10_25, zg10_26, zp10_26, zg10_27, zp10_27, zg10_28, zp10_28, zg10_29, zp10_29, zg10_30, zp10_30, zg10_31, zp10_31, zg10_32, zp10_32, zrc_eq, zup_s, zup_n, zup_up, zal_i, zal_b, zal_z, zas_i, zas_b, zas_z, zan_eq, Option.toList_some, Option.toList_none, List.cons_append, List.nil_append, if_true, if_false, ite_true, ite_false, true_or, or_true, e3, g5]
    · rw [if_neg g2, if_neg (fun z => g2 z.2)]
  · rw [if_neg g1, if_neg (fun z => g1 z.1)]
def aNow (T : zTm) (w : Int32) : Int32 := if w = 0 then T.2.2.2.1 else if w = 1 then T.2.2.2.2 else -1
set_option maxHeartbeats 2000000 in
theorem zw01e {w : Int32} : (0 ≤ w ∧ w ≤ 1) = (w = 0 ∨ w = 1) := by
  apply propext
  constructor
  · intro g
    obtain ⟨k, -, hk, rfl⟩ := zrange (lo := 0) (hi := 1) (by decide) g.1 g.2 (by decide)
    rcases (show k = 0 ∨ k = 1 by omega) with rfl | rfl
    · exact Or.inl rfl
    · exact Or.inr rfl
  · rintro (rfl | rfl) <;> decide
set_option maxHeartbeats 2000000 in
theorem c98 (h0 : h 0 = pObj ld dd kp) (ht : pTm h 21 T) : zE X 98 0 [some (.ref 0), some (.int w)] [] (N, 0, 0) h Q = Q (some (.int (aNow T w))) N h := by
  unfold pObj at h0
  obtain ⟨f, g, e, t1, t2, t3, t4, t5⟩ := ht
  simp only [e98_0, e98_1, e98_2, e98_3, e98_6, e98_9, e98_10, e98_12, e98_15, e98_16, e98_19, e98_22, e98_25, e98_26, e98_29, e98_32, c13, zrc_eq, zup_s, zup_n, zup_up, zal_i, zal_b, zal_z, zas_i, zas_b, zas_z, zan_eq, Option.toList_some, Option.toList_none, List.cons_append, List.nil_append, if_true, if_false, ite_true, ite_false, true_or, or_true, z10, z00, zw01e]
  unfold aNow
  by_cases g1 : w = 0
  · rw [if_pos (Or.inl g1), if_pos g1]
    simp (disch := omega) only [e98_0, e98_1, e98_2, e98_3, e98_6, e98_9, e98_10, e98_11, e98_12, e98_15, e98_16, e98_19, e98_22, e98_25, e98_26, e98_29, e98_32, g1, ↓reduceIte, h0, t1, zg9_0, zp9_0, zg9_1, zp9_1, zg9_2, zp9_2, zg9_3, zp9_3, zg9_4, zp9_4, zg9_5, zp9_5, zg9_6, zp9_6, zg9_7, zp9_7, zg9_8, zp9_8, zg9_9, zp9_9, zg9_10, zp9_10, zg9_11, zp9_11, zg9_12, zp9_12, zg9_13, zp9_13, zg9_14, zp9_14, zg9_15, zp9_15, zg9_16, zp9_16, zg8_0, zp8_0, zg8_1, zp8_1, zg8_2, zp8_2, zg8_3, zp8_3, zg8_4, zp8_4, zrc_eq, zup_s, zup_n, zup_up, zal_i, zal_b, zal_z, zas_i, zas_b, zas_z, zan_eq, Option.toList_some, Option.toList_none, List.cons_append, List.nil_append, if_true, if_false, ite_true, ite_false, true_or, or_true]
  · rw [if_neg g1]
    by_cases g2 : w = 1
    · rw [if_pos (Or.inr g2), if_pos g2]
      simp (disch := omega) only [e98_0, e98_1, e98_2, e98_3, e98_6, e98_9, e98_10, e98_11, e98_12, e98_15, e98_16, e98_19, e98_22, e98_25, e98_26, e98_29, e98_32, g2, z10, ↓reduceIte, h0, t1, zg9_0, zp9_0, zg9_1, zp9_1, zg9_2, zp9_2, zg9_3, zp9_3, zg9_4, zp9_4, zg9_5, zp9_5, zg9_6, zp9_6, zg9_7, zp9_7, zg9_8, zp9_8, zg9_9, zp9_9, zg9_10, zp9_10, zg9_11, zp9_11, zg9_12, zp9_12, zg9_13, zp9_13, zg9_14, zp9_14, zg9_15, zp9_15, zg9_16, zp9_16, zg8_0, zp8_0, zg8_1, zp8_1, zg8_2, zp8_2, zg8_3, zp8_3, zg8_4, zp8_4, zrc_eq, zup_s, zup_n, zup_up, zal_i, zal_b, zal_z, zas_i, zas_b, zas_z, zan_eq, Option.toList_some, Option.toList_none, List.cons_append, List.nil_append, if_true, if_false, ite_true, ite_false, true_or, or_true]
    · rw [if_neg (fun z => z.elim g1 g2), if_neg g2]
set_option maxHeartbeats 2000000 in
theorem c154 (h1 : h 53 = mObj len at_ rp rj np_ nj_ kp su lo dr ab be) (hT : pMz h D F) (hD : D 0) : zE X 154 0 [some (.ref 53), some (.int w)] [] (N, 0, 0) h Q = Q (some (.int (aNow (F 0) w))) N h := by
  unfold mObj at h1
  obtain ⟨a, b, c, y, r, t1, t2, t3, t4, t5, t6⟩ := hT
  obtain ⟨u1, u2, u3⟩ := t6 0 (by omega) hD
  unfold aNow
  by_cases g1 : w = 0
  · rw [if_pos g1, g1]
    simp (disch := omega) only [e154_0, e154_1, e154_4, e154_5, e154_8, e154_9, e154_10, e154_13, e154_14, e154_15, e154_18, e154_19, e154_22, e154_23, e154_24, e154_27, e154_28, ↓reduceIte, h1, t4, zg10_0, zp10_0, zg10_1, zp10_1, zg10_2, zp10_2, zg10_3, zp10_3, zg10_4, zp10_4, zg10_5, zp10_5, zg10_6, zp10_6, zg10_7, zp10_7, zg10_8, zp10_8, zg10_9, zp10_9, zg10_10, zp10_10, zg10_11, zp10_11, zg10_12, zp10_12, zg10_13, zp10_13, zg10_14, zp10_14, zg10_15, zp10_15, zg10_16, zp10_16, zg10_17, zp10_17, zg10_18, zp10_18, zg10_19, zp10_19, zg10_20, zp10_20, zg10_21, zp10_21, zg10_22, zp10_22, zg10_23, zp10_23, zg10_24, zp10_24, zg10_25, zp10_25, zg10_26, zp10_26, zg10_27, zp10_27, zg10_28, zp10_28, zg10_29, zp10_29, zg10_30, zp10_30, zg10_31, zp10_31, zg10_32, zp10_32, zrc_eq, zup_s, zup_n, zup_up, zal_i, zal_b, zal_z, zas_i, zas_b, zas_z, zan_eq, Option.toList_some, Option.toList_none, List.cons_append, List.nil_append, if_true, if_false, ite_true, ite_false, true_or, or_true, zc0, u2]
  · rw [if_neg g1]
    by_cases g2 : w = 1
    · rw [if_pos g2, g2]
      simp (disch := omega) only [e154_0, e154_1, e154_4, e154_5, e154_8, e154_9, e154_10, e154_13, e154_14, e154_15, e154_18, e154_19, e154_22, e154_23, e154_24, e154_27, e154_28, z10, show ((1 : Int32) = nI 0) = False from by decide, ↓reduceIte, h1, t5, zg10_0, zp10_0, zg10_1, zp10_1, zg10_2, zp10_2, zg10_3, zp10_3, zg10_4, zp10_4, zg10_5, zp10_5, zg10_6, zp10_6, zg10_7, zp10_7, zg10_8, zp10_8, zg10_9, zp10_9, zg10_10, zp10_10, zg10_11, zp10_11, zg10_12, zp10_12, zg10_13, zp10_13, zg10_14, zp10_14, zg10_15, zp10_15, zg10_16, zp10_16, zg10_17, zp10_17, zg10_18, zp10_18, zg10_19, zp10_19, zg10_20, zp10_20, zg10_21, zp10_21, zg10_22, zp10_22, zg10_23, zp10_23, zg10_24, zp10_24, zg10_25, zp10_25, zg10_26, zp10_26, zg10_27, zp10_27, zg10_28, zp10_28, zg10_29, zp10_29, zg10_30, zp10_30, zg10_31, zp10_31, zg10_32, zp10_32, zrc_eq, zup_s, zup_n, zup_up, zal_i, zal_b, zal_z, zas_i, zas_b, zas_z, zan_eq, Option.toList_some, Option.toList_none, List.cons_append, List.nil_append, if_true, if_false, ite_true, ite_false, true_or, or_true, zc0, u3]
    · rw [if_neg g2]
      simp (disch := omega) only [e154_0, e154_1, e154_4, e154_5, e154_8, e154_9, e154_10, e154_13, e154_14, e154_15, e154_18, e154_19, e154_22, e154_23, e154_24, e154_27, e154_28, g1, g2, ↓reduceIte]
set_option maxHeartbeats 2000000 in
theorem c100_loop {t u : Nat} {y b y' b' : Int32} {f' g' e' : Nat → Int32} (htu : t + 3 < u ∨ u + 3 < t) (h01 : ∀ w, w < 8 → e' w = 0 ∨ e' w = 1) : ∀ (m w : Nat) (f g e : Nat → Int32) (h : zH), m + w = 8 → h t = .inr (8, [.ref (t + 1), .ref (t + 2), .ref (t + 3), .int y, .int b]) → h (t + 1) = .inl (.int, 8, f) → h (t + 2) = .inl (.int, 8, g) → h (t + 3) = .inl (.boolean, 8, e) → h u = .inr (8, [.ref (u + 1), .ref (u + 2), .ref (u + 3), .int y', .int b']) → h (u + 1) = .inl (.int, 8, f') → h (u + 2) = .inl (.int, 8, g') → h (u + 3) = .inl (.boolean, 8, e') → (∀ v, v < w → f v = f' v ∧ g v = g' v ∧ e v = e' v) → (∀ h', pTm h' t (f', g', e', y', b') → zfr (fun a => t ≤ a ∧ a ≤ t + 3) h h' → Q none N h') → zE X 100 2 [some (.ref t), some (.ref u), some (.int (nI w))] [] (N, 0, 0) h Q := by
  intro m
  induction m with
  | zero =>
    intro w f g e h hm h1 h2 h3 h4 k1 k2 k3 k4 a1 K
    obtain rfl : w = 8 := by omega
    rw [e100_2]
    simp (disch := omega) only [e100_0, e100_1, e100_3, e100_5, e100_8, e100_9, e100_12, e100_13, e100_14, e100_17, e100_18, e100_19, e100_20, e100_21, e100_24, e100_25, e100_26, e100_29, e100_30, e100_31, e100_32, e100_33, e100_36, e100_37, e100_38, e100_41, e100_42, e100_43, e100_44, e100_47, e100_50, e100_51, e100_52, e100_55, e100_58, e100_59, e100_60, e100_63, e100_66, h1, k1, zg8_0, zp8_0, zg8_1, zp8_1, zg8_2, zp8_2, zg8_3, zp8_3, zg8_4, zp8_4, zrc_eq, zup_s, zup_n, zup_up, zal_i, zal_b, zal_z, zas_i, zas_b, zas_z, zan_eq, Option.toList_some, Option.toList_none, List.cons_append, List.nil_append, if_true, if_false, ite_true, ite_false, true_or, or_true, zc8, znI_le, if_pos]
    exact K _ ⟨f, g, e, zup_s, (zup_n (by omega)).trans h2, (zup_n (by omega)).trans h3, (zup_n (by omega)).trans h4, fun v hv => ⟨(a1 v hv).1, (a1 v hv).2.1, (a1 v hv).2.2, h01 v hv⟩⟩ (zfr.up (by omega) zfr.rf)
  | succ m ih =>
    intro w f g e h hm h1 h2 h3 h4 k1 k2 k3 k4 a1 K
    rw [e100_2]
    simp (disch := omega) only [e100_0, e100_1, e100_3, e100_5, e100_8, e100_9, e100_12, e100_13, e100_14, e100_17, e100_18, e100_19, e100_20, e100_21, e100_24, e100_25, e100_26, e100_29, e100_30, e100_31, e100_32, e100_33, e100_36, e100_37, e100_38, e100_41, e100_42, e100_43, e100_44, e100_47, e100_50, e100_51, e100_52, e100_55, e100_58, e100_59, e100_60, e100_63, e100_66, h1, h2, h3, h4, k1, k2, k3, k4, zg8_0, zp8_0, zg8_1, zp8_1, zg8_2, zp8_2, zg8_3, zp8_3, zg8_4, zp8_4, zrc_eq, zup_s, zup_n, zup_up, zal_i, zal_b, zal_z, zas_i, zas_b, zas_z, zan_eq, Option.toList_some, Option.toList_none, List.cons_append, List.nil_append, if_true, if_false, ite_true, ite_false, true_or, or_true, zc8, znI_le, if_neg, nI_1]
    refine ih (w + 1) (upd f w (f' w)) (upd g w (g' w)) (upd e w (e' w &&& 1)) _ (by omega) ?_ ?_ ?_ ?_ ?_ ?_ ?_ ?_ (fun v hv => ?_) (fun h' c1 c2 => K h' c1 (zfr.up (by omega) (zfr.up (by omega) (zfr.up (by omega) c2))))
    · simp (disch := omega) only [zup_n, h1]
    · simp (disch := omega) only [zup_n, zup_s]
    · simp (disch := omega) only [zup_n, zup_s]
    · simp (disch := omega) only [zup_s]
    · simp (disch := omega) only [zup_n, k1]
    · simp (disch := omega) only [zup_n, k2]
    · simp (disch := omega) only [zup_n, k3]
    · simp (disch := omega) only [zup_n, k4]
    · by_cases q : v = w
      · subst q
        rw [upd_s, upd_s, upd_s, z01 (h01 v (by omega))]
        exact ⟨rfl, rfl, rfl⟩
      · rw [upd_n q, upd_n q, upd_n q]; exact a1 v (by omega)
set_option maxHeartbeats 2000000 in
theorem pTm.eqv {h : zH} {t : Nat} {T T' : zTm} (ht : pTm h t T) (e : ∀ w, w < 8 → T.1 w = T'.1 w ∧ T.2.1 w = T'.2.1 w ∧ T.2.2.1 w = T'.2.2.1 w) (e2 : T.2.2.2 = T'.2.2.2) : pTm h t T' := by
  obtain ⟨f, g, c, h1, h2, h3, h4, h5⟩ := ht
  refine ⟨f, g, c, by rw [← e2]; exact h1, h2, h3, h4, fun w hw => ?_⟩
  obtain ⟨a1, a2, a3⟩ := e w hw
  rw [← a1, ← a2, ← a3]
  exact h5 w hw
set_option maxHeartbeats 2000000 in
theorem c100 {t u : Nat} {T0 : zTm} (htu : t + 3 < u ∨ u + 3 < t) (ht : pTm h t T0) (hu : pTm h u T) (K : ∀ h', pTm h' t T → zfr (fun a => t ≤ a ∧ a ≤ t + 3) h h' → Q none N h') : zE X 100 0 [some (.ref t), some (.ref u), none] [] (N, 0, 0) h Q := by
  obtain ⟨f, g, e, h1, h2, h3, h4, h5⟩ := ht
  obtain ⟨f', g', e', k1, k2, k3, k4, k5⟩ := hu
  simp (disch := omega) only [e100_0, e100_1, e100_3, e100_5, e100_8, e100_9, e100_12, e100_13, e100_14, e100_17, e100_18, e100_19, e100_20, e100_21, e100_24, e100_25, e100_26, e100_29, e100_30, e100_31, e100_32, e100_33, e100_36, e100_37, e100_38, e100_41, e100_42, e100_43, e100_44, e100_47, e100_50, e100_51, e100_52, e100_55, e100_58, e100_59, e100_60, e100_63, e100_66, zc0]
  refine c100_loop htu (fun w hw => by rw [(k5 w hw).2.2.1]; exact (k5 w hw).2.2.2) 8 0 f g e h (by omega) h1 h2 h3 h4 k1 k2 k3 k4 (fun v hv => absurd hv (Nat.not_lt_zero v)) (fun h' c1 c2 => K h' (c1.eqv (fun w hw => ⟨(k5 w hw).1, (k5 w hw).2.1, (k5 w hw).2.2.1⟩) rfl) c2)
def aKeep (kn : Nat) : Int32 := if kn < 2 then nI (kn + 1) else -3
set_option maxHeartbeats 2000000 in
theorem c101 {kn : Nat} (hk : kn ≤ 2) (h0 : h 0 = pObj ld dd (nI kn)) (ht : pTm h 21 T) (hs : ∀ s, s < 2 → ∃ T, pTm h (29 + 4 * s) T) (K0 : ¬ kn < 2 → Q (some (.int (aKeep kn))) N h) (K1 : kn < 2 → ∀ h', h' 0 = pObj ld dd (nI (kn + 1)) → pTm h' (29 + 4 * kn) T → zfr (fun a => a = 0 ∨ (29 + 4 * kn ≤ a ∧ a ≤ 29 + 4 * kn + 3)) h h' → Q (some (.int (aKeep kn))) N h') : zE X 101 0 [some (.ref 0)] [] (N, 0, 0) h Q := by
  have h0' := h0
  unfold pObj at h0
  unfold aKeep at K0 K1
  by_cases g : kn < 2
  · rw [if_pos g] at K1
    obtain ⟨T0, hT0⟩ := hs kn g
    obtain ⟨fs, ht0⟩ := hT0.obj
    have go : ∀ r, r = 29 + 4 * kn → zE X 100 0 [some (.ref r), some (.ref 21), none] [] (N, 0, 0) h (fun v N' h' => zE X 101 26 [some (.ref 0)] (v.toList ++ []) (N', 0, 0) h' Q) := by
      intro r hr
      subst hr
      refine c100 (by omega) hT0 ht (fun h' c1 c2 => ?_)
      have e0 := (c2 0 (by omega)).trans h0
      simp (disch := omega) only [e101_0, e101_1, e101_4, e101_5, e101_8, e101_10, e101_11, e101_12, e101_13, e101_16, e101_19, e101_20, e101_23, e101_26, e101_27, e101_28, e101_31, e101_32, e101_33, e101_36, e101_37, e101_40, Option.toList_none, List.nil_append, e0, zg9_0, zp9_0, zg9_1, zp9_1, zg9_2, zp9_2, zg9_3, zp9_3, zg9_4, zp9_4, zg9_5, zp9_5, zg9_6, zp9_6, zg9_7, zp9_7, zg9_8, zp9_8, zg9_9, zp9_9, zg9_10, zp9_10, zg9_11, zp9_11, zg9_12, zp9_12, zg9_13, zp9_13, zg9_14, zp9_14, zg9_15, zp9_15, zg9_16, zp9_16, zrc_eq, zup_s, zup_n, zup_up, zal_i, zal_b, zal_z, zas_i, zas_b, zas_z, zan_eq, Option.toList_some, Option.toList_none, List.cons_append, List.nil_append, if_true, if_false, ite_true, ite_false, true_or, or_true, nI_1]
      have F1 : zfr (fun a => a = 0) h' (va_up h' 0 (pObj ld dd (nI (kn + 1)))) := zfr.up rfl zfr.rf
      exact K1 g _ zup_s (c1.kept F1 (by omega)) ((c2.mono (fun a ha => by omega)).tr (F1.mono (fun a ha => by omega)))
    rcases (show kn = 0 ∨ kn = 1 by omega) with rfl | rfl
    · simp (disch := omega) only [e101_0, e101_1, e101_4, e101_5, e101_8, e101_10, e101_11, e101_12, e101_13, e101_16, e101_19, e101_20, e101_23, e101_27, e101_28, e101_31, e101_32, e101_33, e101_36, e101_37, e101_40, e102_0, e102_1, e102_4, e102_5, e102_8, e102_11, e102_12, e102_15, h0, ht0, zg9_0, zp9_0, zg9_1, zp9_1, zg9_2, zp9_2, zg9_3, zp9_3, zg9_4, zp9_4, zg9_5, zp9_5, zg9_6, zp9_6, zg9_7, zp9_7, zg9_8, zp9_8, zg9_9, zp9_9, zg9_10, zp9_10, zg9_11, zp9_11, zg9_12, zp9_12, zg9_13, zp9_13, zg9_14, zp9_14, zg9_15, zp9_15, zg9_16, zp9_16, zrc_eq, zup_s, zup_n, zup_up, zal_i, zal_b, zal_z, zas_i, zas_b, zas_z, zan_eq, Option.toList_some, Option.toList_none, List.cons_append, List.nil_append, if_true, if_false, ite_true, ite_false, true_or, or_true, zc2, znI_lt, if_pos, nI_0, ↓reduceIte]
      exact go 29 rfl
    · have e1 : (nI 1 = 0) = False := by decide
      simp (disch := omega) only [e101_0, e101_1, e101_4, e101_5, e101_8, e101_10, e101_11, e101_12, e101_13, e101_16, e101_19, e101_20, e101_23, e101_27, e101_28, e101_31, e101_32, e101_33, e101_36, e101_37, e101_40, e102_0, e102_1, e102_4, e102_5, e102_8, e102_11, e102_12, e102_15, h0, ht0, zg9_0, zp9_0, zg9_1, zp9_1, zg9_2, zp9_2, zg9_3, zp9_3, zg9_4, zp9_4, zg9_5, zp9_5, zg9_6, zp9_6, zg9_7, zp9_7, zg9_8, zp9_8, zg9_9, zp9_9, zg9_10, zp9_10, zg9_11, zp9_11, zg9_12, zp9_12, zg9_13, zp9_13, zg9_14, zp9_14, zg9_15, zp9_15, zg9_16, zp9_16, zrc_eq, zup_s, zup_n, zup_up, zal_i, zal_b, zal_z, zas_i, zas_b, zas_z, zan_eq, Option.toList_some, Option.toList_none, List.cons_append, List.nil_append, if_true, if_false, ite_true, ite_false, true_or, or_true, zc2, znI_lt, if_pos, e1, ↓reduceIte]
      exact go 33 rfl
  · rw [if_neg g] at K0
    simp (disch := omega) only [e101_0, e101_1, e101_4, e101_5, e101_8, e101_10, e101_11, e101_12, e101_13, e101_16, e101_19, e101_20, e101_23, e101_26, e101_27, e101_28, e101_31, e101_32, e101_33, e101_36, e101_37, e101_40, h0, zg9_0, zp9_0, zg9_1, zp9_1, zg9_2, zp9_2, zg9_3, zp9_3, zg9_4, zp9_4, zg9_5, zp9_5, zg9_6, zp9_6, zg9_7, zp9_7, zg9_8, zp9_8, zg9_9, zp9_9, zg9_10, zp9_10, zg9_11, zp9_11, zg9_12, zp9_12, zg9_13, zp9_13, zg9_14, zp9_14, zg9_15, zp9_15, zg9_16, zp9_16, zrc_eq, zup_s, zup_n, zup_up, zal_i, zal_b, zal_z, zas_i, zas_b, zas_z, zan_eq, Option.toList_some, Option.toList_none, List.cons_append, List.nil_append, if_true, if_false, ite_true, ite_false, true_or, or_true, zc2, znI_lt, if_neg]
    exact K0 g
def aBack (kn : Nat) : Int32 := if 0 < kn then nI (kn - 1) else -2
set_option maxHeartbeats 2000000 in
theorem c103 {kn : Nat} (hk : kn ≤ 2) (h0 : h 0 = pObj ld dd (nI kn)) (ht : ∃ T, pTm h 21 T) (hs : ∀ s, s < kn → pTm h (29 + 4 * s) (F (s + 1))) (K0 : ¬ 0 < kn → Q (some (.int (aBack kn))) N h) (K1 : 0 < kn → ∀ h', h' 0 = pObj ld dd (nI (kn - 1)) → pTm h' 21 (F kn) → zfr (fun a => a = 0 ∨ (21 ≤ a ∧ a ≤ 24)) h h' → Q (some (.int (aBack kn))) N h') : zE X 103 0 [some (.ref 0)] [] (N, 0, 0) h Q := by
  have h0' := h0
  unfold pObj at h0
  unfold aBack at K0 K1
  by_cases g : 0 < kn
  · rw [if_pos g] at K1
    obtain ⟨T0, hT0⟩ := ht
    obtain ⟨fs, ht0⟩ := hT0.obj
    have hsk := hs (kn - 1) (by omega)
    rw [show kn - 1 + 1 = kn by omega] at hsk
    have eg : 0 < nI kn := by rw [zlt_le]; exact nI_nle g (by omega)
    have em : nI kn - 1 = nI (kn - 1) := pk_sub (b := 1) g
    have F0 : zfr (fun a => a = 0) h (va_up h 0 (pObj ld dd (nI (kn - 1)))) := zfr.up rfl zfr.rf
    have go : ∀ r, r = 29 + 4 * (kn - 1) → zE X 100 0 [some (.ref 21), some (.ref r), none] [] (N, 0, 0) (va_up h 0 (pObj ld dd (nI (kn - 1)))) (fun v N' h' => zE X 103 35 [some (.ref 0)] (v.toList ++ []) (N', 0, 0) h' Q) := by
      intro r hr
      subst hr
      refine c100 (by omega) (hT0.kept F0 (by omega)) (hsk.kept F0 (by omega)) (fun h' c1 c2 => ?_)
      have e0' := (c2 0 (by omega)).trans zup_s
      have e0 := e0'
      unfold pObj at e0
      simp (disch := omega) only [e103_0, e103_1, e103_4, e103_7, e103_9, e103_10, e103_11, e103_12, e103_15, e103_16, e103_17, e103_20, e103_21, e103_24, e103_25, e103_26, e103_29, e103_32, e103_35, e103_36, e103_39, Option.toList_none, List.nil_append, e0, zg9_0, zp9_0, zg9_1, zp9_1, zg9_2, zp9_2, zg9_3, zp9_3, zg9_4, zp9_4, zg9_5, zp9_5, zg9_6, zp9_6, zg9_7, zp9_7, zg9_8, zp9_8, zg9_9, zp9_9, zg9_10, zp9_10, zg9_11, zp9_11, zg9_12, zp9_12, zg9_13, zp9_13, zg9_14, zp9_14, zg9_15, zp9_15, zg9_16, zp9_16, zrc_eq, zup_s, zup_n, zup_up, zal_i, zal_b, zal_z, zas_i, zas_b, zas_z, zan_eq, Option.toList_some, Option.toList_none, List.cons_append, List.nil_append, if_true, if_false, ite_true, ite_false, true_or, or_true]
      exact K1 g _ e0' c1 ((F0.mono (fun a ha => by omega)).tr (c2.mono (fun a ha => by omega)))
    unfold pObj at go
    rcases (show kn = 1 ∨ kn = 2 by omega) with rfl | rfl
    · simp (disch := omega) only [e103_0, e103_1, e103_4, e103_7, e103_9, e103_10, e103_11, e103_12, e103_15, e103_16, e103_17, e103_20, e103_21, e103_24, e103_25, e103_26, e103_29, e103_32, e103_36, e103_39, e102_0, e102_1, e102_4, e102_5, e102_8, e102_11, e102_12, e102_15, h0, ht0, zg9_0, zp9_0, zg9_1, zp9_1, zg9_2, zp9_2, zg9_3, zp9_3, zg9_4, zp9_4, zg9_5, zp9_5, zg9_6, zp9_6, zg9_7, zp9_7, zg9_8, zp9_8, zg9_9, zp9_9, zg9_10, zp9_10, zg9_11, zp9_11, zg9_12, zp9_12, zg9_13, zp9_13, zg9_14, zp9_14, zg9_15, zp9_15, zg9_16, zp9_16, zrc_eq, zup_s, zup_n, zup_up, zal_i, zal_b, zal_z, zas_i, zas_b, zas_z, zan_eq, Option.toList_some, Option.toList_none, List.cons_append, List.nil_append, if_true, if_false, ite_true, ite_false, true_or, or_true, eg, em, Nat.sub_self, nI_0, ↓reduceIte]
      exact go 29 rfl
    · have e1 : (nI (2 - 1) = 0) = False := by decide
      simp (disch := omega) only [e103_0, e103_1, e103_4, e103_7, e103_9, e103_10, e103_11, e103_12, e103_15, e103_16, e103_17, e103_20, e103_21, e103_24, e103_25, e103_26, e103_29, e103_32, e103_36, e103_39, e102_0, e102_1, e102_4, e102_5, e102_8, e102_11, e102_12, e102_15, h0, ht0, zg9_0, zp9_0, zg9_1, zp9_1, zg9_2, zp9_2, zg9_3, zp9_3, zg9_4, zp9_4, zg9_5, zp9_5, zg9_6, zp9_6, zg9_7, zp9_7, zg9_8, zp9_8, zg9_9, zp9_9, zg9_10, zp9_10, zg9_11, zp9_11, zg9_12, zp9_12, zg9_13, zp9_13, zg9_14, zp9_14, zg9_15, zp9_15, zg9_16, zp9_16, zrc_eq, zup_s, zup_n, zup_up, zal_i, zal_b, zal_z, zas_i, zas_b, zas_z, zan_eq, Option.toList_some, Option.toList_none, List.cons_append, List.nil_append, if_true, if_false, ite_true, ite_false, true_or, or_true, eg, em, e1, ↓reduceIte]
      exact go 33 rfl
  · rw [if_neg g] at K0
    obtain rfl : kn = 0 := by omega
    simp (disch := omega) only [e103_0, e103_1, e103_4, e103_7, e103_9, e103_10, e103_11, e103_12, e103_15, e103_16, e103_17, e103_20, e103_21, e103_24, e103_25, e103_26, e103_29, e103_32, e103_35, e103_36, e103_39, h0, zg9_0, zp9_0, zg9_1, zp9_1, zg9_2, zp9_2, zg9_3, zp9_3, zg9_4, zp9_4, zg9_5, zp9_5, zg9_6, zp9_6, zg9_7, zp9_7, zg9_8, zp9_8, zg9_9, zp9_9, zg9_10, zp9_10, zg9_11, zp9_11, zg9_12, zp9_12, zg9_13, zp9_13, zg9_14, zp9_14, zg9_15, zp9_15, zg9_16, zp9_16, zrc_eq, zup_s, zup_n, zup_up, zal_i, zal_b, zal_z, zas_i, zas_b, zas_z, zan_eq, Option.toList_some, Option.toList_none, List.cons_append, List.nil_append, if_true, if_false, ite_true, ite_false, true_or, or_true, show (0 < nI 0) = False from by decide]
    exact K0 g
set_option maxHeartbeats 2000000 in
theorem c105_loop {t : Nat} (ht : pTm h t T) : ∀ m w, m + w = 8 → zE X 105 4 [some (.ref t), some (.int (nI (nSum (fun v => if T.2.2.1 v = 0 then 0 else 1) w))), some (.int (nI w))] [] (N, 0, 0) h Q = Q (some (.int (nI (nSum (fun v => if T.2.2.1 v = 0 then 0 else 1) 8)))) N h := by
  obtain ⟨f, g, e, t1, t2, t3, t4, t5⟩ := ht
  intro m
  induction m with
  | zero =>
    intro w hw
    obtain rfl : w = 8 := by omega
    rw [e105_4]
    simp (disch := omega) only [e105_0, e105_1, e105_2, e105_3, e105_5, e105_7, e105_10, e105_11, e105_14, e105_15, e105_16, e105_19, e105_22, e105_25, e105_28, e105_29, zc8, znI_le, if_pos]
  | succ m ih =>
    intro w hw
    have ih' := ih (w + 1) (by omega)
    rw [nSum] at ih'
    obtain ⟨e1, e2, e3, e4⟩ := t5 w (by omega)
    rw [e105_4]
    by_cases g : T.2.2.1 w = 0
    · rw [if_pos g] at ih'
      simp (disch := omega) only [e105_0, e105_1, e105_2, e105_3, e105_5, e105_7, e105_10, e105_11, e105_14, e105_15, e105_16, e105_19, e105_22, e105_25, e105_28, e105_29, t1, t4, zg8_0, zp8_0, zg8_1, zp8_1, zg8_2, zp8_2, zg8_3, zp8_3, zg8_4, zp8_4, zrc_eq, zup_s, zup_n, zup_up, zal_i, zal_b, zal_z, zas_i, zas_b, zas_z, zan_eq, Option.toList_some, Option.toList_none, List.cons_append, List.nil_append, if_true, if_false, ite_true, ite_false, true_or, or_true, zc8, znI_le, if_neg, e3, g, ↓reduceIte, nI_1]
      exact ih'
    · rw [if_neg g] at ih'
      simp (disch := omega) only [e105_0, e105_1, e105_2, e105_3, e105_5, e105_7, e105_10, e105_11, e105_14, e105_15, e105_16, e105_19, e105_22, e105_25, e105_28, e105_29, t1, t4, zg8_0, zp8_0, zg8_1, zp8_1, zg8_2, zp8_2, zg8_3, zp8_3, zg8_4, zp8_4, zrc_eq, zup_s, zup_n, zup_up, zal_i, zal_b, zal_z, zas_i, zas_b, zas_z, zan_eq, Option.toList_some, Option.toList_none, List.cons_append, List.nil_append, if_true, if_false, ite_true, ite_false, true_or, or_true, zc8, znI_le, if_neg, e3, g, ↓reduceIte, nI_1]
      exact ih'
def aCount (S : zSh) (T : zTm) (len kn : Nat) (w : Int32) : Int32 := if w = 0 then nI S.1.1 else if w = 1 then nI S.2.1.1 else if w = 2 then nI len else if w = 3 then nI kn else if w = 4 then nI (nSum (fun v => if T.2.2.1 v = 0 then 0 else 1) 8) else -1
def cOffs : Array Int := #[35, 43, 51, 59, 64]
set_option maxHeartbeats 2000000 in
theorem d104_1 : decode (mB 104) 1 = .ok (.tableswitch 72 0 4 cOffs, 35) := by decide +kernel
set_option maxHeartbeats 2000000 in
theorem e104_k {l0 l1 : Option Value} {k t : Nat} {off : Int} (hk : k < 5) (ho : cOffs[k]? = some off) (ht : (1 : Int) + off = t) : zE X 104 1 [l0, l1] [.int (nI k)] (N, 0, 0) h Q = zE X 104 t [l0, l1] [] (N, 0, 0) h Q := by
  have e : (nI k).toInt = (k : Int) := nI_toInt (by omega)
  refine zE_tab (off := off) d104_1 (by rw [e]; omega) ?_ ht
  rw [e, show ((k : Int) - 0).toNat = k by omega]
  exact ho
set_option maxHeartbeats 2000000 in
theorem e104_d {l0 l1 : Option Value} {w : Int32} (hw : w.toInt < 0 ∨ 4 < w.toInt) : zE X 104 1 [l0, l1] [.int w] (N, 0, 0) h Q = zE X 104 73 [l0, l1] [] (N, 0, 0) h Q := zE_tabd d104_1 hw (by decide)
set_option maxHeartbeats 2000000 in
theorem c104 {ln kn : Nat} {tx : Nat → Int32} (h0 : h 0 = pObj ld dd (nI kn)) (hsc : pScr h 1 ln tx) (hs : pSh h ld S) (ht : pTm h 21 T) : zE X 104 0 [some (.ref 0), some (.int w)] [] (N, 0, 0) h Q = Q (some (.int (aCount S T ln kn w))) N h := by
  unfold pObj at h0
  obtain ⟨v1, v2, v3, v5, v6, v7, v8, v9, v10, v11, v12, v13, v14, v15, s1, b1, b2⟩ := hs.obj
  obtain ⟨c1, c2, c3⟩ := hsc
  obtain ⟨fs, ht1⟩ := ht.obj
  unfold aCount
  rw [e104_0]
  by_cases g0 : w = 0
  · rw [if_pos g0, g0, show (0 : Int32) = nI 0 from rfl, e104_k (off := 35) (t := 36) (by omega) (by decide) (by decide)]
    simp (disch := omega) only [e104_0, e104_36, e104_37, e104_40, e104_43, e104_44, e104_45, e104_48, e104_51, e104_52, e104_53, e104_56, e104_59, e104_60, e104_61, e104_64, e104_65, e104_66, e104_69, e104_72, e104_73, e104_74, h0, s1, zg9_0, zp9_0, zg9_1, zp9_1, zg9_2, zp9_2, zg9_3, zp9_3, zg9_4, zp9_4, zg9_5, zp9_5, zg9_6, zp9_6, zg9_7, zp9_7, zg9_8, zp9_8, zg9_9, zp9_9, zg9_10, zp9_10, zg9_11, zp9_11, zg9_12, zp9_12, zg9_13, zp9_13, zg9_14, zp9_14, zg9_15, zp9_15, zg9_16, zp9_16, zg5_0, zp5_0, zg5_1, zp5_1, zg5_2, zp5_2, zg5_3, zp5_3, zg5_4, zp5_4, zg5_5, zp5_5, zg5_6, zp5_6, zg5_7, zp5_7, zg5_8, zp5_8, zg5_9, zp5_9, zg5_10, zp5_10, zg5_11, zp5_11, zg5_12, zp5_12, zg5_13, zp5_13, zg5_14, zp5_14, zg5_15, zp5_15, zrc_eq, zup_s, zup_n, zup_up, zal_i, zal_b, zal_z, zas_i, zas_b, zas_z, zan_eq, Option.toList_some, Option.toList_none, List.cons_append, List.nil_append, if_true, if_false, ite_true, ite_false, true_or, or_true]
  · rw [if_neg g0]
    by_cases g1 : w = 1
    · rw [if_pos g1, g1, show (1 : Int32) = nI 1 from rfl, e104_k (off := 43) (t := 44) (by omega) (by decide) (by decide)]
      simp (disch := omega) only [e104_0, e104_36, e104_37, e104_40, e104_43, e104_44, e104_45, e104_48, e104_51, e104_52, e104_53, e104_56, e104_59, e104_60, e104_61, e104_64, e104_65, e104_66, e104_69, e104_72, e104_73, e104_74, h0, s1, zg9_0, zp9_0, zg9_1, zp9_1, zg9_2, zp9_2, zg9_3, zp9_3, zg9_4, zp9_4, zg9_5, zp9_5, zg9_6, zp9_6, zg9_7, zp9_7, zg9_8, zp9_8, zg9_9, zp9_9, zg9_10, zp9_10, zg9_11, zp9_11, zg9_12, zp9_12, zg9_13, zp9_13, zg9_14, zp9_14, zg9_15, zp9_15, zg9_16, zp9_16, zg5_0, zp5_0, zg5_1, zp5_1, zg5_2, zp5_2, zg5_3, zp5_3, zg5_4, zp5_4, zg5_5, zp5_5, zg5_6, zp5_6, zg5_7, zp5_7, zg5_8, zp5_8, zg5_9, zp5_9, zg5_10, zp5_10, zg5_11, zp5_11, zg5_12, zp5_12, zg5_13, zp5_13, zg5_14, zp5_14, zg5_15, zp5_15, zrc_eq, zup_s, zup_n, zup_up, zal_i, zal_b, zal_z, zas_i, zas_b, zas_z, zan_eq, Option.toList_some, Option.toList_none, List.cons_append, List.nil_append, if_true, if_false, ite_true, ite_false, true_or, or_true]
    · rw [if_neg g1]
      by_cases g2 : w = 2
      · rw [if_pos g2, g2, show (2 : Int32) = nI 2 from rfl, e104_k (off := 51) (t := 52) (by omega) (by decide) (by decide)]
        simp (disch := omega) only [e104_0, e104_36, e104_37, e104_40, e104_43, e104_44, e104_45, e104_48, e104_51, e104_52, e104_53, e104_56, e104_59, e104_60, e104_61, e104_64, e104_65, e104_66, e104_69, e104_72, e104_73, e104_74, h0, c1, zg9_0, zp9_0, zg9_1, zp9_1, zg9_2, zp9_2, zg9_3, zp9_3, zg9_4, zp9_4, zg9_5, zp9_5, zg9_6, zp9_6, zg9_7, zp9_7, zg9_8, zp9_8, zg9_9, zp9_9, zg9_10, zp9_10, zg9_11, zp9_11, zg9_12, zp9_12, zg9_13, zp9_13, zg9_14, zp9_14, zg9_15, zp9_15, zg9_16, zp9_16, zg4_0, zp4_0, zg4_1, zp4_1, zrc_eq, zup_s, zup_n, zup_up, zal_i, zal_b, zal_z, zas_i, zas_b, zas_z, zan_eq, Option.toList_some, Option.toList_none, List.cons_append, List.nil_append, if_true, if_false, ite_true, ite_false, true_or, or_true]
      · rw [if_neg g2]
        by_cases g3 : w = 3
        · rw [if_pos g3, g3, show (3 : Int32) = nI 3 from rfl, e104_k (off := 59) (t := 60) (by omega) (by decide) (by decide)]
          simp (disch := omega) only [e104_0, e104_36, e104_37, e104_40, e104_43, e104_44, e104_45, e104_48, e104_51, e104_52, e104_53, e104_56, e104_59, e104_60, e104_61, e104_64, e104_65, e104_66, e104_69, e104_72, e104_73, e104_74, h0, zg9_0, zp9_0, zg9_1, zp9_1, zg9_2, zp9_2, zg9_3, zp9_3, zg9_4, zp9_4, zg9_5, zp9_5, zg9_6, zp9_6, zg9_7, zp9_7, zg9_8, zp9_8, zg9_9, zp9_9, zg9_10, zp9_10, zg9_11, zp9_11, zg9_12, zp9_12, zg9_13, zp9_13, zg9_14, zp9_14, zg9_15, zp9_15, zg9_16, zp9_16, zrc_eq, zup_s, zup_n, zup_up, zal_i, zal_b, zal_z, zas_i, zas_b, zas_z, zan_eq, Option.toList_some, Option.toList_none, List.cons_append, List.nil_append, if_true, if_false, ite_true, ite_false, true_or, or_true]
        · rw [if_neg g3]
          by_cases g4 : w = 4
          · rw [if_pos g4, g4, show (4 : Int32) = nI 4 from rfl, e104_k (off := 64) (t := 65) (by omega) (by decide) (by decide)]
            simp (disch := omega) only [e104_0, e104_36, e104_37, e104_40, e104_43, e104_44, e104_45, e104_48, e104_51, e104_52, e104_53, e104_56, e104_59, e104_60, e104_61, e104_64, e104_65, e104_66, e104_69, e104_72, e104_73, e104_74, e105_0, e105_1, e105_2, e105_3, e105_5, e105_7, e105_10, e105_11, e105_14, e105_15, e105_16, e105_19, e105_22, e105_25, e105_28, e105_29, h0, ht1, zg9_0, zp9_0, zg9_1, zp9_1, zg9_2, zp9_2, zg9_3, zp9_3, zg9_4, zp9_4, zg9_5, zp9_5, zg9_6, zp9_6, zg9_7, zp9_7, zg9_8, zp9_8, zg9_9, zp9_9, zg9_10, zp9_10, zg9_11, zp9_11, zg9_12, zp9_12, zg9_13, zp9_13, zg9_14, zp9_14, zg9_15, zp9_15, zg9_16, zp9_16, zrc_eq, zup_s, zup_n, zup_up, zal_i, zal_b, zal_z, zas_i, zas_b, zas_z, zan_eq, Option.toList_some, Option.toList_none, List.cons_append, List.nil_append, if_true, if_false, ite_true, ite_false, true_or, or_true, zc0]
            have := c105_loop (X := X) (N := N) (Q := fun v N' h' => zE X 104 72 [some (.ref 0), some (.int (nI 4))] (v.toList ++ []) (N', 0, 0) h' Q) ht 8 0 (by omega)
            refine Eq.trans this ?_
            simp (disch := omega) only [e104_0, e104_36, e104_37, e104_40, e104_43, e104_44, e104_45, e104_48, e104_51, e104_52, e104_53, e104_56, e104_59, e104_60, e104_61, e104_64, e104_65, e104_66, e104_69, e104_72, e104_73, e104_74, Option.toList_some, List.cons_append, List.nil_append]
            rfl
          · rw [if_neg g4, e104_d]
            · simp only [e104_0, e104_36, e104_37, e104_40, e104_43, e104_44, e104_45, e104_48, e104_51, e104_52, e104_53, e104_56, e104_59, e104_60, e104_61, e104_64, e104_65, e104_66, e104_69, e104_72, e104_73, e104_74]
            · apply Classical.byContradiction
              intro z
              have hw : ∃ k : Nat, k ≤ 4 ∧ w = nI k := by
                refine ⟨w.toInt.toNat, by omega, ?_⟩
                apply Int32.toInt_inj.mp
                rw [nI_toInt (by omega)]
                omega
              obtain ⟨k, hk, rfl⟩ := hw
              rcases (show k = 0 ∨ k = 1 ∨ k = 2 ∨ k = 3 ∨ k = 4 by omega) with rfl | rfl | rfl | rfl | rfl
              · exact g0 rfl
              · exact g1 rfl
              · exact g2 rfl
              · exact g3 rfl
              · exact g4 rfl
end C56
