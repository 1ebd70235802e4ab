-- both; the purse over an order
section C40
variable {X : Nat × (Nat → Int32)} {N : Nat} {h : zH} {Q : Option Value → Nat → zH → Prop} {S : zSh} {T : zTm} {F : Nat → zTm} {D : Nat → Prop} {ld dd : Nat} {i j p q d e r w k z t : Int32}
variable {len at_ rp rj kp su lo dr : Int32} {ab be : Int64}
set_option maxHeartbeats 2000000 in
theorem c57' {a b : Nat} {x y : Int32} (ha : a < 2 ^ 31) (hb0 : 0 < b) (hb : b < 2 ^ 31) (h1 : h 49 = .inr (3, [.int x, .int y])) : zE X 57 0 [some (.ref 49), some (.int (nI a)), some (.int (nI b)), none] [] (N, 0, 0) h Q = Q none N (va_up h 49 (.inr (3, [.int (nI (a / Nat.gcd a b)), .int (nI (b / Nat.gcd a b))]))) := c57 (s := false) ha hb0 hb h1
set_option maxHeartbeats 2000000 in
theorem c134' {np_ nj_ : Int32} {a b : Nat} (ha : a < 2 ^ 62) (hb0 : 0 < b) (hb : b < 2 ^ 62) (h1 : h 53 = mObj len at_ rp rj np_ nj_ kp su lo dr ab be) (K : Q none N (va_up h 53 (mObj len at_ rp rj np_ nj_ kp su lo dr (lN (a / Nat.gcd a b)) (lN (b / Nat.gcd a b))))) : zE X 134 0 [some (.ref 53), some (.long (lN a)), none, some (.long (lN b)), none, none, none, none, none, none, none] [] (N, 0, 0) h Q := c134 (s := false) ha hb0 hb h1 K
def bA (n m : Nat) : Nat := if n = 0 then 0 else m * m
def bB (n : Nat) : Nat := if n = 0 then 1 else n
def aBoth (S : zSh) (T : zTm) (p d q e k w : Int32) : Int32 := if isTwo S.2.1.1 p d q e ∧ (1 ≤ k ∧ k ≤ 24) ∧ (0 ≤ w ∧ w ≤ 2) then (if w = 0 then nI (nSum (fun t => if oR S T p d q e t < min k.toNatClampNeg (oN S T) then 1 else 0) (min k.toNatClampNeg (oN S T))) else if w = 1 then nI (bA (oN S T) (min k.toNatClampNeg (oN S T)) / Nat.gcd (bA (oN S T) (min k.toNatClampNeg (oN S T))) (bB (oN S T))) else nI (bB (oN S T) / Nat.gcd (bA (oN S T) (min k.toNatClampNeg (oN S T))) (bB (oN S T)))) else -1
set_option maxHeartbeats 2000000 in
theorem zmin' {a b : Nat} (ha : a < 2 ^ 31) (hb : b < 2 ^ 31) : (if nI b < nI a then nI b else nI a) = nI (min a b) := by
  rw [zmin hb ha, Nat.min_comm]
set_option maxHeartbeats 2000000 in
theorem c54 (hc : zCR h ld dd kp S T) (K : ∀ h', zCS h' → zcf h h' → Q (some (.int (aBoth S T p d q e k w))) N h') : zE X 54 0 [some (.ref 0), some (.int p), some (.int d), some (.int q), some (.int e), some (.int k), some (.int w), none] [] (N, 0, 0) h Q := by
  have hc' := hc
  obtain ⟨h0, hd, hs, ok, ht, cs⟩ := hc
  have h0' := h0
  unfold pObj at h0
  simp only [e54_0, e54_1, e54_2, e54_3, e54_4, e54_6, e54_9, e54_12, e54_14, e54_15, e54_17, e54_20, e54_23, e54_25, e54_26, e54_27, e54_30, e54_33, e54_34, e54_36, e54_37, e54_38, e54_39, e54_41, e54_44, e54_46, e54_47, e54_50, e54_53, e54_56, e54_58, e54_60, e54_63, e54_64, e54_67, e54_68, e54_71, e54_73, e54_76, e54_77, e54_78, e54_81, e54_83, e54_85, e54_86, e54_87, e54_90, e54_93, e54_96, e54_98, e54_99, e54_102, e54_103, e54_106, e54_109, e54_112, e54_113, e54_116, e54_119, h0, c48 h0' hs, c13, zrc_eq, zup_s, zup_n, zup_up, zal_i, zal_b, zal_z, zas_i, zas_b, zas_z, zan_eq, Option.toList_some, Option.toList_none, List.cons_append, List.nil_append, if_true, if_false, ite_true, ite_false, true_or, or_true, z10, z00]
  unfold aBoth at K
  by_cases g1 : isTwo S.2.1.1 p d q e
  · rw [if_pos g1]
    by_cases g2 : 1 ≤ k ∧ k ≤ 24
    · rw [if_pos g2]
      by_cases g3 : 0 ≤ w ∧ w ≤ 2
      · rw [if_pos g3]
        rw [if_pos ⟨g1, g2, g3⟩] at K
        obtain ⟨m, hm1, hm2, rfl⟩ := zrange (lo := 1) (hi := 24) (by decide) g2.1 g2.2 (by decide)
        rw [nI_clamp (by omega)] at K
        simp (disch := omega) only [e54_0, e54_1, e54_2, e54_3, e54_4, e54_6, e54_9, e54_12, e54_14, e54_15, e54_17, e54_20, e54_23, e54_25, e54_26, e54_27, e54_30, e54_33, e54_34, e54_35, e54_36, e54_37, e54_38, e54_39, e54_41, e54_44, e54_46, e54_47, e54_50, e54_53, e54_56, e54_58, e54_60, e54_63, e54_64, e54_67, e54_68, e54_71, e54_73, e54_76, e54_77, e54_78, e54_81, e54_83, e54_85, e54_86, e54_87, e54_90, e54_93, e54_96, e54_98, e54_99, e54_102, e54_103, e54_106, e54_109, e54_112, e54_113, e54_116, e54_119, h0, zg9_0, zp9_0, zg9_1, zp9_1, zg9_2, zp9_2, zg9_3, zp9_3, zg9_4, zp9_4, zg9_5, zp9_5, zg9_6, zp9_6, zg9_7, zp9_7, zg9_8, zp9_8, zg9_9, zp9_9, zg9_10, zp9_10, zg9_11, zp9_11, zg9_12, zp9_12, zg9_13, zp9_13, zg9_14, zp9_14, zg9_15, zp9_15, zg9_16, zp9_16, zrc_eq, zup_s, zup_n, zup_up, zal_i, zal_b, zal_z, zas_i, zas_b, zas_z, zan_eq, Option.toList_some, Option.toList_none, List.cons_append, List.nil_append, if_true, if_false, ite_true, ite_false, true_or, or_true]
        refine c49 hc' (fun h' a1 a2 a3 a4 => ?_)
        have e0 := (a4 0 (by omega)).trans h0
        obtain ⟨o1, o2⟩ := a1.obj
        obtain ⟨x, y, s3⟩ := a3.2.2.2.2.1
        have F1 : zcf h h' := a4.mono (fun a ha => by omega)
        have hmn := Nat.min_le_right m (oN S T)
        have hmm : min m (oN S T) * min m (oN S T) ≤ 24 * 24 := Nat.mul_le_mul (by omega) (by omega)
        by_cases g4 : w = 0
        · rw [if_pos g4] at K
          simp (disch := omega) only [e54_0, e54_1, e54_2, e54_3, e54_4, e54_6, e54_9, e54_12, e54_14, e54_15, e54_17, e54_20, e54_23, e54_25, e54_26, e54_27, e54_30, e54_33, e54_34, e54_35, e54_36, e54_37, e54_38, e54_39, e54_41, e54_44, e54_46, e54_47, e54_50, e54_53, e54_56, e54_58, e54_60, e54_63, e54_64, e54_67, e54_68, e54_71, e54_73, e54_76, e54_77, e54_78, e54_81, e54_83, e54_85, e54_86, e54_87, e54_90, e54_93, e54_96, e54_98, e54_99, e54_102, e54_103, e54_106, e54_109, e54_112, e54_113, e54_116, e54_119, Option.toList_none, List.nil_append, e0, o1, zg9_0, zp9_0, zg9_1, zp9_1, zg9_2, zp9_2, zg9_3, zp9_3, zg9_4, zp9_4, zg9_5, zp9_5, zg9_6, zp9_6, zg9_7, zp9_7, zg9_8, zp9_8, zg9_9, zp9_9, zg9_10, zp9_10, zg9_11, zp9_11, zg9_12, zp9_12, zg9_13, zp9_13, zg9_14, zp9_14, zg9_15, zp9_15, zg9_16, zp9_16, zg2_0, zp2_0, zg2_1, zp2_1, zg2_2, zp2_2, zg2_3, zp2_3, zrc_eq, zup_s, zup_n, zup_up, zal_i, zal_b, zal_z, zas_i, zas_b, zas_z, zan_eq, Option.toList_some, Option.toList_none, List.cons_append, List.nil_append, if_true, if_false, ite_true, ite_false, true_or, or_true, c55, zmin', g4, ↓reduceIte, c56 a1 a2 oIn]
          exact K h' a3 F1
        · rw [if_neg g4] at K
          by_cases gn : oN S T = 0
          · simp (disch := omega) only [e54_0, e54_1, e54_2, e54_3, e54_4, e54_6, e54_9, e54_12, e54_14, e54_15, e54_17, e54_20, e54_23, e54_25, e54_26, e54_27, e54_30, e54_33, e54_34, e54_35, e54_36, e54_37, e54_38, e54_39, e54_41, e54_44, e54_46, e54_47, e54_50, e54_53, e54_56, e54_58, e54_60, e54_63, e54_64, e54_67, e54_68, e54_71, e54_73, e54_76, e54_77, e54_78, e54_81, e54_83, e54_85, e54_86, e54_87, e54_90, e54_93, e54_98, e54_99, e54_102, e54_103, e54_106, e54_109, e54_112, e54_113, e54_116, e54_119, Option.toList_none, List.nil_append, e0, o1, s3, zg9_0, zp9_0, zg9_1, zp9_1, zg9_2, zp9_2, zg9_3, zp9_3, zg9_4, zp9_4, zg9_5, zp9_5, zg9_6, zp9_6, zg9_7, zp9_7, zg9_8, zp9_8, zg9_9, zp9_9, zg9_10, zp9_10, zg9_11, zp9_11, zg9_12, zp9_12, zg9_13, zp9_13, zg9_14, zp9_14, zg9_15, zp9_15, zg9_16, zp9_16, zg2_0, zp2_0, zg2_1, zp2_1, zg2_2, zp2_2, zg2_3, zp2_3, zrc_eq, zup_s, zup_n, zup_up, zal_i, zal_b, zal_z, zas_i, zas_b, zas_z, zan_eq, Option.toList_some, Option.toList_none, List.cons_append, List.nil_append, if_true, if_false, ite_true, ite_false, true_or, or_true, c55, zmin', g4, ↓reduceIte, pk_mul]
            rw [gn] at K ⊢
            rw [c57z s3]
            have F2 : zfr (fun a => a = 49) h' (va_up h' 49 (.inr (3, [.int 0, .int 1]))) := zfr.up rfl zfr.rf
            have C2 := a3.ra F2 ⟨0, 1, zup_s⟩
            have F3 : zcf h (va_up h' 49 (.inr (3, [.int 0, .int 1]))) := F1.tr (F2.mono (fun a ha => by omega))
            have e02 := (F2 0 (by omega)).trans e0
            have k2 := K _ C2 F3
            rw [show bA 0 (min m 0) = 0 from rfl, show bB 0 = 1 from rfl, show nI (0 / Nat.gcd 0 1) = 0 from by decide, show nI (1 / Nat.gcd 0 1) = 1 from by decide] at k2
            by_cases g5 : w = 1
            · rw [if_pos g5] at k2
              simp (disch := omega) only [e54_0, e54_1, e54_2, e54_3, e54_4, e54_6, e54_9, e54_12, e54_14, e54_15, e54_17, e54_20, e54_23, e54_25, e54_26, e54_27, e54_30, e54_33, e54_34, e54_35, e54_36, e54_37, e54_38, e54_39, e54_41, e54_44, e54_46, e54_47, e54_50, e54_53, e54_56, e54_58, e54_60, e54_63, e54_64, e54_67, e54_68, e54_71, e54_73, e54_76, e54_77, e54_78, e54_81, e54_83, e54_85, e54_86, e54_87, e54_90, e54_93, e54_96, e54_98, e54_99, e54_102, e54_103, e54_106, e54_109, e54_112, e54_113, e54_116, e54_119, Option.toList_none, List.nil_append, e02, zup_s, zg9_0, zp9_0, zg9_1, zp9_1, zg9_2, zp9_2, zg9_3, zp9_3, zg9_4, zp9_4, zg9_5, zp9_5, zg9_6, zp9_6, zg9_7, zp9_7, zg9_8, zp9_8, zg9_9, zp9_9, zg9_10, zp9_10, zg9_11, zp9_11, zg9_12, zp9_12, zg9_13, zp9_13, zg9_14, zp9_14, zg9_15, zp9_15, zg9_16, zp9_16, zg3_0, zp3_0, zg3_1, zp3_1, zrc_eq, zup_s, zup_n, zup_up, zal_i, zal_b, zal_z, zas_i, zas_b, zas_z, zan_eq, Option.toList_some, Option.toList_none, List.cons_append, List.nil_append, if_true, if_false, ite_true, ite_false, true_or, or_true, g5, ↓reduceIte]
              exact k2
            · rw [if_neg g5] at k2
              simp (disch := omega) only [e54_0, e54_1, e54_2, e54_3, e54_4, e54_6, e54_9, e54_12, e54_14, e54_15, e54_17, e54_20, e54_23, e54_25, e54_26, e54_27, e54_30, e54_33, e54_34, e54_35, e54_36, e54_37, e54_38, e54_39, e54_41, e54_44, e54_46, e54_47, e54_50, e54_53, e54_56, e54_58, e54_60, e54_63, e54_64, e54_67, e54_68, e54_71, e54_73, e54_76, e54_77, e54_78, e54_81, e54_83, e54_85, e54_86, e54_87, e54_90, e54_93, e54_96, e54_98, e54_99, e54_102, e54_103, e54_106, e54_109, e54_112, e54_113, e54_116, e54_119, Option.toList_none, List.nil_append, e02, zup_s, zg9_0, zp9_0, zg9_1, zp9_1, zg9_2, zp9_2, zg9_3, zp9_3, zg9_4, zp9_4, zg9_5, zp9_5, zg9_6, zp9_6, zg9_7, zp9_7, zg9_8, zp9_8, zg9_9, zp9_9, zg9_10, zp9_10, zg9_11, zp9_11, zg9_12, zp9_12, zg9_13, zp9_13, zg9_14, zp9_14, zg9_15, zp9_15, zg9_16, zp9_16, zg3_0, zp3_0, zg3_1, zp3_1, zrc_eq, zup_s, zup_n, zup_up, zal_i, zal_b, zal_z, zas_i, zas_b, zas_z, zan_eq, Option.toList_some, Option.toList_none, List.cons_append, List.nil_append, if_true, if_false, ite_true, ite_false, true_or, or_true, g5, ↓reduceIte]
              exact k2
          · have ea : bA (oN S T) (min m (oN S T)) = min m (oN S T) * min m (oN S T) := if_neg gn
            have eb : bB (oN S T) = oN S T := if_neg gn
            rw [ea, eb] at K
            simp (disch := omega) only [e54_0, e54_1, e54_2, e54_3, e54_4, e54_6, e54_9, e54_12, e54_14, e54_15, e54_17, e54_20, e54_23, e54_25, e54_26, e54_27, e54_30, e54_33, e54_34, e54_35, e54_36, e54_37, e54_38, e54_39, e54_41, e54_44, e54_46, e54_47, e54_50, e54_53, e54_56, e54_58, e54_60, e54_63, e54_64, e54_67, e54_68, e54_71, e54_73, e54_76, e54_77, e54_78, e54_81, e54_83, e54_85, e54_86, e54_87, e54_90, e54_93, e54_98, e54_99, e54_102, e54_103, e54_106, e54_109, e54_112, e54_113, e54_116, e54_119, Option.toList_none, List.nil_append, e0, o1, s3, zg9_0, zp9_0, zg9_1, zp9_1, zg9_2, zp9_2, zg9_3, zp9_3, zg9_4, zp9_4, zg9_5, zp9_5, zg9_6, zp9_6, zg9_7, zp9_7, zg9_8, zp9_8, zg9_9, zp9_9, zg9_10, zp9_10, zg9_11, zp9_11, zg9_12, zp9_12, zg9_13, zp9_13, zg9_14, zp9_14, zg9_15, zp9_15, zg9_16, zp9_16, zg2_0, zp2_0, zg2_1, zp2_1, zg2_2, zp2_2, zg2_3, zp2_3, zrc_eq, zup_s, zup_n, zup_up, zal_i, zal_b, zal_z, zas_i, zas_b, zas_z, zan_eq, Option.toList_some, Option.toList_none, List.cons_append, List.nil_append, if_true, if_false, ite_true, ite_false, true_or, or_true, c55, zmin', g4, ↓reduceIte, pk_mul]
            rw [c57' (by omega) (by omega) (by omega) s3]
            have F2 : zfr (fun a => a = 49) h' (va_up h' 49 (.inr (3, [.int (nI (min m (oN S T) * min m (oN S T) / Nat.gcd (min m (oN S T) * min m (oN S T)) (oN S T))), .int (nI (oN S T / Nat.gcd (min m (oN S T) * min m (oN S T)) (oN S T)))]))) := zfr.up rfl zfr.rf
            have C2 := a3.ra F2 ⟨_, _, zup_s⟩
            have F3 := F1.tr (F2.mono (R := fun a => 37 ≤ a ∧ a ≤ 52) (fun a ha => by omega))
            have e02 := (F2 0 (by omega)).trans e0
            have k2 := K _ C2 F3
            by_cases g5 : w = 1
            · rw [if_pos g5] at k2
              simp (disch := omega) only [e54_0, e54_1, e54_2, e54_3, e54_4, e54_6, e54_9, e54_12, e54_14, e54_15, e54_17, e54_20, e54_23, e54_25, e54_26, e54_27, e54_30, e54_33, e54_34, e54_35, e54_36, e54_37, e54_38, e54_39, e54_41, e54_44, e54_46, e54_47, e54_50, e54_53, e54_56, e54_58, e54_60, e54_63, e54_64, e54_67, e54_68, e54_71, e54_73, e54_76, e54_77, e54_78, e54_81, e54_83, e54_85, e54_86, e54_87, e54_90, e54_93, e54_96, e54_98, e54_99, e54_102, e54_103, e54_106, e54_109, e54_112, e54_113, e54_116, e54_119, Option.toList_none, List.nil_append, e02, zup_s, zg9_0, zp9_0, zg9_1, zp9_1, zg9_2, zp9_2, zg9_3, zp9_3, zg9_4, zp9_4, zg9_5, zp9_5, zg9_6, zp9_6, zg9_7, zp9_7, zg9_8, zp9_8, zg9_9, zp9_9, zg9_10, zp9_10, zg9_11, zp9_11, zg9_12, zp9_12, zg9_13, zp9_13, zg9_14, zp9_14, zg9_15, zp9_15, zg9_16, zp9_16, zg3_0, zp3_0, zg3_1, zp3_1, zrc_eq, zup_s, zup_n, zup_up, zal_i, zal_b, zal_z, zas_i, zas_b, zas_z, zan_eq, Option.toList_some, Option.toList_none, List.cons_append, List.nil_append, if_true, if_false, ite_true, ite_false, true_or, or_true, g5, ↓reduceIte]
              exact k2
            · rw [if_neg g5] at k2
              simp (disch := omega) only [e54_0, e54_1, e54_2, e54_3, e54_4, e54_6, e54_9, e54_12, e54_14, e54_15, e54_17, e54_20, e54_23, e54_25, e54_26, e54_27, e54_30, e54_33, e54_34, e54_35, e54_36, e54_37, e54_38, e54_39, e54_41, e54_44, e54_46, e54_47, e54_50, e54_53, e54_56, e54_58, e54_60, e54_63, e54_64, e54_67, e54_68, e54_71, e54_73, e54_76, e54_77, e54_78, e54_81, e54_83, e54_85, e54_86, e54_87, e54_90, e54_93, e54_96, e54_98, e54_99, e54_102, e54_103, e54_106, e54_109, e54_112, e54_113, e54_116, e54_119, Option.toList_none, List.nil_append, e02, zup_s, zg9_0, zp9_0, zg9_1, zp9_1, zg9_2, zp9_2, zg9_3, zp9_3, zg9_4, zp9_4, zg9_5, zp9_5, zg9_6, zp9_6, zg9_7, zp9_7, zg9_8, zp9_8, zg9_9, zp9_9, zg9_10, zp9_10, zg9_11, zp9_11, zg9_12, zp9_12, zg9_13, zp9_13, zg9_14, zp9_14, zg9_15, zp9_15, zg9_16, zp9_16, zg3_0, zp3_0, zg3_1, zp3_1, zrc_eq, zup_s, zup_n, zup_up, zal_i, zal_b, zal_z, zas_i, zas_b, zas_z, zan_eq, Option.toList_some, Option.toList_none, List.cons_append, List.nil_append, if_true, if_false, ite_true, ite_false, true_or, or_true, g5, ↓reduceIte]
              exact k2
      · rw [if_neg g3]
        rw [if_neg (fun z => g3 z.2.2)] at K
        exact K h cs zfr.rf
    · rw [if_neg g2]
      rw [if_neg (fun z => g2 z.2.1)] at K
      exact K h cs zfr.rf
  · rw [if_neg g1]
    rw [if_neg (fun z => g1 z.1)] at K
    exact K h cs zfr.rf
set_option maxHeartbeats 2000000 in
theorem c133_72 {od rk : Nat → Int32} {np_ nj_ : Int32} {n b : Nat} {R f : Nat → Nat} {l1 l2 l3 l4 l5 l6 l7 : Option Value} (h1 : h 53 = mObj len at_ rp rj np_ nj_ kp su lo dr ab be) (h2 : h 69 = .inl (.int, 48, od)) (h3 : h 70 = .inl (.int, 48, rk)) (hn : n ≤ 24) (ho : ∀ j, j < n → od j = nI (f j)) (hf : ∀ j, j < n → f j < 24) (hR : ∀ j, j < n → rk (24 + f j) = nI (R j) ∧ R j < 24) (hb : b ≤ n) : ∀ m u, m + u = b → zE X 133 72 [some (.ref 53), l1, l2, l3, l4, l5, l6, l7, some (.int (nI b)), some (.int (nI (nSum (fun t => if R t < b then 1 else 0) u))), some (.int (nI u))] [] (N, 0, 0) h Q = zE X 133 115 [some (.ref 53), l1, l2, l3, l4, l5, l6, l7, some (.int (nI b)), some (.int (nI (nSum (fun t => if R t < b then 1 else 0) b))), some (.int (nI b))] [] (N, 0, 0) h Q := by
  unfold mObj at h1
  intro m
  induction m with
  | zero =>
    intro u hu
    obtain rfl : u = b := by omega
    rw [e133_72]
    simp (disch := omega) only [e133_0, e133_1, e133_2, e133_3, e133_4, e133_6, e133_9, e133_12, e133_14, e133_15, e133_16, e133_19, e133_22, e133_25, e133_27, e133_28, e133_29, e133_32, e133_35, e133_38, e133_39, e133_40, e133_41, e133_42, e133_43, e133_44, e133_46, e133_49, e133_50, e133_53, e133_54, e133_55, e133_57, e133_59, e133_61, e133_64, e133_66, e133_67, e133_69, e133_70, e133_74, e133_76, e133_79, e133_81, e133_82, e133_85, e133_87, e133_88, e133_91, e133_93, e133_94, e133_95, e133_96, e133_98, e133_101, e133_102, e133_105, e133_106, e133_107, e133_109, e133_112, e133_117, e133_120, e133_122, e133_123, e133_124, e133_126, e133_129, e133_130, e133_133, e133_135, e133_136, e133_138, e133_139, e133_140, e133_142, e133_145, e133_146, e133_149, e133_151, e133_152, e133_155, e133_157, e133_158, e133_161, e133_162, e133_165, e133_168, e133_169, e133_172, e133_173, znI_le, if_pos]
  | succ m ih =>
    intro u hu
    have ih' := ih (u + 1) (by omega)
    rw [nSum] at ih'
    obtain ⟨a1, a2⟩ := hR u (by omega)
    have c1 := hf u (by omega)
    have d1 : (24 : Int32) + nI (f u) = nI (24 + f u) := by rw [zc24, nI_add]
    rw [e133_72]
    simp (disch := omega) only [e133_0, e133_1, e133_2, e133_3, e133_4, e133_6, e133_9, e133_12, e133_14, e133_15, e133_16, e133_19, e133_22, e133_25, e133_27, e133_28, e133_29, e133_32, e133_35, e133_38, e133_39, e133_40, e133_41, e133_42, e133_43, e133_44, e133_46, e133_49, e133_50, e133_53, e133_54, e133_55, e133_57, e133_59, e133_61, e133_64, e133_66, e133_67, e133_69, e133_70, e133_74, e133_76, e133_79, e133_81, e133_82, e133_85, e133_87, e133_88, e133_91, e133_93, e133_95, e133_96, e133_98, e133_101, e133_102, e133_105, e133_106, e133_107, e133_109, e133_112, e133_117, e133_120, e133_122, e133_123, e133_124, e133_126, e133_129, e133_130, e133_133, e133_135, e133_136, e133_138, e133_139, e133_140, e133_142, e133_145, e133_146, e133_149, e133_151, e133_152, e133_155, e133_157, e133_158, e133_161, e133_162, e133_165, e133_168, e133_169, e133_172, e133_173, h1, h2, zg10_0, zp10_0, zg10_1, zp10_1, zg10_2, zp10_2, zg10_3, zp10_3, zg10_4, zp10_4, zg10_5, zp10_5, zg10_6, zp10_6, zg10_7, zp10_7, zg10_8, zp10_8, zg10_9, zp10_9, zg10_10, zp10_10, zg10_11, zp10_11, zg10_12, zp10_12, zg10_13, zp10_13, zg10_14, zp10_14, zg10_15, zp10_15, zg10_16, zp10_16, zg10_17, zp10_17, zg10_18, zp10_18, zg10_19, zp10_19, zg10_20, zp10_20, zg10_21, zp10_21, zg10_22, zp10_22, zg10_23, zp10_23, zg10_24, zp10_24, zg10_25, zp10_25, zg10_26, zp10_26, zg10_27, zp10_27, zg10_28, zp10_28, zg10_29, zp10_29, zg10_30, zp10_30, zg10_31, zp10_31, zg10_32, zp10_32, zrc_eq, zup_s, zup_n, zup_up, zal_i, zal_b, zal_z, zas_i, zas_b, zas_z, zan_eq, Option.toList_some, Option.toList_none, List.cons_append, List.nil_append, if_true, if_false, ite_true, ite_false, true_or, or_true, znI_le, if_neg]
    rw [ho u (by omega)]
    simp (disch := omega) only [e133_0, e133_1, e133_2, e133_3, e133_4, e133_6, e133_9, e133_12, e133_14, e133_15, e133_16, e133_19, e133_22, e133_25, e133_27, e133_28, e133_29, e133_32, e133_35, e133_38, e133_39, e133_40, e133_41, e133_42, e133_43, e133_44, e133_46, e133_49, e133_50, e133_53, e133_54, e133_55, e133_57, e133_59, e133_61, e133_64, e133_66, e133_67, e133_69, e133_70, e133_74, e133_76, e133_79, e133_81, e133_82, e133_85, e133_87, e133_88, e133_91, e133_93, e133_94, e133_95, e133_96, e133_101, e133_102, e133_105, e133_106, e133_107, e133_109, e133_112, e133_117, e133_120, e133_122, e133_123, e133_124, e133_126, e133_129, e133_130, e133_133, e133_135, e133_136, e133_138, e133_139, e133_140, e133_142, e133_145, e133_146, e133_149, e133_151, e133_152, e133_155, e133_157, e133_158, e133_161, e133_162, e133_165, e133_168, e133_169, e133_172, e133_173, h3, zrc_eq, zup_s, zup_n, zup_up, zal_i, zal_b, zal_z, zas_i, zas_b, zas_z, zan_eq, Option.toList_some, Option.toList_none, List.cons_append, List.nil_append, if_true, if_false, ite_true, ite_false, true_or, or_true, d1, a1]
    rw [e133_98]
    simp (disch := omega) only [znI_le]
    by_cases g : R u < b
    · rw [if_pos g] at ih'
      rw [if_neg (by omega)]
      simp (disch := omega) only [e133_0, e133_1, e133_2, e133_3, e133_4, e133_6, e133_9, e133_12, e133_14, e133_15, e133_16, e133_19, e133_22, e133_25, e133_27, e133_28, e133_29, e133_32, e133_35, e133_38, e133_39, e133_40, e133_41, e133_42, e133_43, e133_44, e133_46, e133_49, e133_50, e133_53, e133_54, e133_55, e133_57, e133_59, e133_61, e133_64, e133_66, e133_67, e133_69, e133_70, e133_74, e133_76, e133_79, e133_81, e133_82, e133_85, e133_87, e133_88, e133_91, e133_93, e133_94, e133_95, e133_96, e133_98, e133_101, e133_102, e133_105, e133_106, e133_107, e133_109, e133_112, e133_117, e133_120, e133_122, e133_123, e133_124, e133_126, e133_129, e133_130, e133_133, e133_135, e133_136, e133_138, e133_139, e133_140, e133_142, e133_145, e133_146, e133_149, e133_151, e133_152, e133_155, e133_157, e133_158, e133_161, e133_162, e133_165, e133_168, e133_169, e133_172, e133_173, nI_1]
      exact ih'
    · rw [if_neg g] at ih'
      rw [if_pos (by omega)]
      simp (disch := omega) only [e133_0, e133_1, e133_2, e133_3, e133_4, e133_6, e133_9, e133_12, e133_14, e133_15, e133_16, e133_19, e133_22, e133_25, e133_27, e133_28, e133_29, e133_32, e133_35, e133_38, e133_39, e133_40, e133_41, e133_42, e133_43, e133_44, e133_46, e133_49, e133_50, e133_53, e133_54, e133_55, e133_57, e133_59, e133_61, e133_64, e133_66, e133_67, e133_69, e133_70, e133_74, e133_76, e133_79, e133_81, e133_82, e133_85, e133_87, e133_88, e133_91, e133_93, e133_94, e133_95, e133_96, e133_98, e133_101, e133_102, e133_105, e133_106, e133_107, e133_109, e133_112, e133_117, e133_120, e133_122, e133_123, e133_124, e133_126, e133_129, e133_130, e133_133, e133_135, e133_136, e133_138, e133_139, e133_140, e133_142, e133_145, e133_146, e133_149, e133_151, e133_152, e133_155, e133_157, e133_158, e133_161, e133_162, e133_165, e133_168, e133_169, e133_172, e133_173, nI_1, Int32.add_zero]
      exact ih'
set_option maxHeartbeats 2000000 in
theorem zk124 {k : Int32} : (1 ≤ k.toInt64 ∧ k.toInt64 ≤ 24) = (1 ≤ k ∧ k ≤ 24) := by
  rw [show (1 : Int64) = (1 : Int32).toInt64 from by decide, show (24 : Int64) = (24 : Int32).toInt64 from by decide, zl_le, zl_le]
set_option maxHeartbeats 2000000 in
theorem zw02 {w : Int32} : ((0 : Int32).toInt64 ≤ w.toInt64 ∧ w.toInt64 ≤ 2) = (0 ≤ w ∧ w ≤ 2) := by
  rw [show (2 : Int64) = (2 : Int32).toInt64 from by decide, zl_le, zl_le]
set_option maxHeartbeats 2000000 in
theorem zl1 : (1 : Int64) = lN 1 := by decide
set_option maxHeartbeats 2000000 in
theorem c133 (hm : zMR h S D F len at_ rp rj kp su lo dr ab be) (K : ∀ h', zMk' h h' S len at_ rp rj kp → Q (some (.int (aBoth S (F 0) p d q e k w))) N h') : zE X 133 0 [some (.ref 53), some (.int p), some (.int d), some (.int q), some (.int e), some (.int k), some (.int w), none, none, none, none] [] (N, 0, 0) h Q := by
  have hm' := hm
  obtain ⟨h1, hs, ok, hT, hD, ms⟩ := hm
  have h1' := h1
  have rf : zMk' h h S len at_ rp rj kp := ⟨⟨_, _, _, _, _, h1⟩, ms, zfr.rf⟩
  unfold mObj at h1
  simp only [e133_0, e133_1, e133_2, e133_3, e133_4, e133_6, e133_9, e133_12, e133_14, e133_15, e133_16, e133_19, e133_22, e133_25, e133_27, e133_28, e133_29, e133_32, e133_35, e133_38, e133_39, e133_41, e133_42, e133_43, e133_44, e133_46, e133_49, e133_50, e133_53, e133_54, e133_55, e133_57, e133_59, e133_61, e133_64, e133_66, e133_67, e133_69, e133_70, e133_74, e133_76, e133_79, e133_81, e133_82, e133_85, e133_87, e133_88, e133_91, e133_93, e133_94, e133_95, e133_96, e133_98, e133_101, e133_102, e133_105, e133_106, e133_107, e133_109, e133_112, e133_115, e133_117, e133_120, e133_122, e133_123, e133_124, e133_126, e133_129, e133_130, e133_133, e133_135, e133_136, e133_138, e133_139, e133_140, e133_142, e133_145, e133_146, e133_149, e133_151, e133_152, e133_155, e133_157, e133_158, e133_161, e133_162, e133_165, e133_168, e133_169, e133_172, e133_173, h1, c130 h1', c108, zrc_eq, zup_s, zup_n, zup_up, zal_i, zal_b, zal_z, zas_i, zas_b, zas_z, zan_eq, Option.toList_some, Option.toList_none, List.cons_append, List.nil_append, if_true, if_false, ite_true, ite_false, true_or, or_true, z10, z00, zl64, zk124, zw02]
  unfold aBoth at K
  by_cases g1 : isTwo S.2.1.1 p d q e
  · rw [if_pos g1]
    by_cases g2 : 1 ≤ k ∧ k ≤ 24
    · rw [if_pos g2]
      by_cases g3 : 0 ≤ w ∧ w ≤ 2
      · rw [if_pos g3]
        rw [if_pos ⟨g1, g2, g3⟩] at K
        obtain ⟨m, hm1, hm2, rfl⟩ := zrange (lo := 1) (hi := 24) (by decide) g2.1 g2.2 (by decide)
        rw [nI_clamp (by omega)] at K
        simp (disch := omega) only [e133_0, e133_1, e133_2, e133_3, e133_4, e133_6, e133_9, e133_12, e133_14, e133_15, e133_16, e133_19, e133_22, e133_25, e133_27, e133_28, e133_29, e133_32, e133_35, e133_38, e133_39, e133_40, e133_41, e133_42, e133_43, e133_44, e133_46, e133_49, e133_50, e133_53, e133_54, e133_55, e133_57, e133_59, e133_61, e133_64, e133_66, e133_67, e133_69, e133_70, e133_74, e133_76, e133_79, e133_81, e133_82, e133_85, e133_87, e133_88, e133_91, e133_93, e133_94, e133_95, e133_96, e133_98, e133_101, e133_102, e133_105, e133_106, e133_107, e133_109, e133_112, e133_115, e133_117, e133_120, e133_122, e133_123, e133_124, e133_126, e133_129, e133_130, e133_133, e133_135, e133_136, e133_138, e133_139, e133_140, e133_142, e133_145, e133_146, e133_149, e133_151, e133_152, e133_155, e133_157, e133_158, e133_161, e133_162, e133_165, e133_168, e133_169, e133_172, e133_173, h1, zrc_eq, zup_s, zup_n, zup_up, zal_i, zal_b, zal_z, zas_i, zas_b, zas_z, zan_eq, Option.toList_some, Option.toList_none, List.cons_append, List.nil_append, if_true, if_false, ite_true, ite_false, true_or, or_true]
        refine c131 hm' (fun h' a1 a2 a3 a4 => ?_)
        have e1' := (a4 53 (by omega)).trans h1'
        have kk : zMk' h h' S len at_ rp rj kp := ⟨⟨_, _, _, _, _, e1'⟩, a3, a4.mono (fun a ha => by omega)⟩
        have e1 := e1'
        unfold mObj at e1
        obtain ⟨mn, od, rk, n1, n2, n3, n4, n5, n6, n7, n8⟩ := pMn.ranks a1 a2 oIn
        have hmn := Nat.min_le_right m (oN S (F 0))
        have hmm : min m (oN S (F 0)) * min m (oN S (F 0)) ≤ 24 * 24 := Nat.mul_le_mul (by omega) (by omega)
        simp (disch := omega) only [e133_0, e133_1, e133_2, e133_3, e133_4, e133_6, e133_9, e133_12, e133_14, e133_15, e133_16, e133_19, e133_22, e133_25, e133_27, e133_28, e133_29, e133_32, e133_35, e133_38, e133_39, e133_40, e133_41, e133_42, e133_43, e133_44, e133_46, e133_49, e133_50, e133_53, e133_54, e133_55, e133_57, e133_59, e133_61, e133_64, e133_66, e133_67, e133_69, e133_70, e133_74, e133_76, e133_79, e133_81, e133_82, e133_85, e133_87, e133_88, e133_91, e133_93, e133_94, e133_95, e133_96, e133_98, e133_101, e133_102, e133_105, e133_106, e133_107, e133_109, e133_112, e133_115, e133_117, e133_120, e133_122, e133_123, e133_124, e133_126, e133_129, e133_130, e133_133, e133_135, e133_136, e133_138, e133_139, e133_140, e133_142, e133_145, e133_146, e133_149, e133_151, e133_152, e133_155, e133_157, e133_158, e133_161, e133_162, e133_165, e133_168, e133_169, e133_172, e133_173, Option.toList_none, List.nil_append, e1, n1, zg10_0, zp10_0, zg10_1, zp10_1, zg10_2, zp10_2, zg10_3, zp10_3, zg10_4, zp10_4, zg10_5, zp10_5, zg10_6, zp10_6, zg10_7, zp10_7, zg10_8, zp10_8, zg10_9, zp10_9, zg10_10, zp10_10, zg10_11, zp10_11, zg10_12, zp10_12, zg10_13, zp10_13, zg10_14, zp10_14, zg10_15, zp10_15, zg10_16, zp10_16, zg10_17, zp10_17, zg10_18, zp10_18, zg10_19, zp10_19, zg10_20, zp10_20, zg10_21, zp10_21, zg10_22, zp10_22, zg10_23, zp10_23, zg10_24, zp10_24, zg10_25, zp10_25, zg10_26, zp10_26, zg10_27, zp10_27, zg10_28, zp10_28, zg10_29, zp10_29, zg10_30, zp10_30, zg10_31, zp10_31, zg10_32, zp10_32, zrc_eq, zup_s, zup_n, zup_up, zal_i, zal_b, zal_z, zas_i, zas_b, zas_z, zan_eq, Option.toList_some, Option.toList_none, List.cons_append, List.nil_append, if_true, if_false, ite_true, ite_false, true_or, or_true, zc0, n2, c128, zmin]
        refine Eq.mpr (c133_72 (X := X) (N := N) (Q := Q) e1' n3 n4 n5 n6 n7 n8 hmn (min m (oN S (F 0))) 0 (by omega)) ?_
        by_cases g4 : w = 0
        · rw [if_pos g4] at K
          simp (disch := omega) only [e133_0, e133_1, e133_2, e133_3, e133_4, e133_6, e133_9, e133_12, e133_14, e133_15, e133_16, e133_19, e133_22, e133_25, e133_27, e133_28, e133_29, e133_32, e133_35, e133_38, e133_39, e133_40, e133_41, e133_42, e133_43, e133_44, e133_46, e133_49, e133_50, e133_53, e133_54, e133_55, e133_57, e133_59, e133_61, e133_64, e133_66, e133_67, e133_69, e133_70, e133_74, e133_76, e133_79, e133_81, e133_82, e133_85, e133_87, e133_88, e133_91, e133_93, e133_94, e133_95, e133_96, e133_98, e133_101, e133_102, e133_105, e133_106, e133_107, e133_109, e133_112, e133_115, e133_117, e133_120, e133_122, e133_123, e133_124, e133_126, e133_129, e133_130, e133_133, e133_135, e133_136, e133_138, e133_139, e133_140, e133_142, e133_145, e133_146, e133_149, e133_151, e133_152, e133_155, e133_157, e133_158, e133_161, e133_162, e133_165, e133_168, e133_169, e133_172, e133_173, g4, ↓reduceIte]
          exact K h' kk
        · rw [if_neg g4] at K
          have run : zE X 134 0 [some (.ref 53), some (.long (lN (bA (oN S (F 0)) (min m (oN S (F 0)))))), none, some (.long (lN (bB (oN S (F 0))))), none, none, none, none, none, none, none] [] (N, 0, 0) h' (fun v N' h' => zE X 133 155 [some (.ref 53), some (.int p), some (.int d), some (.int q), some (.int e), some (.int (nI m)), some (.int w), some (.int (nI (oN S (F 0)))), some (.int (nI (min m (oN S (F 0))))), some (.int (nI (nSum (fun t => if oR S (F 0) p d q e t < min m (oN S (F 0)) then 1 else 0) (min m (oN S (F 0)))))), some (.int (nI (min m (oN S (F 0)))))] (v.toList ++ []) (N', 0, 0) h' Q) := by
            have hA : bA (oN S (F 0)) (min m (oN S (F 0))) < 2 ^ 62 := by unfold bA; split <;> omega
            have hB : 0 < bB (oN S (F 0)) ∧ bB (oN S (F 0)) < 2 ^ 62 := by unfold bB; split <;> omega
            refine c134' hA hB.1 hB.2 e1' ?_
            have F2 : zfr (fun a => a = 53) h' (va_up h' 53 (mObj len at_ rp rj (nI S.1.1) (nI S.2.1.1) kp su lo dr (lN (bA (oN S (F 0)) (min m (oN S (F 0))) / Nat.gcd (bA (oN S (F 0)) (min m (oN S (F 0)))) (bB (oN S (F 0))))) (lN (bB (oN S (F 0)) / Nat.gcd (bA (oN S (F 0)) (min m (oN S (F 0)))) (bB (oN S (F 0))))))) := zfr.up rfl zfr.rf
            have k2 := K _ ⟨⟨_, _, _, _, _, zup_s⟩, a3.kept F2 (by omega), (a4.mono (fun a ha => by omega)).tr (F2.mono (fun a ha => by omega))⟩
            unfold mObj at k2 ⊢
            by_cases g5 : w = 1
            · rw [if_pos g5] at k2
              simp (disch := omega) only [e133_0, e133_1, e133_2, e133_3, e133_4, e133_6, e133_9, e133_12, e133_14, e133_15, e133_16, e133_19, e133_22, e133_25, e133_27, e133_28, e133_29, e133_32, e133_35, e133_38, e133_39, e133_40, e133_41, e133_42, e133_43, e133_44, e133_46, e133_49, e133_50, e133_53, e133_54, e133_55, e133_57, e133_59, e133_61, e133_64, e133_66, e133_67, e133_69, e133_70, e133_74, e133_76, e133_79, e133_81, e133_82, e133_85, e133_87, e133_88, e133_91, e133_93, e133_94, e133_95, e133_96, e133_98, e133_101, e133_102, e133_105, e133_106, e133_107, e133_109, e133_112, e133_115, e133_117, e133_120, e133_122, e133_123, e133_124, e133_126, e133_129, e133_130, e133_133, e133_135, e133_136, e133_138, e133_139, e133_140, e133_142, e133_145, e133_146, e133_149, e133_151, e133_152, e133_155, e133_157, e133_158, e133_161, e133_162, e133_165, e133_168, e133_169, e133_172, e133_173, Option.toList_none, List.nil_append, zup_s, zg10_0, zp10_0, zg10_1, zp10_1, zg10_2, zp10_2, zg10_3, zp10_3, zg10_4, zp10_4, zg10_5, zp10_5, zg10_6, zp10_6, zg10_7, zp10_7, zg10_8, zp10_8, zg10_9, zp10_9, zg10_10, zp10_10, zg10_11, zp10_11, zg10_12, zp10_12, zg10_13, zp10_13, zg10_14, zp10_14, zg10_15, zp10_15, zg10_16, zp10_16, zg10_17, zp10_17, zg10_18, zp10_18, zg10_19, zp10_19, zg10_20, zp10_20, zg10_21, zp10_21, zg10_22, zp10_22, zg10_23, zp10_23, zg10_24, zp10_24, zg10_25, zp10_25, zg10_26, zp10_26, zg10_27, zp10_27, zg10_28, zp10_28, zg10_29, zp10_29, zg10_30, zp10_30, zg10_31, zp10_31, zg10_32, zp10_32, zrc_eq, zup_s, zup_n, zup_up, zal_i, zal_b, zal_z, zas_i, zas_b, zas_z, zan_eq, Option.toList_some, Option.toList_none, List.cons_append, List.nil_append, if_true, if_false, ite_true, ite_false, true_or, or_true, g5, ↓reduceIte, lN_i]
              exact k2
            · rw [if_neg g5] at k2
              simp (disch := omega) only [e133_0, e133_1, e133_2, e133_3, e133_4, e133_6, e133_9, e133_12, e133_14, e133_15, e133_16, e133_19, e133_22, e133_25, e133_27, e133_28, e133_29, e133_32, e133_35, e133_38, e133_39, e133_40, e133_41, e133_42, e133_43, e133_44, e133_46, e133_49, e133_50, e133_53, e133_54, e133_55, e133_57, e133_59, e133_61, e133_64, e133_66, e133_67, e133_69, e133_70, e133_74, e133_76, e133_79, e133_81, e133_82, e133_85, e133_87, e133_88, e133_91, e133_93, e133_94, e133_95, e133_96, e133_98, e133_101, e133_102, e133_105, e133_106, e133_107, e133_109, e133_112, e133_115, e133_117, e133_120, e133_122, e133_123, e133_124, e133_126, e133_129, e133_130, e133_133, e133_135, e133_136, e133_138, e133_139, e133_140, e133_142, e133_145, e133_146, e133_149, e133_151, e133_152, e133_155, e133_157, e133_158, e133_161, e133_162, e133_165, e133_168, e133_169, e133_172, e133_173, Option.toList_none, List.nil_append, zup_s, zg10_0, zp10_0, zg10_1, zp10_1, zg10_2, zp10_2, zg10_3, zp10_3, zg10_4, zp10_4, zg10_5, zp10_5, zg10_6, zp10_6, zg10_7, zp10_7, zg10_8, zp10_8, zg10_9, zp10_9, zg10_10, zp10_10, zg10_11, zp10_11, zg10_12, zp10_12, zg10_13, zp10_13, zg10_14, zp10_14, zg10_15, zp10_15, zg10_16, zp10_16, zg10_17, zp10_17, zg10_18, zp10_18, zg10_19, zp10_19, zg10_20, zp10_20, zg10_21, zp10_21, zg10_22, zp10_22, zg10_23, zp10_23, zg10_24, zp10_24, zg10_25, zp10_25, zg10_26, zp10_26, zg10_27, zp10_27, zg10_28, zp10_28, zg10_29, zp10_29, zg10_30, zp10_30, zg10_31, zp10_31, zg10_32, zp10_32, zrc_eq, zup_s, zup_n, zup_up, zal_i, zal_b, zal_z, zas_i, zas_b, zas_z, zan_eq, Option.toList_some, Option.toList_none, List.cons_append, List.nil_append, if_true, if_false, ite_true, ite_false, true_or, or_true, g5, ↓reduceIte, lN_i]
              exact k2
          by_cases gn : oN S (F 0) = 0
          · have ea : bA (oN S (F 0)) (min m (oN S (F 0))) = 0 := if_pos gn
            have eb : bB (oN S (F 0)) = 1 := if_pos gn
            have gn' : nI (oN S (F 0)) = 0 := by rw [gn]; rfl
            rw [ea, eb, ← zl0, ← zl1] at run
            simp (disch := omega) only [e133_0, e133_1, e133_2, e133_3, e133_4, e133_6, e133_9, e133_12, e133_14, e133_15, e133_16, e133_19, e133_22, e133_25, e133_27, e133_28, e133_29, e133_32, e133_35, e133_38, e133_39, e133_40, e133_41, e133_42, e133_43, e133_44, e133_46, e133_49, e133_50, e133_53, e133_54, e133_55, e133_57, e133_59, e133_61, e133_64, e133_66, e133_67, e133_69, e133_70, e133_74, e133_76, e133_79, e133_81, e133_82, e133_85, e133_87, e133_88, e133_91, e133_93, e133_94, e133_95, e133_96, e133_98, e133_101, e133_102, e133_105, e133_106, e133_107, e133_109, e133_112, e133_115, e133_117, e133_120, e133_122, e133_123, e133_124, e133_126, e133_129, e133_130, e133_133, e133_135, e133_136, e133_138, e133_139, e133_140, e133_142, e133_145, e133_146, e133_149, e133_151, e133_152, e133_157, e133_158, e133_161, e133_162, e133_165, e133_168, e133_169, e133_172, e133_173, g4, ↓reduceIte, e1, zrc_eq, zup_s, zup_n, zup_up, zal_i, zal_b, zal_z, zas_i, zas_b, zas_z, zan_eq, Option.toList_some, Option.toList_none, List.cons_append, List.nil_append, if_true, if_false, ite_true, ite_false, true_or, or_true, gn']
            rw [gn'] at run
            exact run
          · have ea : bA (oN S (F 0)) (min m (oN S (F 0))) = min m (oN S (F 0)) * min m (oN S (F 0)) := if_neg gn
            have eb : bB (oN S (F 0)) = oN S (F 0) := if_neg gn
            have gn' : (nI (oN S (F 0)) = 0) = False := eq_false (nI_ne0 (by omega) (by omega))
            rw [ea, eb] at run
            simp (disch := omega) only [e133_0, e133_1, e133_2, e133_3, e133_4, e133_6, e133_9, e133_12, e133_14, e133_15, e133_16, e133_19, e133_22, e133_25, e133_27, e133_28, e133_29, e133_32, e133_35, e133_38, e133_39, e133_40, e133_41, e133_42, e133_43, e133_44, e133_46, e133_49, e133_50, e133_53, e133_54, e133_55, e133_57, e133_59, e133_61, e133_64, e133_66, e133_67, e133_69, e133_70, e133_74, e133_76, e133_79, e133_81, e133_82, e133_85, e133_87, e133_88, e133_91, e133_93, e133_94, e133_95, e133_96, e133_98, e133_101, e133_102, e133_105, e133_106, e133_107, e133_109, e133_112, e133_115, e133_117, e133_120, e133_122, e133_123, e133_124, e133_126, e133_129, e133_130, e133_133, e133_135, e133_136, e133_138, e133_139, e133_140, e133_142, e133_145, e133_146, e133_149, e133_151, e133_152, e133_157, e133_158, e133_161, e133_162, e133_165, e133_168, e133_169, e133_172, e133_173, g4, ↓reduceIte, e1, zrc_eq, zup_s, zup_n, zup_up, zal_i, zal_b, zal_z, zas_i, zas_b, zas_z, zan_eq, Option.toList_some, Option.toList_none, List.cons_append, List.nil_append, if_true, if_false, ite_true, ite_false, true_or, or_true, gn', nI_l, lN_mul]
            exact run
      · rw [if_neg g3]
        rw [if_neg (fun z => g3 z.2.2)] at K
        exact K h rf
    · rw [if_neg g2]
      rw [if_neg (fun z => g2 z.2.1)] at K
      exact K h rf
  · rw [if_neg g1]
    rw [if_neg (fun z => g1 z.1)] at K
    exact K h rf
end C40
