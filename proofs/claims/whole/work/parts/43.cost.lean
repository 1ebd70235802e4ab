-- cost, even, later, hair
section C43
variable {X : Nat × (Nat → Int32)} {N : Nat} {h : zH} {Q : Option Value → Nat → zH → Prop} {S : zSh} {T : zTm} {F : Nat → zTm} {D : Nat → Prop} {ld dd : Nat} {i j p q d e r w k z t n m v : Int32}
variable {len at_ rp rj np_ nj_ kp su lo dr : Int32} {ab be : Int64}
def zush (x y : Int32) : Int32 := (x.toUInt32 >>> (y.toUInt32 &&& Int32.toUInt32 31)).toInt32
def zb1 (x : Int32) : Int32 := x - (zush x 1 &&& 1431655765)
def zb2 (x : Int32) : Int32 := (x &&& 858993459) + (zush x 2 &&& 858993459)
def zb3 (x : Int32) : Int32 := (x + zush x 4) &&& 252645135
def zb4 (x : Int32) : Int32 := x + zush x 8
def zb5 (x : Int32) : Int32 := (x + zush x 16) &&& 63
/-- what the JDK's bitCount reckons -/
def zbc (x : Int32) : Int32 := zb5 (zb4 (zb3 (zb2 (zb1 x))))
set_option maxHeartbeats 2000000 in
theorem c77 {x : Int32} : zE X 77 0 [some (.int x)] [] (N, 0, 0) h Q = Q (some (.int (zbc x))) N h := by
  simp only [e77_0, e77_1, e77_2, e77_3, e77_4, e77_7, e77_8, e77_9, e77_10, e77_11, e77_14, e77_15, e77_16, e77_17, e77_18, e77_21, e77_22, e77_23, e77_24, e77_25, e77_26, e77_27, e77_28, e77_29, e77_32, e77_33, e77_34, e77_35, e77_36, e77_38, e77_39, e77_40, e77_41, e77_42, e77_43, e77_45, e77_46, e77_47, e77_48, e77_49, e77_51, e77_52]
  rfl
/-- how many of the first judges are of the panel -/
def jCnt (p : Int32) : Nat → Nat
  | 0 => 0
  | j + 1 => jCnt p j + (if zhas p j then 1 else 0)
set_option maxHeartbeats 2000000 in
theorem zbc_small : ∀ nj, nj < 7 → ∀ m, m < 2 ^ nj → zbc (nI m) = nI (jCnt (nI m) nj) := by decide +kernel
set_option maxHeartbeats 2000000 in
theorem zshl_small : ∀ nj, nj < 7 → (1 : Int32) <<< (nI nj &&& 31) = nI (2 ^ nj) := by decide +kernel
set_option maxHeartbeats 2000000 in
theorem jCnt_le (p : Int32) : ∀ n, jCnt p n ≤ n
  | 0 => Nat.le_refl 0
  | n + 1 => by
    have := jCnt_le p n
    rw [jCnt]
    split <;> omega
set_option maxHeartbeats 2000000 in
theorem isPan.bc {nj : Nat} {p : Int32} (hp : isPan nj p) (hn : nj ≤ 6) : zbc p = nI (jCnt p nj) := by
  obtain ⟨h1, h2⟩ := hp
  rw [zshl_small nj (by omega)] at h2
  have h64 : 2 ^ nj ≤ 2 ^ 6 := Nat.pow_le_pow_right (by decide) hn
  have a1 := Int32.lt_iff_toInt_lt.mp h1
  have a2 := Int32.lt_iff_toInt_lt.mp h2
  rw [nI_toInt (by omega)] at a2
  have z : (0 : Int32).toInt = 0 := by decide
  have e : p = nI p.toInt.toNat := by
    apply Int32.toInt_inj.mp
    rw [nI_toInt (by omega)]
    omega
  rw [e]
  exact zbc_small nj (by omega) _ (by omega)
/-- COST if a plans take part, c of them are in the lot, b judges read -/
def cst (S : zSh) (a b c : Nat) : Nat := S.2.2.2.1.2.1 * a + S.2.2.2.1.2.2 * b * (a - c)
set_option maxHeartbeats 2000000 in
theorem c78 {a b c : Nat} (hs : pSh h ld S) (hc : c ≤ a) : zE X 78 0 [some (.ref ld), some (.int (nI a)), some (.int (nI c)), some (.int (nI b))] [] (N, 0, 0) h Q = Q (some (.int (nI (cst S a b c)))) N h := by
  obtain ⟨⟨np, wo, sa, au⟩, ⟨nj, le, fo, ro⟩, ⟨pa, pb, pc⟩, ⟨co, hx, hy⟩, hf, pt⟩ := S
  obtain ⟨s1, -⟩ := hs
  simp (disch := omega) only [e78_0, e78_1, e78_4, e78_5, e78_6, e78_7, e78_10, e78_11, e78_12, e78_13, e78_14, e78_15, e78_16, e78_17, s1, zg5_0, zp5_0, zg5_1, zp5_1, zg5_2, zp5_2, zg5_3, zp5_3, zg5_4, zp5_4, zg5_5, zp5_5, zg5_6, zp5_6, zg5_7, zp5_7, zg5_8, zp5_8, zg5_9, zp5_9, zg5_10, zp5_10, zg5_11, zp5_11, zg5_12, zp5_12, zg5_13, zp5_13, zg5_14, zp5_14, zg5_15, zp5_15, zrc_eq, zup_s, zup_n, zup_up, zal_i, zal_b, zal_z, zas_i, zas_b, zas_z, zan_eq, Option.toList_some, Option.toList_none, List.cons_append, List.nil_append, if_true, if_false, ite_true, ite_false, true_or, or_true, pk_mul, pk_sub hc, nI_add, cst]
set_option maxHeartbeats 2000000 in
theorem c145_loop {np_ : Int32} {nj : Nat} (hn : nj ≤ 6) (h1 : h 53 = mObj len at_ rp rj np_ (nI nj) kp su lo dr ab be) : ∀ m j, m + j = nj → zE X 145 4 [some (.ref 53), some (.int p), some (.int (nI (jCnt p j))), some (.int (nI j))] [] (N, 0, 0) h Q = Q (some (.int (nI (jCnt p nj)))) N h := by
  unfold mObj at h1
  intro m
  induction m with
  | zero =>
    intro j hj
    obtain rfl : j = nj := by omega
    rw [e145_4]
    simp (disch := omega) only [e145_0, e145_1, e145_2, e145_3, e145_5, e145_6, e145_9, e145_12, e145_13, e145_14, e145_15, e145_18, e145_21, e145_22, e145_25, e145_26, e145_27, e145_28, e145_31, e145_34, e145_35, h1, zg10_0, zp10_0, zg10_1, zp10_1, zg10_2, zp10_2, zg10_3, zp10_3, zg10_4, zp10_4, zg10_5, zp10_5, zg10_6, zp10_6, zg10_7, zp10_7, zg10_8, zp10_8, zg10_9, zp10_9, zg10_10, zp10_10, zg10_11, zp10_11, zg10_12, zp10_12, zg10_13, zp10_13, zg10_14, zp10_14, zg10_15, zp10_15, zg10_16, zp10_16, zg10_17, zp10_17, zg10_18, zp10_18, zg10_19, zp10_19, zg10_20, zp10_20, zg10_21, zp10_21, zg10_22, zp10_22, zg10_23, zp10_23, zg10_24, zp10_24, zg10_25, zp10_25, zg10_26, zp10_26, zg10_27, zp10_27, zg10_28, zp10_28, zg10_29, zp10_29, zg10_30, zp10_30, zg10_31, zp10_31, zg10_32, zp10_32, zrc_eq, zup_s, zup_n, zup_up, zal_i, zal_b, zal_z, zas_i, zas_b, zas_z, zan_eq, Option.toList_some, Option.toList_none, List.cons_append, List.nil_append, if_true, if_false, ite_true, ite_false, true_or, or_true, znI_le, if_pos]
  | succ m ih =>
    intro j hj
    have ih' := ih (j + 1) (by omega)
    rw [jCnt] at ih'
    rw [e145_4]
    by_cases g : zhas p j
    · rw [if_pos g] at ih'
      have g' := eq_true g
      simp (disch := omega) only [e145_0, e145_1, e145_2, e145_3, e145_5, e145_6, e145_9, e145_12, e145_13, e145_14, e145_15, e145_18, e145_21, e145_22, e145_25, e145_26, e145_27, e145_28, e145_31, e145_34, e145_35, h1, zg10_0, zp10_0, zg10_1, zp10_1, zg10_2, zp10_2, zg10_3, zp10_3, zg10_4, zp10_4, zg10_5, zp10_5, zg10_6, zp10_6, zg10_7, zp10_7, zg10_8, zp10_8, zg10_9, zp10_9, zg10_10, zp10_10, zg10_11, zp10_11, zg10_12, zp10_12, zg10_13, zp10_13, zg10_14, zp10_14, zg10_15, zp10_15, zg10_16, zp10_16, zg10_17, zp10_17, zg10_18, zp10_18, zg10_19, zp10_19, zg10_20, zp10_20, zg10_21, zp10_21, zg10_22, zp10_22, zg10_23, zp10_23, zg10_24, zp10_24, zg10_25, zp10_25, zg10_26, zp10_26, zg10_27, zp10_27, zg10_28, zp10_28, zg10_29, zp10_29, zg10_30, zp10_30, zg10_31, zp10_31, zg10_32, zp10_32, zrc_eq, zup_s, zup_n, zup_up, zal_i, zal_b, zal_z, zas_i, zas_b, zas_z, zan_eq, Option.toList_some, Option.toList_none, List.cons_append, List.nil_append, if_true, if_false, ite_true, ite_false, true_or, or_true, znI_le, if_neg, c126, g', ↓reduceIte, z10, nI_1]
      exact ih'
    · rw [if_neg g] at ih'
      have g' : ((p >>> (nI j &&& 31)) &&& 1 = 1) = False := eq_false g
      simp (disch := omega) only [e145_0, e145_1, e145_2, e145_3, e145_5, e145_6, e145_9, e145_12, e145_13, e145_14, e145_15, e145_18, e145_21, e145_22, e145_25, e145_26, e145_27, e145_28, e145_31, e145_34, e145_35, h1, zg10_0, zp10_0, zg10_1, zp10_1, zg10_2, zp10_2, zg10_3, zp10_3, zg10_4, zp10_4, zg10_5, zp10_5, zg10_6, zp10_6, zg10_7, zp10_7, zg10_8, zp10_8, zg10_9, zp10_9, zg10_10, zp10_10, zg10_11, zp10_11, zg10_12, zp10_12, zg10_13, zp10_13, zg10_14, zp10_14, zg10_15, zp10_15, zg10_16, zp10_16, zg10_17, zp10_17, zg10_18, zp10_18, zg10_19, zp10_19, zg10_20, zp10_20, zg10_21, zp10_21, zg10_22, zp10_22, zg10_23, zp10_23, zg10_24, zp10_24, zg10_25, zp10_25, zg10_26, zp10_26, zg10_27, zp10_27, zg10_28, zp10_28, zg10_29, zp10_29, zg10_30, zp10_30, zg10_31, zp10_31, zg10_32, zp10_32, zrc_eq, zup_s, zup_n, zup_up, zal_i, zal_b, zal_z, zas_i, zas_b, zas_z, zan_eq, Option.toList_some, Option.toList_none, List.cons_append, List.nil_append, if_true, if_false, ite_true, ite_false, true_or, or_true, znI_le, if_neg, c126, g', ↓reduceIte, z00, nI_1, Int32.add_zero]
      exact ih'
set_option maxHeartbeats 2000000 in
theorem c145 {np_ : Int32} {nj : Nat} (hn : nj ≤ 6) (h1 : h 53 = mObj len at_ rp rj np_ (nI nj) kp su lo dr ab be) : zE X 145 0 [some (.ref 53), some (.int p), none, none] [] (N, 0, 0) h Q = Q (some (.int (nI (jCnt p nj)))) N h := by
  simp (disch := omega) only [e145_0, e145_1, e145_2, e145_3, e145_5, e145_6, e145_9, e145_12, e145_13, e145_14, e145_15, e145_18, e145_21, e145_22, e145_25, e145_26, e145_27, e145_28, e145_31, e145_34, e145_35, zc0]
  exact c145_loop hn h1 nj 0 (by omega)
set_option maxHeartbeats 2000000 in
theorem c144 {a c : Nat} (h1 : h 53 = mObj len at_ rp rj (nI S.1.1) (nI S.2.1.1) kp su lo dr ab be) (hs : pMs h 59 60 61 S) (hc : c ≤ a) : zE X 144 0 [some (.ref 53), some (.int p), some (.int (nI a)), some (.int (nI c))] [] (N, 0, 0) h Q = Q (some (.int (nI (cst S a (jCnt p S.2.1.1) c)))) N h := by
  obtain ⟨m1, m2, rpl, rju, rre, g1, g2, g3, w1, w2, r0, r1, r2, r3, r4, r5, r6⟩ := hs.rows
  have E := fun Q' => c145 (X := X) (N := N) (Q := Q') (p := p) m2 h1
  unfold mObj at h1
  simp (disch := omega) only [e144_0, e144_1, e144_4, e144_5, e144_6, e144_7, e144_8, e144_9, e144_12, e144_13, e144_14, e144_15, e144_16, e144_19, e144_20, e144_21, e144_22, e144_23, e144_24, e144_25, h1, g3, zg10_0, zp10_0, zg10_1, zp10_1, zg10_2, zp10_2, zg10_3, zp10_3, zg10_4, zp10_4, zg10_5, zp10_5, zg10_6, zp10_6, zg10_7, zp10_7, zg10_8, zp10_8, zg10_9, zp10_9, zg10_10, zp10_10, zg10_11, zp10_11, zg10_12, zp10_12, zg10_13, zp10_13, zg10_14, zp10_14, zg10_15, zp10_15, zg10_16, zp10_16, zg10_17, zp10_17, zg10_18, zp10_18, zg10_19, zp10_19, zg10_20, zp10_20, zg10_21, zp10_21, zg10_22, zp10_22, zg10_23, zp10_23, zg10_24, zp10_24, zg10_25, zp10_25, zg10_26, zp10_26, zg10_27, zp10_27, zg10_28, zp10_28, zg10_29, zp10_29, zg10_30, zp10_30, zg10_31, zp10_31, zg10_32, zp10_32, zrc_eq, zup_s, zup_n, zup_up, zal_i, zal_b, zal_z, zas_i, zas_b, zas_z, zan_eq, Option.toList_some, Option.toList_none, List.cons_append, List.nil_append, if_true, if_false, ite_true, ite_false, true_or, or_true, zc4, zc5, r4, r5, E, pk_mul, pk_sub hc, nI_add, cst]
def aCost (S : zSh) (T : zTm) (p d w : Int32) : Int32 := if isPan S.2.1.1 p ∧ isDr d ∧ (0 ≤ w ∧ w ≤ 1) then (if w = 0 then nI (cst S (oN S T) (jCnt p S.2.1.1) (pLo S (oN S T))) else nI S.2.2.2.1.1 * (nI (pSu S (oN S T)) + nI (pDr S (oN S T))) - nI (cst S (oN S T) (jCnt p S.2.1.1) (pLo S (oN S T)))) else -1000000
set_option maxHeartbeats 2000000 in
theorem pSh.co {h : zH} {t : Nat} (hs : pSh h t S) : ∃ v0 v1 v2 v3 v4 v5 v6 v7 v8 v9 v10 v12 v13 v14 v15, h t = .inr (5, [v0, v1, v2, v3, v4, v5, v6, v7, v8, v9, v10, .int (nI S.2.2.2.1.1), v12, v13, v14, v15]) := by
  obtain ⟨⟨np, wo, sa, au⟩, ⟨nj, le, fo, ro⟩, ⟨pa, pb, pc⟩, ⟨co, hx, hy⟩, hf, pt⟩ := S
  exact ⟨_, _, _, _, _, _, _, _, _, _, _, _, _, _, _, hs.1⟩
set_option maxHeartbeats 2000000 in
theorem pLo_le {n : Nat} : pLo S n ≤ n := by
  have : pLo S n ≤ n - pSu S n := Nat.min_le_right _ _
  omega
set_option maxHeartbeats 2000000 in
theorem c76 (hc : zCR h ld dd kp S T) (K : ∀ h', zCS h' → zcf h h' → Q (some (.int (aCost S T p d w))) N h') : zE X 76 0 [some (.ref 0), some (.int p), some (.int d), some (.int w), none] [] (N, 0, 0) h Q := by
  have hc' := hc
  obtain ⟨h0, hd, hs, ok, ht, cs⟩ := hc
  have h0' := h0
  unfold pObj at h0
  simp only [e76_0, e76_1, e76_2, e76_5, e76_8, e76_9, e76_12, e76_15, e76_16, e76_17, e76_18, e76_21, e76_24, e76_26, e76_28, e76_29, e76_30, e76_33, e76_34, e76_37, e76_38, e76_41, e76_44, e76_45, e76_48, e76_51, e76_52, e76_55, e76_58, e76_60, e76_61, e76_64, e76_66, e76_69, e76_70, e76_73, e76_76, e76_77, e76_80, e76_83, e76_84, e76_87, e76_90, e76_91, e76_92, e76_94, e76_95, h0, c41 h0' hs, c37, c13, zrc_eq, zup_s, zup_n, zup_up, zal_i, zal_b, zal_z, zas_i, zas_b, zas_z, zan_eq, Option.toList_some, Option.toList_none, List.cons_append, List.nil_append, if_true, if_false, ite_true, ite_false, true_or, or_true, z10, z00]
  unfold aCost at K
  by_cases g1 : isPan S.2.1.1 p
  · rw [if_pos g1]
    by_cases g2 : isDr d
    · rw [if_pos g2]
      by_cases g3 : 0 ≤ w ∧ w ≤ 1
      · rw [if_pos g3]
        rw [if_pos ⟨g1, g2, g3⟩] at K
        simp (disch := omega) only [e76_0, e76_1, e76_2, e76_5, e76_8, e76_9, e76_12, e76_15, e76_16, e76_17, e76_18, e76_21, e76_24, e76_26, e76_27, e76_28, e76_29, e76_30, e76_33, e76_34, e76_37, e76_38, e76_41, e76_44, e76_45, e76_48, e76_51, e76_52, e76_55, e76_58, e76_60, e76_61, e76_64, e76_66, e76_69, e76_70, e76_73, e76_76, e76_77, e76_80, e76_83, e76_84, e76_87, e76_90, e76_91, e76_92, e76_94, e76_95, h0, zg9_0, zp9_0, zg9_1, zp9_1, zg9_2, zp9_2, zg9_3, zp9_3, zg9_4, zp9_4, zg9_5, zp9_5, zg9_6, zp9_6, zg9_7, zp9_7, zg9_8, zp9_8, zg9_9, zp9_9, zg9_10, zp9_10, zg9_11, zp9_11, zg9_12, zp9_12, zg9_13, zp9_13, zg9_14, zp9_14, zg9_15, zp9_15, zg9_16, zp9_16, zrc_eq, zup_s, zup_n, zup_up, zal_i, zal_b, zal_z, zas_i, zas_b, zas_z, zan_eq, Option.toList_some, Option.toList_none, List.cons_append, List.nil_append, if_true, if_false, ite_true, ite_false, true_or, or_true]
        refine c63 hc' (fun h' a1 a2 a3 a4 => ?_)
        have e0 := (a4 0 (by omega)).trans h0
        obtain ⟨o1, o2⟩ := a1.obj
        obtain ⟨x, y, f, g, s1, s2, s3⟩ := a2
        have bc := g1.bc ok.2.1.1
        obtain ⟨v0, v1, v2, v3, v4, v5, v6, v7, v8, v9, v10, v12, v13, v14, v15, hl⟩ := a3.2.2.1.co
        have E := fun Q' => c78 (X := X) (N := N) (Q := Q') (a := oN S T) (b := jCnt p S.2.1.1) (c := pLo S (oN S T)) a3.2.2.1 pLo_le
        by_cases g4 : w = 0
        · rw [if_pos g4] at K
          simp (disch := omega) only [e76_0, e76_1, e76_2, e76_5, e76_8, e76_9, e76_12, e76_15, e76_16, e76_17, e76_18, e76_21, e76_24, e76_26, e76_27, e76_28, e76_29, e76_30, e76_33, e76_34, e76_37, e76_38, e76_41, e76_44, e76_45, e76_48, e76_51, e76_52, e76_55, e76_58, e76_60, e76_61, e76_64, e76_66, e76_69, e76_70, e76_73, e76_76, e76_77, e76_80, e76_83, e76_84, e76_87, e76_90, e76_91, e76_92, e76_94, e76_95, Option.toList_none, List.nil_append, e0, o1, s1, hl, zg9_0, zp9_0, zg9_1, zp9_1, zg9_2, zp9_2, zg9_3, zp9_3, zg9_4, zp9_4, zg9_5, zp9_5, zg9_6, zp9_6, zg9_7, zp9_7, zg9_8, zp9_8, zg9_9, zp9_9, zg9_10, zp9_10, zg9_11, zp9_11, zg9_12, zp9_12, zg9_13, zp9_13, zg9_14, zp9_14, zg9_15, zp9_15, zg9_16, zp9_16, zg2_0, zp2_0, zg2_1, zp2_1, zg2_2, zp2_2, zg2_3, zp2_3, zg6_0, zp6_0, zg6_1, zp6_1, zg6_2, zp6_2, zg6_3, zp6_3, zg6_4, zp6_4, zg6_5, zp6_5, zg6_6, zp6_6, zg5_0, zp5_0, zg5_1, zp5_1, zg5_2, zp5_2, zg5_3, zp5_3, zg5_4, zp5_4, zg5_5, zp5_5, zg5_6, zp5_6, zg5_7, zp5_7, zg5_8, zp5_8, zg5_9, zp5_9, zg5_10, zp5_10, zg5_11, zp5_11, zg5_12, zp5_12, zg5_13, zp5_13, zg5_14, zp5_14, zg5_15, zp5_15, zrc_eq, zup_s, zup_n, zup_up, zal_i, zal_b, zal_z, zas_i, zas_b, zas_z, zan_eq, Option.toList_some, Option.toList_none, List.cons_append, List.nil_append, if_true, if_false, ite_true, ite_false, true_or, or_true, c77, bc, E, g4, ↓reduceIte]
          exact K h' a3.2.2.2.2.2 a4
        · rw [if_neg g4] at K
          simp (disch := omega) only [e76_0, e76_1, e76_2, e76_5, e76_8, e76_9, e76_12, e76_15, e76_16, e76_17, e76_18, e76_21, e76_24, e76_26, e76_27, e76_28, e76_29, e76_30, e76_33, e76_34, e76_37, e76_38, e76_41, e76_44, e76_45, e76_48, e76_51, e76_52, e76_55, e76_58, e76_60, e76_61, e76_64, e76_66, e76_69, e76_70, e76_73, e76_76, e76_77, e76_80, e76_83, e76_84, e76_87, e76_90, e76_91, e76_92, e76_94, e76_95, Option.toList_none, List.nil_append, e0, o1, s1, hl, zg9_0, zp9_0, zg9_1, zp9_1, zg9_2, zp9_2, zg9_3, zp9_3, zg9_4, zp9_4, zg9_5, zp9_5, zg9_6, zp9_6, zg9_7, zp9_7, zg9_8, zp9_8, zg9_9, zp9_9, zg9_10, zp9_10, zg9_11, zp9_11, zg9_12, zp9_12, zg9_13, zp9_13, zg9_14, zp9_14, zg9_15, zp9_15, zg9_16, zp9_16, zg2_0, zp2_0, zg2_1, zp2_1, zg2_2, zp2_2, zg2_3, zp2_3, zg6_0, zp6_0, zg6_1, zp6_1, zg6_2, zp6_2, zg6_3, zp6_3, zg6_4, zp6_4, zg6_5, zp6_5, zg6_6, zp6_6, zg5_0, zp5_0, zg5_1, zp5_1, zg5_2, zp5_2, zg5_3, zp5_3, zg5_4, zp5_4, zg5_5, zp5_5, zg5_6, zp5_6, zg5_7, zp5_7, zg5_8, zp5_8, zg5_9, zp5_9, zg5_10, zp5_10, zg5_11, zp5_11, zg5_12, zp5_12, zg5_13, zp5_13, zg5_14, zp5_14, zg5_15, zp5_15, zrc_eq, zup_s, zup_n, zup_up, zal_i, zal_b, zal_z, zas_i, zas_b, zas_z, zan_eq, Option.toList_some, Option.toList_none, List.cons_append, List.nil_append, if_true, if_false, ite_true, ite_false, true_or, or_true, c77, bc, E, g4, ↓reduceIte]
          exact K h' a3.2.2.2.2.2 a4
      · rw [if_neg g3]
        rw [if_neg (fun z => g3 z.2.2)] at K
        exact K h cs zfr.rf
    · rw [if_neg g2]
      rw [if_neg (fun z => g2 z.2.1)] at K
      exact K h cs zfr.rf
  · rw [if_neg g1]
    rw [if_neg (fun z => g1 z.1)] at K
    exact K h cs zfr.rf
set_option maxHeartbeats 2000000 in
theorem c143 (hm : zMR h S D F len at_ rp rj kp su lo dr ab be) (K : ∀ h', zMk' h h' S len at_ rp rj kp → Q (some (.int (aCost S (F 0) p d w))) N h') : zE X 143 0 [some (.ref 53), some (.int p), some (.int d), some (.int w), none] [] (N, 0, 0) h Q := by
  have hm' := hm
  obtain ⟨h1, hs, ok, hT, hD, ms⟩ := hm
  have h1' := h1
  have rf : zMk' h h S len at_ rp rj kp := ⟨⟨_, _, _, _, _, h1⟩, ms, zfr.rf⟩
  unfold mObj at h1
  simp only [e143_0, e143_1, e143_2, e143_5, e143_8, e143_9, e143_12, e143_15, e143_16, e143_17, e143_18, e143_19, e143_22, e143_25, e143_27, e143_29, e143_30, e143_31, e143_34, e143_35, e143_36, e143_37, e143_40, e143_41, e143_42, e143_43, e143_46, e143_49, e143_51, e143_52, e143_55, e143_57, e143_60, e143_61, e143_64, e143_65, e143_66, e143_67, e143_70, e143_71, e143_74, e143_75, e143_76, e143_78, e143_79, h1, c122 h1', c119, c108, zrc_eq, zup_s, zup_n, zup_up, zal_i, zal_b, zal_z, zas_i, zas_b, zas_z, zan_eq, Option.toList_some, Option.toList_none, List.cons_append, List.nil_append, if_true, if_false, ite_true, ite_false, true_or, or_true, z10, z00, zl64, zw01]
  unfold aCost at K
  by_cases g1 : isPan S.2.1.1 p
  · rw [if_pos g1]
    by_cases g2 : isDr d
    · rw [if_pos g2]
      by_cases g3 : 0 ≤ w ∧ w ≤ 1
      · rw [if_pos g3]
        rw [if_pos ⟨g1, g2, g3⟩] at K
        simp (disch := omega) only [e143_0, e143_1, e143_2, e143_5, e143_8, e143_9, e143_12, e143_15, e143_16, e143_17, e143_18, e143_19, e143_22, e143_25, e143_27, e143_28, e143_29, e143_30, e143_31, e143_34, e143_35, e143_36, e143_37, e143_40, e143_41, e143_42, e143_43, e143_46, e143_49, e143_51, e143_52, e143_55, e143_57, e143_60, e143_61, e143_64, e143_65, e143_66, e143_67, e143_70, e143_71, e143_74, e143_75, e143_76, e143_78, e143_79, h1, zrc_eq, zup_s, zup_n, zup_up, zal_i, zal_b, zal_z, zas_i, zas_b, zas_z, zan_eq, Option.toList_some, Option.toList_none, List.cons_append, List.nil_append, if_true, if_false, ite_true, ite_false, true_or, or_true]
        refine c123 hm' (fun h' a1 a2 a3 => ?_)
        have kk : zMk' h h' S len at_ rp rj kp := ⟨⟨_, _, _, _, _, a2.1⟩, a2.2.2.2.2.2, a3⟩
        have E := fun Q' => c144 (X := X) (N := N) (Q := Q') (p := p) (a := oN S (F 0)) (c := pLo S (oN S (F 0))) a2.1 a2.2.1 pLo_le
        obtain ⟨m1, m2, rpl, rju, rre, gg1, gg2, gg3, w1, w2, r0, r1, r2, r3, r4, r5, r6⟩ := a2.2.1.rows
        obtain ⟨mn, od, rk, mk, n1, n2, n3, n4, n5, n6, n7, n8, n9⟩ := a1
        have e1 := a2.1
        unfold mObj at e1
        by_cases g4 : w = 0
        · rw [if_pos g4] at K
          simp (disch := omega) only [e143_0, e143_1, e143_2, e143_5, e143_8, e143_9, e143_12, e143_15, e143_16, e143_17, e143_18, e143_19, e143_22, e143_25, e143_27, e143_28, e143_29, e143_30, e143_31, e143_34, e143_35, e143_36, e143_37, e143_40, e143_41, e143_42, e143_43, e143_46, e143_51, e143_52, e143_55, e143_57, e143_60, e143_61, e143_64, e143_65, e143_66, e143_67, e143_70, e143_71, e143_74, e143_75, e143_76, e143_78, e143_79, Option.toList_none, List.nil_append, e1, n1, n6, zg10_0, zp10_0, zg10_1, zp10_1, zg10_2, zp10_2, zg10_3, zp10_3, zg10_4, zp10_4, zg10_5, zp10_5, zg10_6, zp10_6, zg10_7, zp10_7, zg10_8, zp10_8, zg10_9, zp10_9, zg10_10, zp10_10, zg10_11, zp10_11, zg10_12, zp10_12, zg10_13, zp10_13, zg10_14, zp10_14, zg10_15, zp10_15, zg10_16, zp10_16, zg10_17, zp10_17, zg10_18, zp10_18, zg10_19, zp10_19, zg10_20, zp10_20, zg10_21, zp10_21, zg10_22, zp10_22, zg10_23, zp10_23, zg10_24, zp10_24, zg10_25, zp10_25, zg10_26, zp10_26, zg10_27, zp10_27, zg10_28, zp10_28, zg10_29, zp10_29, zg10_30, zp10_30, zg10_31, zp10_31, zg10_32, zp10_32, zrc_eq, zup_s, zup_n, zup_up, zal_i, zal_b, zal_z, zas_i, zas_b, zas_z, zan_eq, Option.toList_some, Option.toList_none, List.cons_append, List.nil_append, if_true, if_false, ite_true, ite_false, true_or, or_true, zc0, E]
          rw [g4]
          simp (disch := omega) only [e143_0, e143_1, e143_2, e143_5, e143_8, e143_9, e143_12, e143_15, e143_16, e143_17, e143_18, e143_19, e143_22, e143_25, e143_27, e143_28, e143_29, e143_30, e143_31, e143_34, e143_35, e143_36, e143_37, e143_40, e143_41, e143_42, e143_43, e143_46, e143_49, e143_51, e143_52, e143_55, e143_57, e143_60, e143_61, e143_64, e143_65, e143_66, e143_67, e143_70, e143_71, e143_74, e143_75, e143_76, e143_78, e143_79, ↓reduceIte]
          exact K h' kk
        · rw [if_neg g4] at K
          simp (disch := omega) only [e143_0, e143_1, e143_2, e143_5, e143_8, e143_9, e143_12, e143_15, e143_16, e143_17, e143_18, e143_19, e143_22, e143_25, e143_27, e143_28, e143_29, e143_30, e143_31, e143_34, e143_35, e143_36, e143_37, e143_40, e143_41, e143_42, e143_43, e143_46, e143_51, e143_52, e143_55, e143_57, e143_60, e143_61, e143_64, e143_65, e143_66, e143_67, e143_70, e143_71, e143_74, e143_75, e143_76, e143_78, e143_79, Option.toList_none, List.nil_append, e1, n1, n6, zg10_0, zp10_0, zg10_1, zp10_1, zg10_2, zp10_2, zg10_3, zp10_3, zg10_4, zp10_4, zg10_5, zp10_5, zg10_6, zp10_6, zg10_7, zp10_7, zg10_8, zp10_8, zg10_9, zp10_9, zg10_10, zp10_10, zg10_11, zp10_11, zg10_12, zp10_12, zg10_13, zp10_13, zg10_14, zp10_14, zg10_15, zp10_15, zg10_16, zp10_16, zg10_17, zp10_17, zg10_18, zp10_18, zg10_19, zp10_19, zg10_20, zp10_20, zg10_21, zp10_21, zg10_22, zp10_22, zg10_23, zp10_23, zg10_24, zp10_24, zg10_25, zp10_25, zg10_26, zp10_26, zg10_27, zp10_27, zg10_28, zp10_28, zg10_29, zp10_29, zg10_30, zp10_30, zg10_31, zp10_31, zg10_32, zp10_32, zrc_eq, zup_s, zup_n, zup_up, zal_i, zal_b, zal_z, zas_i, zas_b, zas_z, zan_eq, Option.toList_some, Option.toList_none, List.cons_append, List.nil_append, if_true, if_false, ite_true, ite_false, true_or, or_true, zc0, E]
          simp (disch := omega) only [e143_0, e143_1, e143_2, e143_5, e143_8, e143_9, e143_12, e143_15, e143_16, e143_17, e143_18, e143_19, e143_22, e143_25, e143_27, e143_28, e143_29, e143_30, e143_31, e143_34, e143_35, e143_36, e143_37, e143_40, e143_41, e143_42, e143_43, e143_46, e143_49, e143_51, e143_52, e143_55, e143_57, e143_60, e143_61, e143_64, e143_65, e143_66, e143_67, e143_70, e143_71, e143_74, e143_75, e143_76, e143_78, e143_79, g4, ↓reduceIte, e1, gg3, zg10_0, zp10_0, zg10_1, zp10_1, zg10_2, zp10_2, zg10_3, zp10_3, zg10_4, zp10_4, zg10_5, zp10_5, zg10_6, zp10_6, zg10_7, zp10_7, zg10_8, zp10_8, zg10_9, zp10_9, zg10_10, zp10_10, zg10_11, zp10_11, zg10_12, zp10_12, zg10_13, zp10_13, zg10_14, zp10_14, zg10_15, zp10_15, zg10_16, zp10_16, zg10_17, zp10_17, zg10_18, zp10_18, zg10_19, zp10_19, zg10_20, zp10_20, zg10_21, zp10_21, zg10_22, zp10_22, zg10_23, zp10_23, zg10_24, zp10_24, zg10_25, zp10_25, zg10_26, zp10_26, zg10_27, zp10_27, zg10_28, zp10_28, zg10_29, zp10_29, zg10_30, zp10_30, zg10_31, zp10_31, zg10_32, zp10_32, zrc_eq, zup_s, zup_n, zup_up, zal_i, zal_b, zal_z, zas_i, zas_b, zas_z, zan_eq, Option.toList_some, Option.toList_none, List.cons_append, List.nil_append, if_true, if_false, ite_true, ite_false, true_or, or_true, zc3, r3]
          exact K h' kk
      · rw [if_neg g3]
        rw [if_neg (fun z => g3 z.2.2)] at K
        exact K h rf
    · rw [if_neg g2]
      rw [if_neg (fun z => g2 z.2.1)] at K
      exact K h rf
  · rw [if_neg g1]
    rw [if_neg (fun z => g1 z.1)] at K
    exact K h rf
set_option maxHeartbeats 2000000 in
theorem c85_loop {u : Nat} (hs : pSh h ld S) (ok : sK S) (ht : pTm h u T) : ∀ m i, m + i = S.1.1 → zE X 85 4 [some (.ref u), some (.ref ld), some (.int (nI (zO S T 0 0 1 i).1)), some (.int (nI i))] [] (N, 0, 0) h Q = Q (some (.int (nI (oN S T)))) N h := by
  have hsa : ∃ v1 v2 v4 v5 v6 v7 v8 v9 v10 v11 v12 v13 v14 v15, h ld = .inr (5, [.int (nI S.1.1), v1, v2, .ref (ld + 3), v4, v5, v6, v7, v8, v9, v10, v11, v12, v13, v14, v15]) ∧ h (ld + 3) = .inl (.int, 24, S.1.2.2.2) ∧ S.1.1 ≤ 24 := by
    clear ok
    obtain ⟨⟨np, wo, sa, au⟩, ⟨nj, le, fo, ro⟩, ⟨pa, pb, pc⟩, ⟨co, hx, hy⟩, hf, pt⟩ := S
    exact ⟨_, _, _, _, _, _, _, _, _, _, _, _, _, _, hs.1, hs.2.2.2.1, hs.2.2.2.2.2.2.2.2.1⟩
  obtain ⟨v1, v2, v4, v5, v6, v7, v8, v9, v10, v11, v12, v13, v14, v15, h1, h2, b1⟩ := hsa
  obtain ⟨fs, ht1⟩ := ht.obj
  intro m
  induction m with
  | zero =>
    intro i hi
    obtain rfl : i = S.1.1 := by omega
    rw [e85_4]
    simp (disch := omega) only [e85_0, e85_1, e85_2, e85_3, e85_5, e85_6, e85_9, e85_12, e85_13, e85_14, e85_17, e85_18, e85_19, e85_22, e85_25, e85_28, e85_31, e85_34, e85_35, h1, zg5_0, zp5_0, zg5_1, zp5_1, zg5_2, zp5_2, zg5_3, zp5_3, zg5_4, zp5_4, zg5_5, zp5_5, zg5_6, zp5_6, zg5_7, zp5_7, zg5_8, zp5_8, zg5_9, zp5_9, zg5_10, zp5_10, zg5_11, zp5_11, zg5_12, zp5_12, zg5_13, zp5_13, zg5_14, zp5_14, zg5_15, zp5_15, zrc_eq, zup_s, zup_n, zup_up, zal_i, zal_b, zal_z, zas_i, zas_b, zas_z, zan_eq, Option.toList_some, Option.toList_none, List.cons_append, List.nil_append, if_true, if_false, ite_true, ite_false, true_or, or_true, znI_le, if_pos]
  | succ m ih =>
    intro i hi
    have ih' := ih (i + 1) (by omega)
    rw [zO] at ih'
    obtain ⟨ea, ha⟩ := ok.au (i := i) (by omega)
    rw [e85_4]
    simp (disch := omega) only [e85_0, e85_1, e85_2, e85_3, e85_5, e85_6, e85_9, e85_12, e85_13, e85_14, e85_17, e85_18, e85_22, e85_25, e85_28, e85_31, e85_34, e85_35, h1, h2, zg5_0, zp5_0, zg5_1, zp5_1, zg5_2, zp5_2, zg5_3, zp5_3, zg5_4, zp5_4, zg5_5, zp5_5, zg5_6, zp5_6, zg5_7, zp5_7, zg5_8, zp5_8, zg5_9, zp5_9, zg5_10, zp5_10, zg5_11, zp5_11, zg5_12, zp5_12, zg5_13, zp5_13, zg5_14, zp5_14, zg5_15, zp5_15, zrc_eq, zup_s, zup_n, zup_up, zal_i, zal_b, zal_z, zas_i, zas_b, zas_z, zan_eq, Option.toList_some, Option.toList_none, List.cons_append, List.nil_append, if_true, if_false, ite_true, ite_false, true_or, or_true, znI_le, if_neg]
    rw [ea]
    by_cases g : T.2.2.1 (sA S i) = 0
    · rw [if_pos g] at ih'
      simp (disch := omega) only [e85_0, e85_1, e85_2, e85_3, e85_5, e85_6, e85_9, e85_12, e85_13, e85_14, e85_17, e85_18, e85_19, e85_22, e85_25, e85_28, e85_31, e85_34, e85_35, ht1, zrc_eq, zup_s, zup_n, zup_up, zal_i, zal_b, zal_z, zas_i, zas_b, zas_z, zan_eq, Option.toList_some, Option.toList_none, List.cons_append, List.nil_append, if_true, if_false, ite_true, ite_false, true_or, or_true, c43 ht, g, ↓reduceIte, z10, nI_1]
      exact ih'
    · rw [if_neg g] at ih'
      simp (disch := omega) only [e85_0, e85_1, e85_2, e85_3, e85_5, e85_6, e85_9, e85_12, e85_13, e85_14, e85_17, e85_18, e85_19, e85_22, e85_25, e85_28, e85_31, e85_34, e85_35, ht1, zrc_eq, zup_s, zup_n, zup_up, zal_i, zal_b, zal_z, zas_i, zas_b, zas_z, zan_eq, Option.toList_some, Option.toList_none, List.cons_append, List.nil_append, if_true, if_false, ite_true, ite_false, true_or, or_true, c43 ht, g, ↓reduceIte, z00, nI_1]
      exact ih'
set_option maxHeartbeats 2000000 in
theorem c85 {u : Nat} (hs : pSh h ld S) (ok : sK S) (ht : pTm h u T) : zE X 85 0 [some (.ref u), some (.ref ld), none, none] [] (N, 0, 0) h Q = Q (some (.int (nI (oN S T)))) N h := by
  simp (disch := omega) only [e85_0, e85_1, e85_2, e85_3, e85_5, e85_6, e85_9, e85_12, e85_13, e85_14, e85_17, e85_18, e85_19, e85_22, e85_25, e85_28, e85_31, e85_34, e85_35, zc0]
  exact c85_loop hs ok ht S.1.1 0 (by omega)
/-- the least of k and more that brings c in, m to try -/
def eS (co c : Nat) : Nat → Nat → Int32
  | 0, _ => -4
  | m + 1, k => if c ≤ k * co then nI k else eS co c m (k + 1)
def aEven (S : zSh) (T : zTm) (p : Int32) : Int32 := if isPan S.2.1.1 p then eS S.2.2.2.1.1 (cst S (oN S T) (jCnt p S.2.1.1) 0) (oN S T + 1) 0 else -1
set_option maxHeartbeats 2000000 in
theorem cst_le {a b c : Nat} (ok : sK S) (ha : a ≤ 24) (hb : b ≤ 6) : cst S a b c ≤ 16632 := by
  obtain ⟨-, -, -, ⟨k1, k2, k3, k4⟩, -⟩ := ok
  unfold cst
  have h1 : S.2.2.2.1.2.1 * a ≤ 99 * 24 := Nat.mul_le_mul k3 ha
  have h2 : S.2.2.2.1.2.2 * b ≤ 99 * 6 := Nat.mul_le_mul k4 hb
  have h3 : S.2.2.2.1.2.2 * b * (a - c) ≤ 99 * 6 * 24 := Nat.mul_le_mul h2 (by omega)
  omega
set_option maxHeartbeats 2000000 in
theorem c84_loop {n c : Nat} (h0 : h 0 = pObj ld dd kp) (hs : pSh h ld S) (hco : S.2.2.2.1.1 ≤ 999) (hc : c ≤ 16632) (hn : n ≤ 24) : ∀ m k, m + k = n + 1 → zE X 84 39 [some (.ref 0), some (.int p), some (.int (nI n)), some (.int (nI c)), some (.int (nI k))] [] (N, 0, 0) h Q = Q (some (.int (eS S.2.2.2.1.1 c m k))) N h := by
  unfold pObj at h0
  obtain ⟨v0, v1, v2, v3, v4, v5, v6, v7, v8, v9, v10, v12, v13, v14, v15, hl⟩ := hs.co
  intro m
  induction m with
  | zero =>
    intro k hk
    rw [e84_39]
    simp (disch := omega) only [e84_0, e84_1, e84_2, e84_5, e84_8, e84_9, e84_10, e84_11, e84_14, e84_15, e84_18, e84_21, e84_22, e84_23, e84_26, e84_27, e84_28, e84_29, e84_32, e84_35, e84_36, e84_37, e84_41, e84_42, e84_45, e84_47, e84_48, e84_51, e84_54, e84_55, e84_56, e84_59, e84_61, e84_62, e84_65, e84_68, e84_70, znI_lt, if_pos, eS]
  | succ m ih =>
    intro k hk
    have hb : k * S.2.2.2.1.1 ≤ 24 * 999 := Nat.mul_le_mul (by omega) hco
    have ih' := ih (k + 1) (by omega)
    rw [eS, e84_39]
    by_cases g : c ≤ k * S.2.2.2.1.1
    · rw [if_pos g]
      simp (disch := omega) only [e84_0, e84_1, e84_2, e84_5, e84_8, e84_9, e84_10, e84_11, e84_14, e84_15, e84_18, e84_21, e84_22, e84_23, e84_26, e84_27, e84_28, e84_29, e84_32, e84_35, e84_36, e84_37, e84_41, e84_42, e84_45, e84_47, e84_48, e84_51, e84_54, e84_55, e84_56, e84_59, e84_61, e84_62, e84_65, e84_68, e84_70, h0, hl, zg9_0, zp9_0, zg9_1, zp9_1, zg9_2, zp9_2, zg9_3, zp9_3, zg9_4, zp9_4, zg9_5, zp9_5, zg9_6, zp9_6, zg9_7, zp9_7, zg9_8, zp9_8, zg9_9, zp9_9, zg9_10, zp9_10, zg9_11, zp9_11, zg9_12, zp9_12, zg9_13, zp9_13, zg9_14, zp9_14, zg9_15, zp9_15, zg9_16, zp9_16, zg5_0, zp5_0, zg5_1, zp5_1, zg5_2, zp5_2, zg5_3, zp5_3, zg5_4, zp5_4, zg5_5, zp5_5, zg5_6, zp5_6, zg5_7, zp5_7, zg5_8, zp5_8, zg5_9, zp5_9, zg5_10, zp5_10, zg5_11, zp5_11, zg5_12, zp5_12, zg5_13, zp5_13, zg5_14, zp5_14, zg5_15, zp5_15, zrc_eq, zup_s, zup_n, zup_up, zal_i, zal_b, zal_z, zas_i, zas_b, zas_z, zan_eq, Option.toList_some, Option.toList_none, List.cons_append, List.nil_append, if_true, if_false, ite_true, ite_false, true_or, or_true, znI_lt, if_neg, pk_mul]
    · rw [if_neg g]
      simp (disch := omega) only [e84_0, e84_1, e84_2, e84_5, e84_8, e84_9, e84_10, e84_11, e84_14, e84_15, e84_18, e84_21, e84_22, e84_23, e84_26, e84_27, e84_28, e84_29, e84_32, e84_35, e84_36, e84_37, e84_41, e84_42, e84_45, e84_47, e84_48, e84_51, e84_54, e84_55, e84_56, e84_59, e84_61, e84_62, e84_65, e84_68, e84_70, h0, hl, zg9_0, zp9_0, zg9_1, zp9_1, zg9_2, zp9_2, zg9_3, zp9_3, zg9_4, zp9_4, zg9_5, zp9_5, zg9_6, zp9_6, zg9_7, zp9_7, zg9_8, zp9_8, zg9_9, zp9_9, zg9_10, zp9_10, zg9_11, zp9_11, zg9_12, zp9_12, zg9_13, zp9_13, zg9_14, zp9_14, zg9_15, zp9_15, zg9_16, zp9_16, zg5_0, zp5_0, zg5_1, zp5_1, zg5_2, zp5_2, zg5_3, zp5_3, zg5_4, zp5_4, zg5_5, zp5_5, zg5_6, zp5_6, zg5_7, zp5_7, zg5_8, zp5_8, zg5_9, zp5_9, zg5_10, zp5_10, zg5_11, zp5_11, zg5_12, zp5_12, zg5_13, zp5_13, zg5_14, zp5_14, zg5_15, zp5_15, zrc_eq, zup_s, zup_n, zup_up, zal_i, zal_b, zal_z, zas_i, zas_b, zas_z, zan_eq, Option.toList_some, Option.toList_none, List.cons_append, List.nil_append, if_true, if_false, ite_true, ite_false, true_or, or_true, znI_lt, if_neg, if_pos, pk_mul, nI_1]
      exact ih'
set_option maxHeartbeats 2000000 in
theorem c84 (hc : zCR h ld dd kp S T) : zE X 84 0 [some (.ref 0), some (.int p), none, none, none] [] (N, 0, 0) h Q = Q (some (.int (aEven S T p))) N h := by
  obtain ⟨h0, hd, hs, ok, ht, cs⟩ := hc
  have h0' := h0
  have on24 : oN S T ≤ 24 := by have := (oOkN (S := S) (T := T) (p := 0) (d := 0)).1; have := ok.1.1; omega
  unfold pObj at h0
  obtain ⟨fs, ht1⟩ := ht.obj
  obtain ⟨v0, v1, v2, v3, v4, v5, v6, v7, v8, v9, v10, v12, v13, v14, v15, hl⟩ := hs.co
  unfold aEven
  by_cases g1 : isPan S.2.1.1 p
  · rw [if_pos g1]
    have bc := g1.bc ok.2.1.1
    have E := fun Q' => c78 (X := X) (N := N) (Q := Q') (a := oN S T) (b := jCnt p S.2.1.1) (c := 0) hs (Nat.zero_le _)
    rw [nI_0] at E
    have g1' := eq_true g1
    simp (disch := omega) only [e84_0, e84_1, e84_2, e84_5, e84_8, e84_9, e84_10, e84_11, e84_14, e84_15, e84_18, e84_21, e84_22, e84_23, e84_26, e84_27, e84_28, e84_29, e84_32, e84_35, e84_36, e84_37, e84_41, e84_42, e84_45, e84_47, e84_48, e84_51, e84_54, e84_55, e84_56, e84_59, e84_61, e84_62, e84_65, e84_68, e84_70, h0, hl, zg9_0, zp9_0, zg9_1, zp9_1, zg9_2, zp9_2, zg9_3, zp9_3, zg9_4, zp9_4, zg9_5, zp9_5, zg9_6, zp9_6, zg9_7, zp9_7, zg9_8, zp9_8, zg9_9, zp9_9, zg9_10, zp9_10, zg9_11, zp9_11, zg9_12, zp9_12, zg9_13, zp9_13, zg9_14, zp9_14, zg9_15, zp9_15, zg9_16, zp9_16, zrc_eq, zup_s, zup_n, zup_up, zal_i, zal_b, zal_z, zas_i, zas_b, zas_z, zan_eq, Option.toList_some, Option.toList_none, List.cons_append, List.nil_append, if_true, if_false, ite_true, ite_false, true_or, or_true, c41 h0' hs, g1', ↓reduceIte, z10, ht1, c85 hs ok ht, c77, bc, E]
    exact c84_loop h0' hs ok.2.2.2.1.2.1 (cst_le ok on24 (by have := jCnt_le p S.2.1.1; have := ok.2.1.1; omega)) on24 (oN S T + 1) 0 (by omega)
  · rw [if_neg g1]
    simp (disch := omega) only [e84_0, e84_1, e84_2, e84_5, e84_8, e84_9, e84_10, e84_11, e84_14, e84_15, e84_18, e84_21, e84_22, e84_23, e84_26, e84_27, e84_28, e84_29, e84_32, e84_35, e84_36, e84_37, e84_41, e84_42, e84_45, e84_47, e84_48, e84_51, e84_54, e84_55, e84_56, e84_59, e84_61, e84_62, e84_65, e84_68, e84_70, h0, zg9_0, zp9_0, zg9_1, zp9_1, zg9_2, zp9_2, zg9_3, zp9_3, zg9_4, zp9_4, zg9_5, zp9_5, zg9_6, zp9_6, zg9_7, zp9_7, zg9_8, zp9_8, zg9_9, zp9_9, zg9_10, zp9_10, zg9_11, zp9_11, zg9_12, zp9_12, zg9_13, zp9_13, zg9_14, zp9_14, zg9_15, zp9_15, zg9_16, zp9_16, zrc_eq, zup_s, zup_n, zup_up, zal_i, zal_b, zal_z, zas_i, zas_b, zas_z, zan_eq, Option.toList_some, Option.toList_none, List.cons_append, List.nil_append, if_true, if_false, ite_true, ite_false, true_or, or_true, c41 h0' hs, g1, ↓reduceIte, z00]
set_option maxHeartbeats 2000000 in
theorem c147_loop {n : Nat} {f : Nat → Nat} (h1 : h 53 = mObj len at_ rp rj (nI S.1.1) (nI S.2.1.1) kp su lo dr ab be) (hs : pMs h 59 60 61 S) (hn : pMn h 0 n f) (hco : S.2.2.2.1.1 ≤ 999) (hc : cst S n (jCnt p S.2.1.1) 0 ≤ 16632) : ∀ m k, m + k = n + 1 → zE X 147 18 [some (.ref 53), some (.int p), some (.int (nI k))] [] (N, 0, 0) h Q = Q (some (.int (eS S.2.2.2.1.1 (cst S n (jCnt p S.2.1.1) 0) m k))) N h := by
  have E := fun Q' => c144 (X := X) (N := N) (Q := Q') (p := p) (a := n) (c := 0) h1 hs (Nat.zero_le _)
  obtain ⟨m1, m2, rpl, rju, rre, gg1, gg2, gg3, w1, w2, r0, r1, r2, r3, r4, r5, r6⟩ := hs.rows
  obtain ⟨mn, od, rk, mk, n1, n2, n3, n4, n5, n6, n7, n8, n9⟩ := hn
  unfold mObj at h1
  intro m
  induction m with
  | zero =>
    intro k hk
    rw [e147_18]
    simp (disch := omega) only [e147_0, e147_1, e147_2, e147_5, e147_8, e147_9, e147_10, e147_11, e147_12, e147_13, e147_16, e147_17, e147_19, e147_20, e147_23, e147_24, e147_25, e147_28, e147_29, e147_30, e147_33, e147_34, e147_35, e147_36, e147_37, e147_38, e147_39, e147_42, e147_43, e147_44, e147_45, e147_48, e147_51, e147_52, e147_53, e147_56, e147_59, e147_61, h1, n1, n6, zg10_0, zp10_0, zg10_1, zp10_1, zg10_2, zp10_2, zg10_3, zp10_3, zg10_4, zp10_4, zg10_5, zp10_5, zg10_6, zp10_6, zg10_7, zp10_7, zg10_8, zp10_8, zg10_9, zp10_9, zg10_10, zp10_10, zg10_11, zp10_11, zg10_12, zp10_12, zg10_13, zp10_13, zg10_14, zp10_14, zg10_15, zp10_15, zg10_16, zp10_16, zg10_17, zp10_17, zg10_18, zp10_18, zg10_19, zp10_19, zg10_20, zp10_20, zg10_21, zp10_21, zg10_22, zp10_22, zg10_23, zp10_23, zg10_24, zp10_24, zg10_25, zp10_25, zg10_26, zp10_26, zg10_27, zp10_27, zg10_28, zp10_28, zg10_29, zp10_29, zg10_30, zp10_30, zg10_31, zp10_31, zg10_32, zp10_32, zrc_eq, zup_s, zup_n, zup_up, zal_i, zal_b, zal_z, zas_i, zas_b, zas_z, zan_eq, Option.toList_some, Option.toList_none, List.cons_append, List.nil_append, if_true, if_false, ite_true, ite_false, true_or, or_true, zc0, znI_lt, if_pos, eS]
  | succ m ih =>
    intro k hk
    have hb : k * S.2.2.2.1.1 ≤ 24 * 999 := Nat.mul_le_mul (by omega) hco
    have ih' := ih (k + 1) (by omega)
    rw [eS, e147_18]
    by_cases g : cst S n (jCnt p S.2.1.1) 0 ≤ k * S.2.2.2.1.1
    · rw [if_pos g]
      simp (disch := omega) only [e147_0, e147_1, e147_2, e147_5, e147_8, e147_9, e147_10, e147_11, e147_12, e147_13, e147_16, e147_17, e147_19, e147_20, e147_23, e147_24, e147_25, e147_28, e147_29, e147_30, e147_33, e147_34, e147_35, e147_36, e147_37, e147_38, e147_39, e147_42, e147_43, e147_44, e147_45, e147_48, e147_51, e147_52, e147_53, e147_56, e147_59, e147_61, h1, n1, n6, gg3, r3, zg10_0, zp10_0, zg10_1, zp10_1, zg10_2, zp10_2, zg10_3, zp10_3, zg10_4, zp10_4, zg10_5, zp10_5, zg10_6, zp10_6, zg10_7, zp10_7, zg10_8, zp10_8, zg10_9, zp10_9, zg10_10, zp10_10, zg10_11, zp10_11, zg10_12, zp10_12, zg10_13, zp10_13, zg10_14, zp10_14, zg10_15, zp10_15, zg10_16, zp10_16, zg10_17, zp10_17, zg10_18, zp10_18, zg10_19, zp10_19, zg10_20, zp10_20, zg10_21, zp10_21, zg10_22, zp10_22, zg10_23, zp10_23, zg10_24, zp10_24, zg10_25, zp10_25, zg10_26, zp10_26, zg10_27, zp10_27, zg10_28, zp10_28, zg10_29, zp10_29, zg10_30, zp10_30, zg10_31, zp10_31, zg10_32, zp10_32, zrc_eq, zup_s, zup_n, zup_up, zal_i, zal_b, zal_z, zas_i, zas_b, zas_z, zan_eq, Option.toList_some, Option.toList_none, List.cons_append, List.nil_append, if_true, if_false, ite_true, ite_false, true_or, or_true, zc0, zc3, znI_lt, if_neg, pk_mul, E]
    · rw [if_neg g]
      simp (disch := omega) only [e147_0, e147_1, e147_2, e147_5, e147_8, e147_9, e147_10, e147_11, e147_12, e147_13, e147_16, e147_17, e147_19, e147_20, e147_23, e147_24, e147_25, e147_28, e147_29, e147_30, e147_33, e147_34, e147_35, e147_36, e147_37, e147_38, e147_39, e147_42, e147_43, e147_44, e147_45, e147_48, e147_51, e147_52, e147_53, e147_56, e147_59, e147_61, h1, n1, n6, gg3, r3, zg10_0, zp10_0, zg10_1, zp10_1, zg10_2, zp10_2, zg10_3, zp10_3, zg10_4, zp10_4, zg10_5, zp10_5, zg10_6, zp10_6, zg10_7, zp10_7, zg10_8, zp10_8, zg10_9, zp10_9, zg10_10, zp10_10, zg10_11, zp10_11, zg10_12, zp10_12, zg10_13, zp10_13, zg10_14, zp10_14, zg10_15, zp10_15, zg10_16, zp10_16, zg10_17, zp10_17, zg10_18, zp10_18, zg10_19, zp10_19, zg10_20, zp10_20, zg10_21, zp10_21, zg10_22, zp10_22, zg10_23, zp10_23, zg10_24, zp10_24, zg10_25, zp10_25, zg10_26, zp10_26, zg10_27, zp10_27, zg10_28, zp10_28, zg10_29, zp10_29, zg10_30, zp10_30, zg10_31, zp10_31, zg10_32, zp10_32, zrc_eq, zup_s, zup_n, zup_up, zal_i, zal_b, zal_z, zas_i, zas_b, zas_z, zan_eq, Option.toList_some, Option.toList_none, List.cons_append, List.nil_append, if_true, if_false, ite_true, ite_false, true_or, or_true, zc0, zc3, znI_lt, if_neg, if_pos, pk_mul, E, nI_1]
      exact ih'
set_option maxHeartbeats 2000000 in
theorem c147 (hm : zMR h S D F len at_ rp rj kp su lo dr ab be) (K : ∀ h', zMk' h h' S len at_ rp rj kp → Q (some (.int (aEven S (F 0) p))) N h') : zE X 147 0 [some (.ref 53), some (.int p), none] [] (N, 0, 0) h Q := by
  have hm' := hm
  obtain ⟨h1, hs, ok, hT, hD, ms⟩ := hm
  have h1' := h1
  have rf : zMk' h h S len at_ rp rj kp := ⟨⟨_, _, _, _, _, h1⟩, ms, zfr.rf⟩
  have on24 : oN S (F 0) ≤ 24 := by have := (oOkN (S := S) (T := F 0) (p := 0) (d := 0)).1; have := ok.1.1; omega
  unfold mObj at h1
  unfold aEven at K
  by_cases g1 : isPan S.2.1.1 p
  · rw [if_pos g1] at K
    have g1' := eq_true g1
    simp (disch := omega) only [e147_0, e147_1, e147_2, e147_5, e147_8, e147_9, e147_10, e147_11, e147_12, e147_13, e147_16, e147_17, e147_19, e147_20, e147_23, e147_24, e147_25, e147_28, e147_29, e147_30, e147_33, e147_34, e147_35, e147_36, e147_37, e147_38, e147_39, e147_42, e147_43, e147_44, e147_45, e147_48, e147_51, e147_52, e147_53, e147_56, e147_59, e147_61, h1, zrc_eq, zup_s, zup_n, zup_up, zal_i, zal_b, zal_z, zas_i, zas_b, zas_z, zan_eq, Option.toList_some, Option.toList_none, List.cons_append, List.nil_append, if_true, if_false, ite_true, ite_false, true_or, or_true, c122 h1', g1', ↓reduceIte, z10]
    refine c123 hm' (fun h' a1 a2 a3 => ?_)
    have kk : zMk' h h' S len at_ rp rj kp := ⟨⟨_, _, _, _, _, a2.1⟩, a2.2.2.2.2.2, a3⟩
    simp (disch := omega) only [e147_0, e147_1, e147_2, e147_5, e147_8, e147_9, e147_10, e147_11, e147_12, e147_13, e147_16, e147_17, e147_19, e147_20, e147_23, e147_24, e147_25, e147_28, e147_29, e147_30, e147_33, e147_34, e147_35, e147_36, e147_37, e147_38, e147_39, e147_42, e147_43, e147_44, e147_45, e147_48, e147_51, e147_52, e147_53, e147_56, e147_59, e147_61, Option.toList_none, List.nil_append, zc0]
    rw [c147_loop a2.1 a2.2.1 a1 ok.2.2.2.1.2.1 (cst_le ok on24 (by have := jCnt_le p S.2.1.1; have := ok.2.1.1; omega)) (oN S (F 0) + 1) 0 (by omega)]
    exact K h' kk
  · rw [if_neg g1] at K
    simp (disch := omega) only [e147_0, e147_1, e147_2, e147_5, e147_8, e147_9, e147_10, e147_11, e147_12, e147_13, e147_16, e147_17, e147_19, e147_20, e147_23, e147_24, e147_25, e147_28, e147_29, e147_30, e147_33, e147_34, e147_35, e147_36, e147_37, e147_38, e147_39, e147_42, e147_43, e147_44, e147_45, e147_48, e147_51, e147_52, e147_53, e147_56, e147_59, e147_61, h1, zrc_eq, zup_s, zup_n, zup_up, zal_i, zal_b, zal_z, zas_i, zas_b, zas_z, zan_eq, Option.toList_some, Option.toList_none, List.cons_append, List.nil_append, if_true, if_false, ite_true, ite_false, true_or, or_true, c122 h1', g1, ↓reduceIte, z00]
    exact K h rf
end C43
