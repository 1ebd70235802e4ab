-- ranges of a sheet; tests of arguments
section C33
variable {X : Nat × (Nat → Int32)} {N : Nat} {h : zH} {Q : Option Value → Nat → zH → Prop} {S : zSh} {ld dd : Nat} {i p q d e : Int32}
def sK (S : zSh) : Prop := (S.1.1 ≤ 24 ∧ ∀ i, i < S.1.1 → ∃ a b c, a ≤ 999 ∧ b ≤ 99 ∧ c < 8 ∧ S.1.2.1 i = nI a ∧ S.1.2.2.1 i = nI b ∧ S.1.2.2.2 i = nI c) ∧ (S.2.1.1 ≤ 6 ∧ ∀ j, j < S.2.1.1 → ∃ a b c, a ≤ 9 ∧ b ≤ 9 ∧ c ≤ 99 ∧ S.2.1.2.1 j = nI a ∧ S.2.1.2.2.1 j = nI b ∧ S.2.1.2.2.2 j = nI c) ∧ (S.2.2.1.1 ≤ 24 ∧ S.2.2.1.2.1 ≤ 24 ∧ S.2.2.1.2.2 ≤ S.2.2.1.2.1) ∧ (1 ≤ S.2.2.2.1.1 ∧ S.2.2.2.1.1 ≤ 999 ∧ S.2.2.2.1.2.1 ≤ 99 ∧ S.2.2.2.1.2.2 ≤ 99) ∧ S.2.2.2.2.2 ≤ 9
theorem sTake_ok {l k a b c : Nat} {S S' : zSh} (h : sTake l k a b c S = some S') (hs : sK S) : sK S' := by
  obtain ⟨⟨np, wo, sa, au⟩, ⟨nj, le, fo, ro⟩, ⟨pa, pb, pc⟩, ⟨co, hx, hy⟩, hf, pt⟩ := S
  obtain ⟨⟨a1, a2⟩, ⟨b1, b2⟩, c1, d1, e1⟩ := hs
  unfold sTake sPlan sJudge sPurse sCoin sHours sHad sPat at h
  dsimp only at h a1 a2 b1 b2 c1 d1 e1
  repeat' split at h
  all_goals (try cases h)
  · next g => exact ⟨⟨by dsimp only; omega, fun i hi => by
      dsimp only at hi ⊢
      by_cases q : i = np
      · subst q; rw [upd_s, upd_s, upd_s]; exact ⟨a, b, c, g.2.1, g.2.2.1, g.2.2.2, rfl, rfl, rfl⟩
      · rw [upd_n q, upd_n q, upd_n q]; exact a2 i (by omega)⟩, ⟨b1, b2⟩, c1, d1, e1⟩
  · next g => exact ⟨⟨a1, a2⟩, ⟨by dsimp only; omega, fun i hi => by
      dsimp only at hi ⊢
      by_cases q : i = nj
      · subst q; rw [upd_s, upd_s, upd_s]; exact ⟨a, b, c, g.2.1, g.2.2.1, g.2.2.2, rfl, rfl, rfl⟩
      · rw [upd_n q, upd_n q, upd_n q]; exact b2 i (by omega)⟩, c1, d1, e1⟩
  · next g => exact ⟨⟨a1, a2⟩, ⟨b1, b2⟩, g, d1, e1⟩
  · next g => exact ⟨⟨a1, a2⟩, ⟨b1, b2⟩, c1, ⟨g.1, g.2, d1.2.2⟩, e1⟩
  · next g => exact ⟨⟨a1, a2⟩, ⟨b1, b2⟩, c1, ⟨d1.1, d1.2.1, g⟩, e1⟩
  · next g => exact ⟨⟨a1, a2⟩, ⟨b1, b2⟩, c1, d1, e1⟩
  · next g => exact ⟨⟨a1, a2⟩, ⟨b1, b2⟩, c1, d1, g⟩
theorem sClr_ok {S : zSh} : sK (sClr S) := by
  obtain ⟨⟨np, wo, sa, au⟩, ⟨nj, le, fo, ro⟩, ⟨pa, pb, pc⟩, ⟨co, hx, hy⟩, hf, pt⟩ := S
  exact ⟨⟨Nat.zero_le _, fun i hi => absurd hi (Nat.not_lt_zero i)⟩, ⟨Nat.zero_le _, fun i hi => absurd hi (Nat.not_lt_zero i)⟩, ⟨Nat.zero_le _, Nat.zero_le _, Nat.le_refl 0⟩, ⟨Nat.le_of_ble_eq_true rfl, Nat.le_of_ble_eq_true rfl, Nat.zero_le _, Nat.zero_le _⟩, Nat.zero_le _⟩
theorem sAll_ok {B : Nat → Nat} {len : Nat} : ∀ (f p : Nat) (S : zSh), sK S → sK (sAll B len f p S).2
  | 0, p, S, h => h
  | f + 1, p, S, h => by
    rw [sAll_mIt]
    split
    · unfold mIt
      rcases sItem B 3 (p + 1) [] with _ | ⟨nx, vs⟩
      · exact h
      · dsimp only
        rcases ht : sTakeL (B p) vs S with _ | S'
        · exact h
        · exact sAll_ok f nx S' (sTake_ok ht h)
    · exact h
/-- a number of something of which there are n; a panel; a draw -/
abbrev isNo (n : Nat) (i : Int32) : Prop := 0 ≤ i ∧ i < nI n
abbrev isPan (nj : Nat) (p : Int32) : Prop := 0 < p ∧ p < 1 <<< (nI nj &&& 31)
abbrev isDr (d : Int32) : Prop := 0 ≤ d ∧ d < 100
abbrev isTwo (nj : Nat) (p d q e : Int32) : Prop := (p = 0 ∨ isPan nj p) ∧ isDr d ∧ (q = 0 ∨ isPan nj q) ∧ isDr e
theorem pSh.obj {h : zH} {t : Nat} {S : zSh} (hs : pSh h t S) : ∃ v1 v2 v3 v5 v6 v7 v8 v9 v10 v11 v12 v13 v14 v15, h t = .inr (5, [.int (nI S.1.1), v1, v2, v3, .int (nI S.2.1.1), v5, v6, v7, v8, v9, v10, v11, v12, v13, v14, v15]) ∧ S.1.1 ≤ 24 ∧ S.2.1.1 ≤ 6 := by
  obtain ⟨⟨np, wo, sa, au⟩, ⟨nj, le, fo, ro⟩, ⟨pa, pb, pc⟩, ⟨co, hx, hy⟩, hf, pt⟩ := S
  exact ⟨_, _, _, _, _, _, _, _, _, _, _, _, _, _, hs.1, hs.2.2.2.2.2.2.2.2.1, hs.2.2.2.2.2.2.2.2.2⟩
theorem c35 {kp : Int32} (h0 : h 0 = pObj ld dd kp) (hs : pSh h ld S) : zE X 35 0 [some (.ref 0), some (.int i)] [] (N, 0, 0) h Q = if isNo S.1.1 i then Q (some (.int 1)) N h else Q (some (.int 0)) N h := by
  unfold pObj at h0
  obtain ⟨v1, v2, v3, v5, v6, v7, v8, v9, v10, v11, v12, v13, v14, v15, h1, -⟩ := hs.obj
  simp only [e35_0, e35_1, e35_4, e35_5, e35_6, e35_9, e35_12, e35_15, e35_16, e35_19, e35_20, h0, h1, zg9_0, zp9_0, zg9_1, zp9_1, zg9_2, zp9_2, zg9_3, zp9_3, zg9_4, zp9_4, zg9_5, zp9_5, zg9_6, zp9_6, zg9_7, zp9_7, zg9_8, zp9_8, zg9_9, zp9_9, zg9_10, zp9_10, zg9_11, zp9_11, zg9_12, zp9_12, zg9_13, zp9_13, zg9_14, zp9_14, zg9_15, zp9_15, zg9_16, zp9_16, zg5_0, zp5_0, zg5_1, zp5_1, zg5_2, zp5_2, zg5_3, zp5_3, zg5_4, zp5_4, zg5_5, zp5_5, zg5_6, zp5_6, zg5_7, zp5_7, zg5_8, zp5_8, zg5_9, zp5_9, zg5_10, zp5_10, zg5_11, zp5_11, zg5_12, zp5_12, zg5_13, zp5_13, zg5_14, zp5_14, zg5_15, zp5_15, zrc_eq, zup_s, zup_n, zup_up, zal_i, zal_b, zal_z, zas_i, zas_b, zas_z, zan_eq, Option.toList_some, Option.toList_none, List.cons_append, List.nil_append, if_true, if_false, ite_true, ite_false, true_or, or_true, zite_and, zlt_le, ite_not]
theorem c36 {kp : Int32} (h0 : h 0 = pObj ld dd kp) (hs : pSh h ld S) : zE X 36 0 [some (.ref 0), some (.int i)] [] (N, 0, 0) h Q = if isNo S.2.1.1 i then Q (some (.int 1)) N h else Q (some (.int 0)) N h := by
  unfold pObj at h0
  obtain ⟨v1, v2, v3, v5, v6, v7, v8, v9, v10, v11, v12, v13, v14, v15, h1, -⟩ := hs.obj
  simp only [e36_0, e36_1, e36_4, e36_5, e36_6, e36_9, e36_12, e36_15, e36_16, e36_19, e36_20, h0, h1, zg9_0, zp9_0, zg9_1, zp9_1, zg9_2, zp9_2, zg9_3, zp9_3, zg9_4, zp9_4, zg9_5, zp9_5, zg9_6, zp9_6, zg9_7, zp9_7, zg9_8, zp9_8, zg9_9, zp9_9, zg9_10, zp9_10, zg9_11, zp9_11, zg9_12, zp9_12, zg9_13, zp9_13, zg9_14, zp9_14, zg9_15, zp9_15, zg9_16, zp9_16, zg5_0, zp5_0, zg5_1, zp5_1, zg5_2, zp5_2, zg5_3, zp5_3, zg5_4, zp5_4, zg5_5, zp5_5, zg5_6, zp5_6, zg5_7, zp5_7, zg5_8, zp5_8, zg5_9, zp5_9, zg5_10, zp5_10, zg5_11, zp5_11, zg5_12, zp5_12, zg5_13, zp5_13, zg5_14, zp5_14, zg5_15, zp5_15, zrc_eq, zup_s, zup_n, zup_up, zal_i, zal_b, zal_z, zas_i, zas_b, zas_z, zan_eq, Option.toList_some, Option.toList_none, List.cons_append, List.nil_append, if_true, if_false, ite_true, ite_false, true_or, or_true, zite_and, zlt_le, ite_not]
theorem c41 {kp : Int32} (h0 : h 0 = pObj ld dd kp) (hs : pSh h ld S) : zE X 41 0 [some (.ref 0), some (.int p)] [] (N, 0, 0) h Q = if isPan S.2.1.1 p then Q (some (.int 1)) N h else Q (some (.int 0)) N h := by
  unfold pObj at h0
  obtain ⟨v1, v2, v3, v5, v6, v7, v8, v9, v10, v11, v12, v13, v14, v15, h1, -⟩ := hs.obj
  simp only [e41_0, e41_1, e41_4, e41_5, e41_6, e41_7, e41_10, e41_13, e41_14, e41_17, e41_18, e41_21, e41_22, h0, h1, zg9_0, zp9_0, zg9_1, zp9_1, zg9_2, zp9_2, zg9_3, zp9_3, zg9_4, zp9_4, zg9_5, zp9_5, zg9_6, zp9_6, zg9_7, zp9_7, zg9_8, zp9_8, zg9_9, zp9_9, zg9_10, zp9_10, zg9_11, zp9_11, zg9_12, zp9_12, zg9_13, zp9_13, zg9_14, zp9_14, zg9_15, zp9_15, zg9_16, zp9_16, zg5_0, zp5_0, zg5_1, zp5_1, zg5_2, zp5_2, zg5_3, zp5_3, zg5_4, zp5_4, zg5_5, zp5_5, zg5_6, zp5_6, zg5_7, zp5_7, zg5_8, zp5_8, zg5_9, zp5_9, zg5_10, zp5_10, zg5_11, zp5_11, zg5_12, zp5_12, zg5_13, zp5_13, zg5_14, zp5_14, zg5_15, zp5_15, zrc_eq, zup_s, zup_n, zup_up, zal_i, zal_b, zal_z, zas_i, zas_b, zas_z, zan_eq, Option.toList_some, Option.toList_none, List.cons_append, List.nil_append, if_true, if_false, ite_true, ite_false, true_or, or_true, zite_and, zlt_le, ite_not]
theorem zite_or {c d : Prop} [Decidable c] [Decidable d] {A B : Prop} : (if c ∨ d then A else B) = (if c then A else (if d then A else B)) := by
  by_cases h1 : c
  · rw [if_pos (Or.inl h1), if_pos h1]
  · by_cases h2 : d
    · rw [if_pos (Or.inr h2), if_neg h1, if_pos h2]
    · rw [if_neg (fun q => q.elim h1 h2), if_neg h1, if_neg h2]
theorem zite_ite {c : Prop} [Decidable c] {A B : Prop} {x y : Int32} {F : Int32 → Prop} : (if c then F x else F y) = F (if c then x else y) := by
  split <;> rfl
theorem zTwo {a b P R D E A B : Prop} [Decidable a] [Decidable b] [Decidable P] [Decidable R] [Decidable D] [Decidable E] : (if a then (if D then (if b then (if E then A else B) else if R then (if E then A else B) else B) else B) else if P then (if D then (if b then (if E then A else B) else if R then (if E then A else B) else B) else B) else B) = if (a ∨ P) ∧ D ∧ (b ∨ R) ∧ E then A else B := by
  by_cases h1 : a <;> by_cases h2 : b <;> by_cases h3 : P <;> by_cases h4 : R <;> by_cases h5 : D <;> by_cases h6 : E <;> simp [h1, h2, h3, h4, h5, h6]
theorem zTwo2 {a b P R D E A B : Prop} [Decidable a] [Decidable b] [Decidable P] [Decidable R] [Decidable D] [Decidable E] : (if a then (if b then (if D then (if E then A else B) else B) else if R then (if D then (if E then A else B) else B) else B) else if P then (if b then (if D then (if E then A else B) else B) else if R then (if D then (if E then A else B) else B) else B) else B) = if (a ∨ P) ∧ D ∧ (b ∨ R) ∧ E then A else B := by
  by_cases h1 : a <;> by_cases h2 : b <;> by_cases h3 : P <;> by_cases h4 : R <;> by_cases h5 : D <;> by_cases h6 : E <;> simp [h1, h2, h3, h4, h5, h6]
theorem c48 {kp : Int32} (h0 : h 0 = pObj ld dd kp) (hs : pSh h ld S) : zE X 48 0 [some (.ref 0), some (.int p), some (.int d), some (.int q), some (.int e)] [] (N, 0, 0) h Q = if isTwo S.2.1.1 p d q e then Q (some (.int 1)) N h else Q (some (.int 0)) N h := by
  have h0' := h0
  unfold pObj at h0
  simp only [e48_0, e48_1, e48_4, e48_5, e48_6, e48_9, e48_12, e48_13, e48_16, e48_19, e48_20, e48_23, e48_24, e48_25, e48_28, e48_31, e48_33, e48_36, e48_39, e48_40, e48_43, e48_44, h0, c41 h0' hs, c37, zrc_eq, zup_s, zup_n, zup_up, zal_i, zal_b, zal_z, zas_i, zas_b, zas_z, zan_eq, Option.toList_some, Option.toList_none, List.cons_append, List.nil_append, if_true, if_false, ite_true, ite_false, true_or, or_true, z10, z00]
  exact zTwo
variable {len at_ rp rj np_ nj_ kp su lo dr : Int32} {ab be : Int64}
theorem c122 {nj : Nat} (h1 : h 53 = mObj len at_ rp rj np_ (nI nj) kp su lo dr ab be) : zE X 122 0 [some (.ref 53), some (.int p)] [] (N, 0, 0) h Q = if isPan nj p then Q (some (.int 1)) N h else Q (some (.int 0)) N h := by
  unfold mObj at h1
  simp only [e122_0, e122_1, e122_4, e122_5, e122_6, e122_7, e122_10, e122_11, e122_14, e122_15, e122_18, e122_19, h1, zg10_0, zp10_0, zg10_1, zp10_1, zg10_2, zp10_2, zg10_3, zp10_3, zg10_4, zp10_4, zg10_5, zp10_5, zg10_6, zp10_6, zg10_7, zp10_7, zg10_8, zp10_8, zg10_9, zp10_9, zg10_10, zp10_10, zg10_11, zp10_11, zg10_12, zp10_12, zg10_13, zp10_13, zg10_14, zp10_14, zg10_15, zp10_15, zg10_16, zp10_16, zg10_17, zp10_17, zg10_18, zp10_18, zg10_19, zp10_19, zg10_20, zp10_20, zg10_21, zp10_21, zg10_22, zp10_22, zg10_23, zp10_23, zg10_24, zp10_24, zg10_25, zp10_25, zg10_26, zp10_26, zg10_27, zp10_27, zg10_28, zp10_28, zg10_29, zp10_29, zg10_30, zp10_30, zg10_31, zp10_31, zg10_32, zp10_32, zrc_eq, zup_s, zup_n, zup_up, zal_i, zal_b, zal_z, zas_i, zas_b, zas_z, zan_eq, Option.toList_some, Option.toList_none, List.cons_append, List.nil_append, if_true, if_false, ite_true, ite_false, true_or, or_true, zite_and, zlt_le, ite_not]
theorem zl64 : (0 : Int64) = (0 : Int32).toInt64 := by decide
theorem zl64_99 : (99 : Int64) = (99 : Int32).toInt64 := by decide
theorem zdr_eq {d : Int32} : (0 ≤ d ∧ d ≤ 99) = isDr d := by
  apply propext
  unfold isDr
  rw [Int32.le_iff_toInt_le, Int32.le_iff_toInt_le, Int32.lt_iff_toInt_lt, show (0 : Int32).toInt = 0 from by decide, show (99 : Int32).toInt = 99 from by decide, show (100 : Int32).toInt = 100 from by decide]
  omega
theorem c119 : zE X 119 0 [some (.int d)] [] (N, 0, 0) h Q = if isDr d then Q (some (.int 1)) N h else Q (some (.int 0)) N h := by
  simp only [e119_0, e119_1, e119_2, e119_3, e119_6, e119_9, c108, zrc_eq, zup_s, zup_n, zup_up, zal_i, zal_b, zal_z, zas_i, zas_b, zas_z, zan_eq, Option.toList_some, Option.toList_none, List.cons_append, List.nil_append, if_true, if_false, ite_true, ite_false, true_or, or_true, zl64, zl64_99, zl_le, zdr_eq, z01b, z11b]
theorem zin_no {n : Nat} (hn : n < 2 ^ 30) {i : Int32} : (0 ≤ i ∧ i ≤ nI n - 1) = isNo n i := by
  apply propext
  unfold isNo
  have : (nI n - 1).toInt = (n : Int) - 1 := pk_sub_toInt (b := 1) hn (by decide)
  rw [Int32.le_iff_toInt_le, Int32.le_iff_toInt_le, Int32.lt_iff_toInt_lt, nI_toInt (by omega), this, show (0 : Int32).toInt = 0 from by decide]
  omega
theorem c117 {np : Nat} (hn : np ≤ 24) (h1 : h 53 = mObj len at_ rp rj (nI np) nj_ kp su lo dr ab be) : zE X 117 0 [some (.ref 53), some (.int i)] [] (N, 0, 0) h Q = if isNo np i then Q (some (.int 1)) N h else Q (some (.int 0)) N h := by
  unfold mObj at h1
  have e := zin_no (n := np) (by omega) (i := i)
  simp only [e117_0, e117_1, e117_2, e117_3, e117_4, e117_7, e117_8, e117_9, e117_10, e117_13, h1, c108, zg10_0, zp10_0, zg10_1, zp10_1, zg10_2, zp10_2, zg10_3, zp10_3, zg10_4, zp10_4, zg10_5, zp10_5, zg10_6, zp10_6, zg10_7, zp10_7, zg10_8, zp10_8, zg10_9, zp10_9, zg10_10, zp10_10, zg10_11, zp10_11, zg10_12, zp10_12, zg10_13, zp10_13, zg10_14, zp10_14, zg10_15, zp10_15, zg10_16, zp10_16, zg10_17, zp10_17, zg10_18, zp10_18, zg10_19, zp10_19, zg10_20, zp10_20, zg10_21, zp10_21, zg10_22, zp10_22, zg10_23, zp10_23, zg10_24, zp10_24, zg10_25, zp10_25, zg10_26, zp10_26, zg10_27, zp10_27, zg10_28, zp10_28, zg10_29, zp10_29, zg10_30, zp10_30, zg10_31, zp10_31, zg10_32, zp10_32, zrc_eq, zup_s, zup_n, zup_up, zal_i, zal_b, zal_z, zas_i, zas_b, zas_z, zan_eq, Option.toList_some, Option.toList_none, List.cons_append, List.nil_append, if_true, if_false, ite_true, ite_false, true_or, or_true, zl64, zl_le, e, z01b, z11b]
theorem c118 {nj : Nat} (hn : nj ≤ 6) (h1 : h 53 = mObj len at_ rp rj np_ (nI nj) kp su lo dr ab be) : zE X 118 0 [some (.ref 53), some (.int i)] [] (N, 0, 0) h Q = if isNo nj i then Q (some (.int 1)) N h else Q (some (.int 0)) N h := by
  unfold mObj at h1
  have e := zin_no (n := nj) (by omega) (i := i)
  simp only [e118_0, e118_1, e118_2, e118_3, e118_4, e118_7, e118_8, e118_9, e118_10, e118_13, h1, c108, zg10_0, zp10_0, zg10_1, zp10_1, zg10_2, zp10_2, zg10_3, zp10_3, zg10_4, zp10_4, zg10_5, zp10_5, zg10_6, zp10_6, zg10_7, zp10_7, zg10_8, zp10_8, zg10_9, zp10_9, zg10_10, zp10_10, zg10_11, zp10_11, zg10_12, zp10_12, zg10_13, zp10_13, zg10_14, zp10_14, zg10_15, zp10_15, zg10_16, zp10_16, zg10_17, zp10_17, zg10_18, zp10_18, zg10_19, zp10_19, zg10_20, zp10_20, zg10_21, zp10_21, zg10_22, zp10_22, zg10_23, zp10_23, zg10_24, zp10_24, zg10_25, zp10_25, zg10_26, zp10_26, zg10_27, zp10_27, zg10_28, zp10_28, zg10_29, zp10_29, zg10_30, zp10_30, zg10_31, zp10_31, zg10_32, zp10_32, zrc_eq, zup_s, zup_n, zup_up, zal_i, zal_b, zal_z, zas_i, zas_b, zas_z, zan_eq, Option.toList_some, Option.toList_none, List.cons_append, List.nil_append, if_true, if_false, ite_true, ite_false, true_or, or_true, zl64, zl_le, e, z01b, z11b]
theorem c130 {nj : Nat} (h1 : h 53 = mObj len at_ rp rj np_ (nI nj) kp su lo dr ab be) : zE X 130 0 [some (.ref 53), some (.int p), some (.int d), some (.int q), some (.int e)] [] (N, 0, 0) h Q = if isTwo nj p d q e then Q (some (.int 1)) N h else Q (some (.int 0)) N h := by
  have h1' := h1
  unfold mObj at h1
  simp only [e130_0, e130_1, e130_4, e130_5, e130_6, e130_9, e130_12, e130_13, e130_16, e130_17, e130_18, e130_21, e130_24, e130_25, e130_28, e130_31, e130_33, e130_36, e130_39, e130_40, e130_43, e130_44, h1, c122 h1', c119, zrc_eq, zup_s, zup_n, zup_up, zal_i, zal_b, zal_z, zas_i, zas_b, zas_z, zan_eq, Option.toList_some, Option.toList_none, List.cons_append, List.nil_append, if_true, if_false, ite_true, ite_false, true_or, or_true, z10, z00]
  exact zTwo2
end C33
