-- the model: mark, order, tell, coin
section C38
variable {X : Nat × (Nat → Int32)} {N : Nat} {h : zH} {Q : Option Value → Nat → zH → Prop} {S : zSh} {F : Nat → zTm} {D : Nat → Prop} {i j p q d e r w : Int32}
variable {len at_ rp rj kp su lo dr : Int32} {ab be : Int64}
def qW (h : zH) : Prop := ∃ f : Nat → Int32, h 72 = .inl (.int, 24, f)
def qP (h : zH) : Prop := ∃ f : Nat → Int32, h 73 = .inl (.boolean, 24, f)
def qQ (h : zH) : Prop := ∃ f : Nat → Int32, h 74 = .inl (.boolean, 24, f)
/-- the model's cells that no answer rests on beyond the call -/
def zMS (h : zH) : Prop := pM0 h ∧ qW h ∧ qP h ∧ qQ h
set_option maxHeartbeats 1000000 in
theorem pM0.kept {h h' : zH} (q : pM0 h) {P : Nat → Prop} (hf : zfr P h h') (hP : ∀ a, 68 ≤ a → a ≤ 71 → ¬ P a) : pM0 h' := by
  obtain ⟨mn, od, rk, mk, h1, h2, h3, h4⟩ := q
  exact ⟨mn, od, rk, mk, (hf _ (hP _ (by omega) (by omega))).trans h1, (hf _ (hP _ (by omega) (by omega))).trans h2, (hf _ (hP _ (by omega) (by omega))).trans h3, (hf _ (hP _ (by omega) (by omega))).trans h4⟩
set_option maxHeartbeats 1000000 in
theorem zMS.kept {h h' : zH} (q : zMS h) {P : Nat → Prop} (hf : zfr P h h') (hP : ∀ a, 68 ≤ a → a ≤ 74 → ¬ P a) : zMS h' := by
  obtain ⟨q1, ⟨f, q2⟩, ⟨f3, q3⟩, ⟨f4, q4⟩⟩ := q
  exact ⟨q1.kept hf (fun a x y => hP a (by omega) (by omega)), ⟨f, (hf _ (hP _ (by omega) (by omega))).trans q2⟩, ⟨f3, (hf _ (hP _ (by omega) (by omega))).trans q3⟩, ⟨f4, (hf _ (hP _ (by omega) (by omega))).trans q4⟩⟩
set_option maxHeartbeats 1000000 in
theorem zMS.ord {h h' : zH} (q : zMS h) (hf : zfr (fun a => 68 ≤ a ∧ a ≤ 71) h h') (r : pM0 h') : zMS h' := by
  obtain ⟨q1, ⟨f, q2⟩, ⟨f3, q3⟩, ⟨f4, q4⟩⟩ := q
  exact ⟨r, ⟨f, (hf _ (by omega)).trans q2⟩, ⟨f3, (hf _ (by omega)).trans q3⟩, ⟨f4, (hf _ (by omega)).trans q4⟩⟩
/-- the model, as far as reads need it -/
def zMR (h : zH) (S : zSh) (D : Nat → Prop) (F : Nat → zTm) (len at_ rp rj kp su lo dr : Int32) (ab be : Int64) : Prop := h 53 = mObj len at_ rp rj (nI S.1.1) (nI S.2.1.1) kp su lo dr ab be ∧ pMs h 59 60 61 S ∧ sK S ∧ pMz h D F ∧ D 0 ∧ zMS h
/-- what a read of the model changes -/
abbrev zmf (h h' : zH) : Prop := zfr (fun a => a = 53 ∨ (68 ≤ a ∧ a ≤ 74)) h h'
set_option maxHeartbeats 1000000 in
theorem zMR.kept {h h' : zH} {su' lo' dr' : Int32} {ab' be' : Int64} (hm : zMR h S D F len at_ rp rj kp su lo dr ab be) (hf : zmf h h') (c : zMS h') (h1 : h' 53 = mObj len at_ rp rj (nI S.1.1) (nI S.2.1.1) kp su' lo' dr' ab' be') : zMR h' S D F len at_ rp rj kp su' lo' dr' ab' be' := by
  obtain ⟨-, a2, a3, a4, a5, -⟩ := hm
  exact ⟨h1, a2.kept2 hf (by omega), a3, a4.kept hf (by omega), a5, c⟩
set_option maxHeartbeats 1000000 in
theorem c116 (hm : zMR h S D F len at_ rp rj kp su lo dr ab be) : zE X 116 0 [some (.ref 53), some (.int i), some (.int j), some (.int d)] [] (N, 0, 0) h Q = Q (some (.int (aMark S (F 0) i j d))) N h := by
  obtain ⟨h1, hs, ok, hT, hD, -⟩ := hm
  have h1' := h1
  unfold mObj at h1
  have b1 := ok.1.1
  have b2 := ok.2.1.1
  simp only [e116_0, e116_1, e116_2, e116_5, e116_8, e116_9, e116_10, e116_13, e116_16, e116_17, e116_20, e116_23, e116_25, e116_26, e116_27, e116_28, e116_29, e116_32, e116_35, e116_36, h1, c117 b1 h1', c118 b2 h1', c119, zrc_eq, zup_s, zup_n, zup_up, zal_i, zal_b, zal_z, zas_i, zas_b, zas_z, zan_eq, Option.toList_some, Option.toList_none, List.cons_append, List.nil_append, if_true, if_false, ite_true, ite_false, true_or, or_true, z10, z00]
  unfold aMark
  by_cases g1 : isNo S.1.1 i
  · rw [if_pos g1]
    by_cases g2 : isNo S.2.1.1 j
    · rw [if_pos g2]
      by_cases g3 : isDr d
      · rw [if_pos g3, if_pos ⟨g1, g2, g3⟩]
        obtain ⟨a, ha, rfl⟩ := g1.nat (by omega)
        obtain ⟨b, hb, rfl⟩ := g2.nat (by omega)
        rw [nI_clamp (by omega), nI_clamp (by omega)]
        have e := fun Q' => c120 (X := X) (N := N) (Q := Q') (d := d) (hc := 1) (s := 0) h1' hs ok ha hb hT (by omega) hD
        rw [nI_0] at e
        simp (disch := omega) only [e116_0, e116_1, e116_2, e116_5, e116_8, e116_9, e116_10, e116_13, e116_16, e116_17, e116_20, e116_23, e116_24, e116_25, e116_26, e116_27, e116_28, e116_29, e116_32, e116_35, e116_36, h1, zrc_eq, zup_s, zup_n, zup_up, zal_i, zal_b, zal_z, zas_i, zas_b, zas_z, zan_eq, Option.toList_some, Option.toList_none, List.cons_append, List.nil_append, if_true, if_false, ite_true, ite_false, true_or, or_true, e, z10]
      · rw [if_neg g3, if_neg (fun z => g3 z.2.2)]
    · rw [if_neg g2, if_neg (fun z => g2 z.2.1)]
  · rw [if_neg g1, if_neg (fun z => g1 z.1)]
set_option maxHeartbeats 1000000 in
theorem c124n {v : Nat} (hv : v ≤ 1) (hm : zMR h S D F len at_ rp rj kp su lo dr ab be) (K : ∀ h', pMn h' v (oN S (F 0)) (oF S (F 0) p d) → (∀ x n f, x ≤ 1 → x ≠ v → pMn h x n f → pMn h' x n f) → zMS h' → zfr (fun a => 68 ≤ a ∧ a ≤ 71) h h' → Q none N h') :
    zE X 124 0 [some (.ref 53), some (.int (nI v)), some (.int p), some (.int d), some (.int (nI 0)), some (.int 1), none, none, none] [] (N, 0, 0) h Q := by
  obtain ⟨h1, hs, ok, hT, hD, ms⟩ := hm
  refine c124 hv ok (by omega) hD h1 hs hT ms.1 (fun h' a1 a2 a3 => K h' ?_ a2 (ms.ord a3 a1.r0) a3)
  rw [oN_eq] at a1
  exact a1
/-- paid surely, in the lot, drawn of it -/
abbrev pSu (S : zSh) (n : Nat) : Nat := min S.2.2.1.1 n
abbrev pLo (S : zSh) (n : Nat) : Nat := min S.2.2.1.2.1 (n - pSu S n)
abbrev pDr (S : zSh) (n : Nat) : Nat := min S.2.2.1.2.2 (pLo S n)
set_option maxHeartbeats 1000000 in
theorem zmin {a b : Nat} (ha : a < 2 ^ 31) (hb : b < 2 ^ 31) : (if nI a < nI b then nI a else nI b) = nI (min a b) := by
  simp only [znI_lt ha hb]
  split
  · rw [Nat.min_eq_left (by omega)]
  · rw [Nat.min_eq_right (by omega)]
set_option maxHeartbeats 1000000 in
theorem c127 {n : Nat} {f : Nat → Nat} (hm : zMR h S D F len at_ rp rj kp su lo dr ab be) (hn : pMn h 0 n f) : zE X 127 0 [some (.ref 53)] [] (N, 0, 0) h Q = Q none N (va_up h 53 (mObj len at_ rp rj (nI S.1.1) (nI S.2.1.1) kp (nI (pSu S n)) (nI (pLo S n)) (nI (pDr S n)) ab be)) := by
  obtain ⟨h1, hs, ok, hT, hD, ms⟩ := hm
  obtain ⟨mn, od, rk, mk, n1, n2, n3, n4, n5, n6, n7, n8, n9⟩ := hn
  obtain ⟨m1, m2, rpl, rju, rre, g1, g2, g3, w1, w2, r0, r1, r2, r3, r4, r5, r6⟩ := hs.rows
  obtain ⟨k1, k2, ⟨k3, k4, k5⟩, -⟩ := ok
  unfold mObj at h1
  have ez : (nI n - nI (min S.2.2.1.1 n)) = nI (n - min S.2.2.1.1 n) := pk_sub (Nat.min_le_right _ _)
  simp (disch := omega) only [e127_0, e127_1, e127_2, e127_5, e127_6, e127_7, e127_8, e127_11, e127_12, e127_13, e127_16, e127_19, e127_20, e127_21, e127_24, e127_25, e127_26, e127_27, e127_30, e127_31, e127_32, e127_33, e127_36, e127_37, e127_40, e127_43, e127_44, e127_45, e127_48, e127_49, e127_50, e127_51, e127_54, e127_57, e127_60, h1, g3, n1, zg10_0, zp10_0, zg10_1, zp10_1, zg10_2, zp10_2, zg10_3, zp10_3, zg10_4, zp10_4, zg10_5, zp10_5, zg10_6, zp10_6, zg10_7, zp10_7, zg10_8, zp10_8, zg10_9, zp10_9, zg10_10, zp10_10, zg10_11, zp10_11, zg10_12, zp10_12, zg10_13, zp10_13, zg10_14, zp10_14, zg10_15, zp10_15, zg10_16, zp10_16, zg10_17, zp10_17, zg10_18, zp10_18, zg10_19, zp10_19, zg10_20, zp10_20, zg10_21, zp10_21, zg10_22, zp10_22, zg10_23, zp10_23, zg10_24, zp10_24, zg10_25, zp10_25, zg10_26, zp10_26, zg10_27, zp10_27, zg10_28, zp10_28, zg10_29, zp10_29, zg10_30, zp10_30, zg10_31, zp10_31, zg10_32, zp10_32, zrc_eq, zup_s, zup_n, zup_up, zal_i, zal_b, zal_z, zas_i, zas_b, zas_z, zan_eq, Option.toList_some, Option.toList_none, List.cons_append, List.nil_append, if_true, if_false, ite_true, ite_false, true_or, or_true, zc0, zc1, zc2, c128, r0, r1, r2, n6, zmin, ez]
  rfl
set_option maxHeartbeats 1000000 in
theorem c123 (hm : zMR h S D F len at_ rp rj kp su lo dr ab be) (K : ∀ h' , pMn h' 0 (oN S (F 0)) (oF S (F 0) p d) → zMR h' S D F len at_ rp rj kp (nI (pSu S (oN S (F 0)))) (nI (pLo S (oN S (F 0)))) (nI (pDr S (oN S (F 0)))) ab be → zmf h h' → Q none N h') : zE X 123 0 [some (.ref 53), some (.int p), some (.int d)] [] (N, 0, 0) h Q := by
  have e53 : ∃ fs, h 53 = .inr (10, fs) := ⟨_, hm.1⟩
  obtain ⟨fs, e53⟩ := e53
  simp (disch := omega) only [e123_0, e123_1, e123_2, e123_3, e123_4, e123_5, e123_6, e123_9, e123_10, e123_13, e53, zrc_eq, zup_s, zup_n, zup_up, zal_i, zal_b, zal_z, zas_i, zas_b, zas_z, zan_eq, Option.toList_some, Option.toList_none, List.cons_append, List.nil_append, if_true, if_false, ite_true, ite_false, true_or, or_true, zc0]
  refine c124n (v := 0) (by omega) hm (fun h' a1 a2 a3 a4 => ?_)
  have F1 : zmf h h' := a4.mono (fun a ha => by omega)
  have hm' : zMR h' S D F len at_ rp rj kp su lo dr ab be := hm.kept F1 a3 ((a4 53 (by omega)).trans hm.1)
  have e53' : ∃ fs, h' 53 = .inr (10, fs) := ⟨_, hm'.1⟩
  obtain ⟨fs', e53'⟩ := e53'
  simp (disch := omega) only [e123_0, e123_1, e123_2, e123_3, e123_4, e123_5, e123_6, e123_9, e123_10, e123_13, Option.toList_none, List.nil_append, e53', zrc_eq, zup_s, zup_n, zup_up, zal_i, zal_b, zal_z, zas_i, zas_b, zas_z, zan_eq, Option.toList_some, Option.toList_none, List.cons_append, List.nil_append, if_true, if_false, ite_true, ite_false, true_or, or_true, c127 hm' a1]
  have F2 : zfr (fun a => a = 53) h' (va_up h' 53 (mObj len at_ rp rj (nI S.1.1) (nI S.2.1.1) kp (nI (pSu S (oN S (F 0)))) (nI (pLo S (oN S (F 0)))) (nI (pDr S (oN S (F 0)))) ab be)) := zfr.up rfl zfr.rf
  exact K _ (a1.kept F2 (by omega)) (hm'.kept (F2.mono (fun a ha => by omega)) (a3.kept F2 (by omega)) zup_s) (F1.tr (F2.mono (fun a ha => by omega)))
/-- after a read the model differs in numbers alone that no later answer rests on -/
def zMk' (h h' : zH) (S : zSh) (len at_ rp rj kp : Int32) : Prop := (∃ su lo dr ab be, h' 53 = mObj len at_ rp rj (nI S.1.1) (nI S.2.1.1) kp su lo dr ab be) ∧ zMS h' ∧ zmf h h'
set_option maxHeartbeats 1000000 in
theorem c121 (hm : zMR h S D F len at_ rp rj kp su lo dr ab be) (K : ∀ h', zMk' h h' S len at_ rp rj kp → Q (some (.int (aOrder S (F 0) p d r))) N h') : zE X 121 0 [some (.ref 53), some (.int p), some (.int d), some (.int r)] [] (N, 0, 0) h Q := by
  have hm' := hm
  obtain ⟨h1, hs, ok, hT, hD, ms⟩ := hm
  have h1' := h1
  have rf : zMk' h h S len at_ rp rj kp := ⟨⟨_, _, _, _, _, h1⟩, ms, zfr.rf⟩
  unfold mObj at h1
  simp only [e121_0, e121_1, e121_2, e121_5, e121_8, e121_9, e121_12, e121_15, e121_16, e121_17, e121_20, e121_21, e121_23, e121_24, e121_25, e121_28, e121_29, e121_32, e121_33, e121_36, e121_37, e121_38, e121_41, e121_42, e121_43, e121_46, e121_47, e121_48, e121_51, e121_52, e121_55, e121_56, e121_57, e121_60, e121_62, h1, c122 h1', c119, zrc_eq, zup_s, zup_n, zup_up, zal_i, zal_b, zal_z, zas_i, zas_b, zas_z, zan_eq, Option.toList_some, Option.toList_none, List.cons_append, List.nil_append, if_true, if_false, ite_true, ite_false, true_or, or_true, z10, z00]
  unfold aOrder at K
  by_cases g1 : isPan S.2.1.1 p
  · rw [if_pos g1]
    by_cases g2 : isDr d
    · rw [if_pos g2]
      by_cases g3 : -1 ≤ r
      · rw [if_pos g3]
        rw [if_pos ⟨g1, g2, g3⟩] at K
        simp (disch := omega) only [e121_0, e121_1, e121_2, e121_5, e121_8, e121_9, e121_12, e121_15, e121_16, e121_17, e121_20, e121_21, e121_22, e121_23, e121_24, e121_25, e121_28, e121_29, e121_32, e121_33, e121_36, e121_37, e121_38, e121_41, e121_42, e121_43, e121_46, e121_47, e121_48, e121_51, e121_52, e121_55, e121_56, e121_57, e121_60, e121_62, h1, zrc_eq, zup_s, zup_n, zup_up, zal_i, zal_b, zal_z, zas_i, zas_b, zas_z, zan_eq, Option.toList_some, Option.toList_none, List.cons_append, List.nil_append, if_true, if_false, ite_true, ite_false, true_or, or_true]
        refine c123 hm' (fun h' a1 a2 a3 => ?_)
        have kk : zMk' h h' S len at_ rp rj kp := ⟨⟨_, _, _, _, _, a2.1⟩, a2.2.2.2.2.2, a3⟩
        obtain ⟨mn, od, rk, mk, n1, n2, n3, n4, n5, n6, n7, n8, n9⟩ := a1
        have e1 := a2.1
        unfold mObj at e1
        by_cases g4 : r = -1
        · rw [if_pos g4] at K
          simp (disch := omega) only [e121_0, e121_1, e121_2, e121_5, e121_8, e121_9, e121_12, e121_15, e121_16, e121_17, e121_20, e121_21, e121_22, e121_23, e121_24, e121_25, e121_28, e121_29, e121_32, e121_33, e121_36, e121_37, e121_38, e121_41, e121_42, e121_43, e121_46, e121_47, e121_48, e121_51, e121_52, e121_55, e121_56, e121_57, e121_60, e121_62, Option.toList_none, List.nil_append, g4, show ¬ (0 : Int32) ≤ -1 from by decide, ↓reduceIte, e1, n1, n6, zg10_0, zp10_0, zg10_1, zp10_1, zg10_2, zp10_2, zg10_3, zp10_3, zg10_4, zp10_4, zg10_5, zp10_5, zg10_6, zp10_6, zg10_7, zp10_7, zg10_8, zp10_8, zg10_9, zp10_9, zg10_10, zp10_10, zg10_11, zp10_11, zg10_12, zp10_12, zg10_13, zp10_13, zg10_14, zp10_14, zg10_15, zp10_15, zg10_16, zp10_16, zg10_17, zp10_17, zg10_18, zp10_18, zg10_19, zp10_19, zg10_20, zp10_20, zg10_21, zp10_21, zg10_22, zp10_22, zg10_23, zp10_23, zg10_24, zp10_24, zg10_25, zp10_25, zg10_26, zp10_26, zg10_27, zp10_27, zg10_28, zp10_28, zg10_29, zp10_29, zg10_30, zp10_30, zg10_31, zp10_31, zg10_32, zp10_32, zrc_eq, zup_s, zup_n, zup_up, zal_i, zal_b, zal_z, zas_i, zas_b, zas_z, zan_eq, Option.toList_some, Option.toList_none, List.cons_append, List.nil_append, if_true, if_false, ite_true, ite_false, true_or, or_true, zc0]
          exact K h' kk
        · rw [if_neg g4] at K
          obtain ⟨k, hk, rfl⟩ := zge1 g3 g4
          rw [nI_clamp hk] at K
          have e0 : 0 ≤ nI k := nI_pos' hk
          by_cases g5 : k < oN S (F 0)
          · rw [if_pos g5] at K
            have := n7 k g5
            rw [Nat.mul_zero, Nat.zero_add] at this
            simp (disch := omega) only [e121_0, e121_1, e121_2, e121_5, e121_8, e121_9, e121_12, e121_15, e121_16, e121_17, e121_20, e121_21, e121_22, e121_23, e121_24, e121_25, e121_28, e121_29, e121_32, e121_33, e121_36, e121_37, e121_38, e121_41, e121_42, e121_43, e121_46, e121_47, e121_48, e121_51, e121_52, e121_55, e121_56, e121_57, e121_60, e121_62, Option.toList_none, List.nil_append, e0, if_true, e1, n1, n2, n6, zg10_0, zp10_0, zg10_1, zp10_1, zg10_2, zp10_2, zg10_3, zp10_3, zg10_4, zp10_4, zg10_5, zp10_5, zg10_6, zp10_6, zg10_7, zp10_7, zg10_8, zp10_8, zg10_9, zp10_9, zg10_10, zp10_10, zg10_11, zp10_11, zg10_12, zp10_12, zg10_13, zp10_13, zg10_14, zp10_14, zg10_15, zp10_15, zg10_16, zp10_16, zg10_17, zp10_17, zg10_18, zp10_18, zg10_19, zp10_19, zg10_20, zp10_20, zg10_21, zp10_21, zg10_22, zp10_22, zg10_23, zp10_23, zg10_24, zp10_24, zg10_25, zp10_25, zg10_26, zp10_26, zg10_27, zp10_27, zg10_28, zp10_28, zg10_29, zp10_29, zg10_30, zp10_30, zg10_31, zp10_31, zg10_32, zp10_32, zrc_eq, zup_s, zup_n, zup_up, zal_i, zal_b, zal_z, zas_i, zas_b, zas_z, zan_eq, Option.toList_some, Option.toList_none, List.cons_append, List.nil_append, if_true, if_false, ite_true, ite_false, true_or, or_true, zc0, znI_le, if_neg, this]
            exact K h' kk
          · rw [if_neg g5] at K
            simp (disch := omega) only [e121_0, e121_1, e121_2, e121_5, e121_8, e121_9, e121_12, e121_15, e121_16, e121_17, e121_20, e121_21, e121_22, e121_23, e121_24, e121_25, e121_28, e121_29, e121_32, e121_33, e121_36, e121_37, e121_38, e121_41, e121_42, e121_43, e121_46, e121_47, e121_48, e121_51, e121_52, e121_55, e121_56, e121_57, e121_60, e121_62, Option.toList_none, List.nil_append, e0, if_true, e1, n1, n2, n6, zg10_0, zp10_0, zg10_1, zp10_1, zg10_2, zp10_2, zg10_3, zp10_3, zg10_4, zp10_4, zg10_5, zp10_5, zg10_6, zp10_6, zg10_7, zp10_7, zg10_8, zp10_8, zg10_9, zp10_9, zg10_10, zp10_10, zg10_11, zp10_11, zg10_12, zp10_12, zg10_13, zp10_13, zg10_14, zp10_14, zg10_15, zp10_15, zg10_16, zp10_16, zg10_17, zp10_17, zg10_18, zp10_18, zg10_19, zp10_19, zg10_20, zp10_20, zg10_21, zp10_21, zg10_22, zp10_22, zg10_23, zp10_23, zg10_24, zp10_24, zg10_25, zp10_25, zg10_26, zp10_26, zg10_27, zp10_27, zg10_28, zp10_28, zg10_29, zp10_29, zg10_30, zp10_30, zg10_31, zp10_31, zg10_32, zp10_32, zrc_eq, zup_s, zup_n, zup_up, zal_i, zal_b, zal_z, zas_i, zas_b, zas_z, zan_eq, Option.toList_some, Option.toList_none, List.cons_append, List.nil_append, if_true, if_false, ite_true, ite_false, true_or, or_true, zc0, znI_le, if_pos]
            exact K h' kk
      · rw [if_neg g3]
        rw [if_neg (fun z => g3 z.2.2)] at K
        exact K h rf
    · rw [if_neg g2]
      rw [if_neg (fun z => g2 z.2.1)] at K
      exact K h rf
  · rw [if_neg g1]
    rw [if_neg (fun z => g1 z.1)] at K
    exact K h rf
set_option maxHeartbeats 1000000 in
theorem c131 (hm : zMR h S D F len at_ rp rj kp su lo dr ab be) (K : ∀ h', pMn h' 0 (oN S (F 0)) (oF S (F 0) p d) → pMn h' 1 (oN S (F 0)) (oF S (F 0) q e) → zMS h' → zfr (fun a => 68 ≤ a ∧ a ≤ 71) h h' → Q none N h') : zE X 131 0 [some (.ref 53), some (.int p), some (.int d), some (.int q), some (.int e)] [] (N, 0, 0) h Q := by
  have e53 : ∃ fs, h 53 = .inr (10, fs) := ⟨_, hm.1⟩
  obtain ⟨fs, e53⟩ := e53
  have E0 := fun h p d Q => c124n (X := X) (N := N) (h := h) (Q := Q) (S := S) (F := F) (D := D) (p := p) (d := d) (len := len) (at_ := at_) (rp := rp) (rj := rj) (kp := kp) (su := su) (lo := lo) (dr := dr) (ab := ab) (be := be) (v := 0) (by omega)
  have E1 := fun h p d Q => c124n (X := X) (N := N) (h := h) (Q := Q) (S := S) (F := F) (D := D) (p := p) (d := d) (len := len) (at_ := at_) (rp := rp) (rj := rj) (kp := kp) (su := su) (lo := lo) (dr := dr) (ab := ab) (be := be) (v := 1) (by omega)
  rw [nI_0] at E0
  rw [nI_0, ← zc1] at E1
  simp (disch := omega) only [e131_0, e131_1, e131_2, e131_3, e131_4, e131_5, e131_6, e131_9, e131_10, e131_11, e131_12, e131_14, e131_15, e131_16, e131_19, e53, zrc_eq, zup_s, zup_n, zup_up, zal_i, zal_b, zal_z, zas_i, zas_b, zas_z, zan_eq, Option.toList_some, Option.toList_none, List.cons_append, List.nil_append, if_true, if_false, ite_true, ite_false, true_or, or_true]
  refine E0 _ _ _ _ hm (fun h' a1 a2 a3 a4 => ?_)
  have F1 : zmf h h' := a4.mono (fun a ha => by omega)
  have hm' : zMR h' S D F len at_ rp rj kp su lo dr ab be := hm.kept F1 a3 ((a4 53 (by omega)).trans hm.1)
  have e53' : ∃ fs, h' 53 = .inr (10, fs) := ⟨_, hm'.1⟩
  obtain ⟨fs', e53'⟩ := e53'
  simp (disch := omega) only [e131_0, e131_1, e131_2, e131_3, e131_4, e131_5, e131_6, e131_9, e131_10, e131_11, e131_12, e131_14, e131_15, e131_16, e131_19, Option.toList_none, List.nil_append, e53', zrc_eq, zup_s, zup_n, zup_up, zal_i, zal_b, zal_z, zas_i, zas_b, zas_z, zan_eq, Option.toList_some, Option.toList_none, List.cons_append, List.nil_append, if_true, if_false, ite_true, ite_false, true_or, or_true]
  refine E1 _ _ _ _ hm' (fun h2 b1 b2 b3 b4 => ?_)
  simp (disch := omega) only [e131_0, e131_1, e131_2, e131_3, e131_4, e131_5, e131_6, e131_9, e131_10, e131_11, e131_12, e131_14, e131_15, e131_16, e131_19, Option.toList_none, List.nil_append]
  exact K h2 (b2 0 _ _ (by omega) (by omega) a1) b1 b3 (a4.tr b4)
set_option maxHeartbeats 1000000 in
theorem c132_17 {od rk : Nat → Int32} {np_ nj_ : Int32} {n to x : Nat} {s : Nat} {R f : Nat → Nat} {l1 : Option Value} (h1 : h 53 = mObj len at_ rp rj np_ nj_ kp su lo dr ab be) (h2 : h 69 = .inl (.int, 48, od)) (h3 : h 70 = .inl (.int, 48, rk)) (hn : n ≤ 24) (ho : ∀ j, j < n → od j = nI (f j)) (hf : ∀ j, j < n → f j < 24) (hR : ∀ j, j < n → rk (24 + f j) = nI (R j) ∧ R j < 24) (hto : to < n) (hx : x ≤ to) : ∀ m u, m + u = to - x → zE X 132 17 [some (.ref 53), l1, some (.int (nI to)), some (.int (nI (s + nSum (fun u => aA R x (x + 1 + u)) u))), some (.int (nI x)), some (.int (nI (x + 1 + u)))] [] (N, 0, 0) h Q = zE X 132 70 [some (.ref 53), l1, some (.int (nI to)), some (.int (nI (s + nSum (fun u => aA R x (x + 1 + u)) (to - x)))), some (.int (nI x)), some (.int (nI (to + 1)))] [] (N, 0, 0) h Q := by
  unfold mObj at h1
  intro m
  induction m with
  | zero =>
    intro u hu
    obtain rfl : u = to - x := by omega
    have ex : x + 1 + (to - x) = to + 1 := by omega
    rw [e132_17]
    simp (disch := omega) only [e132_0, e132_1, e132_2, e132_3, e132_7, e132_8, e132_11, e132_13, e132_14, e132_15, e132_19, e132_20, e132_23, e132_24, e132_25, e132_28, e132_30, e132_31, e132_34, e132_36, e132_37, e132_38, e132_39, e132_40, e132_43, e132_45, e132_46, e132_49, e132_51, e132_52, e132_53, e132_54, e132_57, e132_58, e132_61, e132_62, e132_63, e132_64, e132_67, e132_73, e132_76, e132_77, znI_lt, if_pos, ex]
  | succ m ih =>
    intro u hu
    have ih' := ih (u + 1) (by omega)
    rw [nSum, ← Nat.add_assoc, ← Nat.add_assoc] at ih'
    obtain ⟨a1, a2⟩ := hR x (by omega)
    obtain ⟨b1, b2⟩ := hR (x + 1 + u) (by omega)
    have c1 := hf x (by omega)
    have c2 := hf (x + 1 + u) (by omega)
    have d1 : (24 : Int32) + nI (f x) = nI (24 + f x) := by rw [zc24, nI_add]
    have d2 : (24 : Int32) + nI (f (x + 1 + u)) = nI (24 + f (x + 1 + u)) := by rw [zc24, nI_add]
    rw [e132_17]
    simp (disch := omega) only [e132_0, e132_1, e132_2, e132_3, e132_7, e132_8, e132_11, e132_13, e132_14, e132_15, e132_19, e132_20, e132_23, e132_24, e132_25, e132_28, e132_30, e132_31, e132_34, e132_36, e132_38, e132_39, e132_40, e132_43, e132_45, e132_46, e132_49, e132_51, e132_52, e132_53, e132_54, e132_57, e132_58, e132_61, e132_62, e132_63, e132_64, e132_67, e132_73, e132_76, e132_77, h1, h2, zg10_0, zp10_0, zg10_1, zp10_1, zg10_2, zp10_2, zg10_3, zp10_3, zg10_4, zp10_4, zg10_5, zp10_5, zg10_6, zp10_6, zg10_7, zp10_7, zg10_8, zp10_8, zg10_9, zp10_9, zg10_10, zp10_10, zg10_11, zp10_11, zg10_12, zp10_12, zg10_13, zp10_13, zg10_14, zp10_14, zg10_15, zp10_15, zg10_16, zp10_16, zg10_17, zp10_17, zg10_18, zp10_18, zg10_19, zp10_19, zg10_20, zp10_20, zg10_21, zp10_21, zg10_22, zp10_22, zg10_23, zp10_23, zg10_24, zp10_24, zg10_25, zp10_25, zg10_26, zp10_26, zg10_27, zp10_27, zg10_28, zp10_28, zg10_29, zp10_29, zg10_30, zp10_30, zg10_31, zp10_31, zg10_32, zp10_32, zrc_eq, zup_s, zup_n, zup_up, zal_i, zal_b, zal_z, zas_i, zas_b, zas_z, zan_eq, Option.toList_some, Option.toList_none, List.cons_append, List.nil_append, if_true, if_false, ite_true, ite_false, true_or, or_true, znI_lt, if_neg]
    rw [ho x (by omega)]
    simp (disch := omega) only [e132_0, e132_1, e132_2, e132_3, e132_7, e132_8, e132_11, e132_13, e132_14, e132_15, e132_19, e132_20, e132_23, e132_24, e132_25, e132_28, e132_30, e132_31, e132_34, e132_36, e132_37, e132_38, e132_39, e132_40, e132_43, e132_45, e132_46, e132_49, e132_51, e132_53, e132_54, e132_57, e132_58, e132_61, e132_62, e132_63, e132_64, e132_67, e132_73, e132_76, e132_77, h1, h2, h3, zg10_0, zp10_0, zg10_1, zp10_1, zg10_2, zp10_2, zg10_3, zp10_3, zg10_4, zp10_4, zg10_5, zp10_5, zg10_6, zp10_6, zg10_7, zp10_7, zg10_8, zp10_8, zg10_9, zp10_9, zg10_10, zp10_10, zg10_11, zp10_11, zg10_12, zp10_12, zg10_13, zp10_13, zg10_14, zp10_14, zg10_15, zp10_15, zg10_16, zp10_16, zg10_17, zp10_17, zg10_18, zp10_18, zg10_19, zp10_19, zg10_20, zp10_20, zg10_21, zp10_21, zg10_22, zp10_22, zg10_23, zp10_23, zg10_24, zp10_24, zg10_25, zp10_25, zg10_26, zp10_26, zg10_27, zp10_27, zg10_28, zp10_28, zg10_29, zp10_29, zg10_30, zp10_30, zg10_31, zp10_31, zg10_32, zp10_32, zrc_eq, zup_s, zup_n, zup_up, zal_i, zal_b, zal_z, zas_i, zas_b, zas_z, zan_eq, Option.toList_some, Option.toList_none, List.cons_append, List.nil_append, if_true, if_false, ite_true, ite_false, true_or, or_true, d1, a1]
    rw [ho (x + 1 + u) (by omega)]
    simp (disch := omega) only [e132_0, e132_1, e132_2, e132_3, e132_7, e132_8, e132_11, e132_13, e132_14, e132_15, e132_19, e132_20, e132_23, e132_24, e132_25, e132_28, e132_30, e132_31, e132_34, e132_36, e132_37, e132_38, e132_39, e132_40, e132_43, e132_45, e132_46, e132_49, e132_51, e132_52, e132_53, e132_57, e132_58, e132_61, e132_62, e132_63, e132_64, e132_67, e132_73, e132_76, e132_77, h3, zrc_eq, zup_s, zup_n, zup_up, zal_i, zal_b, zal_z, zas_i, zas_b, zas_z, zan_eq, Option.toList_some, Option.toList_none, List.cons_append, List.nil_append, if_true, if_false, ite_true, ite_false, true_or, or_true, d2, b1]
    rw [e132_54]
    simp (disch := omega) only [znI_le]
    by_cases g : R x < R (x + 1 + u)
    · rw [show aA R x (x + 1 + u) = 1 from if_pos g] at ih'
      rw [if_neg (by omega)]
      simp (disch := omega) only [e132_0, e132_1, e132_2, e132_3, e132_7, e132_8, e132_11, e132_13, e132_14, e132_15, e132_19, e132_20, e132_23, e132_24, e132_25, e132_28, e132_30, e132_31, e132_34, e132_36, e132_37, e132_38, e132_39, e132_40, e132_43, e132_45, e132_46, e132_49, e132_51, e132_52, e132_53, e132_54, e132_57, e132_58, e132_61, e132_62, e132_63, e132_64, e132_67, e132_73, e132_76, e132_77, nI_1]
      exact ih'
    · rw [show aA R x (x + 1 + u) = 0 from if_neg g] at ih'
      rw [if_pos (by omega)]
      simp (disch := omega) only [e132_0, e132_1, e132_2, e132_3, e132_7, e132_8, e132_11, e132_13, e132_14, e132_15, e132_19, e132_20, e132_23, e132_24, e132_25, e132_28, e132_30, e132_31, e132_34, e132_36, e132_37, e132_38, e132_39, e132_40, e132_43, e132_45, e132_46, e132_49, e132_51, e132_52, e132_53, e132_54, e132_57, e132_58, e132_61, e132_62, e132_63, e132_64, e132_67, e132_73, e132_76, e132_77, nI_1, Int32.add_zero]
      exact ih'
set_option maxHeartbeats 1000000 in
theorem c132_5 {od rk : Nat → Int32} {np_ nj_ : Int32} {n a l : Nat} {R f : Nat → Nat} {l1 : Option Value} (h1 : h 53 = mObj len at_ rp rj np_ nj_ kp su lo dr ab be) (h2 : h 69 = .inl (.int, 48, od)) (h3 : h 70 = .inl (.int, 48, rk)) (hn : n ≤ 24) (ho : ∀ j, j < n → od j = nI (f j)) (hf : ∀ j, j < n → f j < 24) (hR : ∀ j, j < n → rk (24 + f j) = nI (R j) ∧ R j < 24) (hl : 1 ≤ l) (hal : a + l ≤ n) : ∀ (m t : Nat) (l5 : Option Value), m + t = l → zE X 132 5 [some (.ref 53), l1, some (.int (nI (a + l - 1))), some (.int (nI (nSum (fun t => nSum (fun u => aA R (a + t) (a + t + 1 + u)) (l - 1 - t)) t))), some (.int (nI (a + t))), l5] [] (N, 0, 0) h Q = Q (some (.int (nI (tA (aA R) a l)))) N h := by
  intro m
  induction m with
  | zero =>
    intro t l5 ht
    obtain rfl : t = l := by omega
    rw [e132_5]
    simp (disch := omega) only [e132_0, e132_1, e132_2, e132_3, e132_7, e132_8, e132_11, e132_13, e132_14, e132_15, e132_19, e132_20, e132_23, e132_24, e132_25, e132_28, e132_30, e132_31, e132_34, e132_36, e132_37, e132_38, e132_39, e132_40, e132_43, e132_45, e132_46, e132_49, e132_51, e132_52, e132_53, e132_54, e132_57, e132_58, e132_61, e132_62, e132_63, e132_64, e132_67, e132_70, e132_73, e132_76, e132_77, znI_lt, if_pos]
    rfl
  | succ m ih =>
    intro t l5 ht
    have ih' := ih (t + 1) (some (.int (nI (a + l - 1 + 1)))) (by omega)
    rw [nSum] at ih'
    have e := c132_17 (X := X) (N := N) (Q := Q) (l1 := l1) (s := nSum (fun t => nSum (fun u => aA R (a + t) (a + t + 1 + u)) (l - 1 - t)) t) h1 h2 h3 hn ho hf hR (to := a + l - 1) (x := a + t) (by omega) (by omega) (a + l - 1 - (a + t)) 0 (by omega)
    rw [show a + l - 1 - (a + t) = l - 1 - t by omega] at e
    rw [e132_5]
    simp (disch := omega) only [e132_0, e132_1, e132_2, e132_3, e132_7, e132_8, e132_11, e132_13, e132_14, e132_15, e132_19, e132_20, e132_23, e132_24, e132_25, e132_28, e132_30, e132_31, e132_34, e132_36, e132_37, e132_38, e132_39, e132_40, e132_43, e132_45, e132_46, e132_49, e132_51, e132_52, e132_53, e132_54, e132_57, e132_58, e132_61, e132_62, e132_63, e132_64, e132_67, e132_73, e132_76, e132_77, znI_lt, if_neg, nI_1]
    refine Eq.trans e ?_
    simp (disch := omega) only [e132_0, e132_1, e132_2, e132_3, e132_7, e132_8, e132_11, e132_13, e132_14, e132_15, e132_19, e132_20, e132_23, e132_24, e132_25, e132_28, e132_30, e132_31, e132_34, e132_36, e132_37, e132_38, e132_39, e132_40, e132_43, e132_45, e132_46, e132_49, e132_51, e132_52, e132_53, e132_54, e132_57, e132_58, e132_61, e132_62, e132_63, e132_64, e132_67, e132_70, e132_73, e132_76, e132_77, nI_1]
    exact ih'
set_option maxHeartbeats 1000000 in
theorem c132 {od rk : Nat → Int32} {np_ nj_ : Int32} {n a l : Nat} {R f : Nat → Nat} (h1 : h 53 = mObj len at_ rp rj np_ nj_ kp su lo dr ab be) (h2 : h 69 = .inl (.int, 48, od)) (h3 : h 70 = .inl (.int, 48, rk)) (hn : n ≤ 24) (ho : ∀ j, j < n → od j = nI (f j)) (hf : ∀ j, j < n → f j < 24) (hR : ∀ j, j < n → rk (24 + f j) = nI (R j) ∧ R j < 24) (hl : 1 ≤ l) (hal : a + l ≤ n) : zE X 132 0 [some (.ref 53), some (.int (nI a)), some (.int (nI (a + l - 1))), none, none, none] [] (N, 0, 0) h Q = Q (some (.int (nI (tB (aA R) a l)))) N h := by
  rw [← tA_tB]
  simp (disch := omega) only [e132_0, e132_1, e132_2, e132_3, e132_7, e132_8, e132_11, e132_13, e132_14, e132_15, e132_19, e132_20, e132_23, e132_24, e132_25, e132_28, e132_30, e132_31, e132_34, e132_36, e132_37, e132_38, e132_39, e132_40, e132_43, e132_45, e132_46, e132_49, e132_51, e132_52, e132_53, e132_54, e132_57, e132_58, e132_61, e132_62, e132_63, e132_64, e132_67, e132_70, e132_73, e132_76, e132_77, zc0]
  exact c132_5 h1 h2 h3 hn ho hf hR hl hal l 0 none (by omega)
set_option maxHeartbeats 1000000 in
/-- ranks of the second order, as the model finds them -/
theorem pMn.ranks {n : Nat} {f g : Nat → Nat} (h0 : pMn h 0 n f) (h1 : pMn h 1 n g) (hin : ∀ k, k < n → ∃ j, j < n ∧ g j = f k) : ∃ mn od rk : Nat → Int32, h 68 = .inl (.int, 2, mn) ∧ mn 0 = nI n ∧ h 69 = .inl (.int, 48, od) ∧ h 70 = .inl (.int, 48, rk) ∧ n ≤ 24 ∧ (∀ j, j < n → od j = nI (f j)) ∧ (∀ j, j < n → f j < 24) ∧ (∀ j, j < n → rk (24 + f j) = nI (rT f g n j) ∧ rT f g n j < 24) := by
  obtain ⟨mn, od, rk, mk, n1, n2, n3, n4, n5, n6, n7, n8, n9⟩ := h0
  obtain ⟨mn', od', rk', mk', m1, m2, m3, m4, m5, m6, m7, m8, m9⟩ := h1
  rw [n3] at m3
  cases m3
  refine ⟨mn, od, rk, n1, n6, n2, n3, n5, fun j hj => ?_, n9, fun j hj => ?_⟩
  · have := n7 j hj
    rwa [Nat.mul_zero, Nat.zero_add] at this
  · obtain ⟨a1, a2⟩ := zIx_lt n (hin j hj)
    have := m8 _ a1
    rw [a2] at this
    refine ⟨this, ?_⟩
    show zIx g (f j) n < 24
    omega
set_option maxHeartbeats 1000000 in
theorem zw01 {w : Int32} : ((0 : Int32).toInt64 ≤ w.toInt64 ∧ w.toInt64 ≤ 1) = (0 ≤ w ∧ w ≤ 1) := by
  rw [show (1 : Int64) = (1 : Int32).toInt64 from by decide, zl_le, zl_le]
set_option maxHeartbeats 1000000 in
theorem c129 (hm : zMR h S D F len at_ rp rj kp su lo dr ab be) (K : ∀ h', zMk' h h' S len at_ rp rj kp → Q (some (.int (aTell S (F 0) p d q e w))) N h') : zE X 129 0 [some (.ref 53), some (.int p), some (.int d), some (.int q), some (.int e), some (.int w), none, none] [] (N, 0, 0) h Q := by
  have hm' := hm
  obtain ⟨h1, hs, ok, hT, hD, ms⟩ := hm
  have h1' := h1
  have rf : zMk' h h S len at_ rp rj kp := ⟨⟨_, _, _, _, _, h1⟩, ms, zfr.rf⟩
  unfold mObj at h1
  simp only [e129_0, e129_1, e129_2, e129_3, e129_4, e129_6, e129_9, e129_12, e129_14, e129_15, e129_16, e129_17, e129_20, e129_23, e129_24, e129_26, e129_27, e129_28, e129_29, e129_31, e129_34, e129_35, e129_38, e129_39, e129_40, e129_42, e129_43, e129_44, e129_46, e129_47, e129_48, e129_51, e129_53, e129_55, e129_58, e129_60, e129_63, e129_65, e129_67, e129_68, e129_69, e129_70, e129_71, e129_72, e129_74, e129_75, h1, c130 h1', c108, zrc_eq, zup_s, zup_n, zup_up, zal_i, zal_b, zal_z, zas_i, zas_b, zas_z, zan_eq, Option.toList_some, Option.toList_none, List.cons_append, List.nil_append, if_true, if_false, ite_true, ite_false, true_or, or_true, z10, z00, zl64, zw01]
  unfold aTell at K
  by_cases g1 : isTwo S.2.1.1 p d q e
  · rw [if_pos g1]
    by_cases g2 : 0 ≤ w ∧ w ≤ 1
    · rw [if_pos g2]
      rw [if_pos ⟨g1, g2⟩] at K
      simp (disch := omega) only [e129_0, e129_1, e129_2, e129_3, e129_4, e129_6, e129_9, e129_12, e129_14, e129_15, e129_16, e129_17, e129_20, e129_23, e129_24, e129_25, e129_26, e129_27, e129_28, e129_29, e129_31, e129_34, e129_35, e129_38, e129_39, e129_40, e129_42, e129_43, e129_44, e129_46, e129_47, e129_48, e129_51, e129_53, e129_55, e129_58, e129_60, e129_63, e129_65, e129_67, e129_68, e129_69, e129_70, e129_71, e129_72, e129_74, e129_75, h1, zrc_eq, zup_s, zup_n, zup_up, zal_i, zal_b, zal_z, zas_i, zas_b, zas_z, zan_eq, Option.toList_some, Option.toList_none, List.cons_append, List.nil_append, if_true, if_false, ite_true, ite_false, true_or, or_true]
      refine c131 hm' (fun h' a1 a2 a3 a4 => ?_)
      have e1' := (a4 53 (by omega)).trans h1'
      have kk : zMk' h h' S len at_ rp rj kp := ⟨⟨_, _, _, _, _, e1'⟩, a3, a4.mono (fun a ha => by omega)⟩
      have e1 := e1'
      unfold mObj at e1
      obtain ⟨mn, od, rk, n1, n2, n3, n4, n5, n6, n7, n8⟩ := pMn.ranks a1 a2 oIn
      have fin : ∀ (Q' : Option Value → Nat → zH → Prop), zE X 132 0 [some (.ref 53), some (.int (nI 0)), some (.int (nI (oN S (F 0)) - 1)), none, none, none] [] (N, 0, 0) h' Q' = Q' (some (.int (nI (tB (aA (oR S (F 0) p d q e)) 0 (oN S (F 0)))))) N h' := by
        intro Q'
        by_cases gn : oN S (F 0) = 0
        · rw [gn]
          simp (disch := omega) only [e132_0, e132_1, e132_2, e132_3, e132_7, e132_8, e132_11, e132_13, e132_14, e132_15, e132_19, e132_20, e132_23, e132_24, e132_25, e132_28, e132_30, e132_31, e132_34, e132_36, e132_37, e132_38, e132_39, e132_40, e132_43, e132_45, e132_46, e132_49, e132_51, e132_52, e132_53, e132_54, e132_57, e132_58, e132_61, e132_62, e132_63, e132_64, e132_67, e132_70, e132_73, e132_76, e132_77, zc0]
          rw [e132_5]
          simp (disch := omega) only [e132_0, e132_1, e132_2, e132_3, e132_7, e132_8, e132_11, e132_13, e132_14, e132_15, e132_19, e132_20, e132_23, e132_24, e132_25, e132_28, e132_30, e132_31, e132_34, e132_36, e132_37, e132_38, e132_39, e132_40, e132_43, e132_45, e132_46, e132_49, e132_51, e132_52, e132_53, e132_54, e132_57, e132_58, e132_61, e132_62, e132_63, e132_64, e132_67, e132_70, e132_73, e132_76, e132_77, show (nI 0 - 1 < nI 0) = True from by decide]
          rfl
        · have := c132 (X := X) (N := N) (Q := Q') (a := 0) (l := oN S (F 0)) e1' n3 n4 n5 n6 n7 n8 (by omega) (by omega)
          rw [show 0 + oN S (F 0) - 1 = oN S (F 0) - 1 by omega] at this
          rw [show nI (oN S (F 0)) - 1 = nI (oN S (F 0) - 1) from pk_sub (b := 1) (by omega)]
          exact this
      rw [nI_0] at fin
      by_cases g3 : w = 0
      · rw [if_pos g3] at K
        simp (disch := omega) only [e129_0, e129_1, e129_2, e129_3, e129_4, e129_6, e129_9, e129_12, e129_14, e129_15, e129_16, e129_17, e129_20, e129_23, e129_24, e129_25, e129_26, e129_27, e129_28, e129_29, e129_31, e129_34, e129_35, e129_38, e129_39, e129_42, e129_43, e129_44, e129_46, e129_47, e129_48, e129_51, e129_53, e129_55, e129_58, e129_60, e129_63, e129_65, e129_67, e129_68, e129_69, e129_70, e129_71, e129_72, e129_74, e129_75, Option.toList_none, List.nil_append, e1, n1, zal_i, zg10_0, zp10_0, zg10_1, zp10_1, zg10_2, zp10_2, zg10_3, zp10_3, zg10_4, zp10_4, zg10_5, zp10_5, zg10_6, zp10_6, zg10_7, zp10_7, zg10_8, zp10_8, zg10_9, zp10_9, zg10_10, zp10_10, zg10_11, zp10_11, zg10_12, zp10_12, zg10_13, zp10_13, zg10_14, zp10_14, zg10_15, zp10_15, zg10_16, zp10_16, zg10_17, zp10_17, zg10_18, zp10_18, zg10_19, zp10_19, zg10_20, zp10_20, zg10_21, zp10_21, zg10_22, zp10_22, zg10_23, zp10_23, zg10_24, zp10_24, zg10_25, zp10_25, zg10_26, zp10_26, zg10_27, zp10_27, zg10_28, zp10_28, zg10_29, zp10_29, zg10_30, zp10_30, zg10_31, zp10_31, zg10_32, zp10_32, nI_0.symm, n2]
        simp (disch := omega) only [e129_0, e129_1, e129_2, e129_3, e129_4, e129_6, e129_9, e129_12, e129_14, e129_15, e129_16, e129_17, e129_20, e129_23, e129_24, e129_25, e129_26, e129_27, e129_28, e129_29, e129_31, e129_34, e129_35, e129_38, e129_39, e129_40, e129_42, e129_43, e129_44, e129_46, e129_47, e129_48, e129_51, e129_53, e129_55, e129_58, e129_60, e129_63, e129_65, e129_67, e129_68, e129_69, e129_70, e129_71, e129_72, e129_74, e129_75, e1, zrc_eq, zup_s, zup_n, zup_up, zal_i, zal_b, zal_z, zas_i, zas_b, zas_z, zan_eq, Option.toList_some, Option.toList_none, List.cons_append, List.nil_append, if_true, if_false, ite_true, ite_false, true_or, or_true, fin, g3, ↓reduceIte]
        exact K h' kk
      · rw [if_neg g3] at K
        simp (disch := omega) only [e129_0, e129_1, e129_2, e129_3, e129_4, e129_6, e129_9, e129_12, e129_14, e129_15, e129_16, e129_17, e129_20, e129_23, e129_24, e129_25, e129_26, e129_27, e129_28, e129_29, e129_31, e129_34, e129_35, e129_38, e129_39, e129_42, e129_43, e129_44, e129_46, e129_47, e129_48, e129_51, e129_53, e129_55, e129_58, e129_60, e129_63, e129_65, e129_67, e129_68, e129_69, e129_70, e129_71, e129_72, e129_74, e129_75, Option.toList_none, List.nil_append, e1, n1, zal_i, zg10_0, zp10_0, zg10_1, zp10_1, zg10_2, zp10_2, zg10_3, zp10_3, zg10_4, zp10_4, zg10_5, zp10_5, zg10_6, zp10_6, zg10_7, zp10_7, zg10_8, zp10_8, zg10_9, zp10_9, zg10_10, zp10_10, zg10_11, zp10_11, zg10_12, zp10_12, zg10_13, zp10_13, zg10_14, zp10_14, zg10_15, zp10_15, zg10_16, zp10_16, zg10_17, zp10_17, zg10_18, zp10_18, zg10_19, zp10_19, zg10_20, zp10_20, zg10_21, zp10_21, zg10_22, zp10_22, zg10_23, zp10_23, zg10_24, zp10_24, zg10_25, zp10_25, zg10_26, zp10_26, zg10_27, zp10_27, zg10_28, zp10_28, zg10_29, zp10_29, zg10_30, zp10_30, zg10_31, zp10_31, zg10_32, zp10_32, nI_0.symm, n2]
        simp (disch := omega) only [e129_0, e129_1, e129_2, e129_3, e129_4, e129_6, e129_9, e129_12, e129_14, e129_15, e129_16, e129_17, e129_20, e129_23, e129_24, e129_25, e129_26, e129_27, e129_28, e129_29, e129_31, e129_34, e129_35, e129_38, e129_39, e129_40, e129_42, e129_43, e129_44, e129_46, e129_47, e129_48, e129_51, e129_53, e129_55, e129_58, e129_60, e129_63, e129_65, e129_67, e129_68, e129_69, e129_70, e129_71, e129_72, e129_74, e129_75, e1, zrc_eq, zup_s, zup_n, zup_up, zal_i, zal_b, zal_z, zas_i, zas_b, zas_z, zan_eq, Option.toList_some, Option.toList_none, List.cons_append, List.nil_append, if_true, if_false, ite_true, ite_false, true_or, or_true, fin, g3, ↓reduceIte, z20]
        exact K h' kk
    · rw [if_neg g2]
      rw [if_neg (fun z => g2 z.2)] at K
      exact K h rf
  · rw [if_neg g1]
    rw [if_neg (fun z => g1 z.1)] at K
    exact K h rf
set_option maxHeartbeats 1000000 in
theorem c135_51 {od rk mn : Nat → Int32} {np_ nj_ : Int32} {n s : Nat} {R f : Nat → Nat} {l1 l2 l3 l4 : Option Value} (h1 : h 53 = mObj len at_ rp rj np_ nj_ kp su lo dr ab be) (h0 : h 68 = .inl (.int, 2, mn)) (hmn : mn 0 = nI n) (h2 : h 69 = .inl (.int, 48, od)) (h3 : h 70 = .inl (.int, 48, rk)) (hn : n ≤ 24) (ho : ∀ j, j < n → od j = nI (f j)) (hf : ∀ j, j < n → f j < 24) (hR : ∀ j, j < n → rk (24 + f j) = nI (R j) ∧ R j < 24) (hs : 2 ≤ s) (hsn : s ≤ n) (K0 : ∀ a, a + s ≤ n → cG R a s → (∀ a', a' < a → ¬ cG R a' s) → Q (some (.int (if w = 0 then nI a else nI s))) N h) (K1 : (∀ a', a' + s ≤ n → ¬ cG R a' s) → ∀ l7, zE X 135 111 [some (.ref 53), l1, l2, l3, l4, some (.int w), some (.int (nI s)), l7] [] (N, 0, 0) h Q) : ∀ m a, m + (a + s) = n + 1 → (∀ a', a' < a → ¬ cG R a' s) → zE X 135 51 [some (.ref 53), l1, l2, l3, l4, some (.int w), some (.int (nI s)), some (.int (nI a))] [] (N, 0, 0) h Q := by
  have h1' := h1
  unfold mObj at h1
  intro m
  induction m with
  | zero =>
    intro a ha hb
    rw [e135_51]
    simp (disch := omega) only [e135_0, e135_1, e135_2, e135_3, e135_4, e135_6, e135_9, e135_12, e135_14, e135_15, e135_16, e135_17, e135_20, e135_23, e135_24, e135_25, e135_26, e135_27, e135_28, e135_29, e135_31, e135_34, e135_35, e135_38, e135_39, e135_40, e135_44, e135_45, e135_48, e135_49, e135_53, e135_55, e135_56, e135_57, e135_60, e135_61, e135_62, e135_65, e135_66, e135_67, e135_69, e135_71, e135_73, e135_74, e135_75, e135_76, e135_79, e135_80, e135_82, e135_84, e135_85, e135_86, e135_87, e135_88, e135_89, e135_92, e135_94, e135_97, e135_99, e135_102, e135_104, e135_105, e135_108, e135_114, e135_117, e135_119, h1, h0, hmn, zg10_0, zp10_0, zg10_1, zp10_1, zg10_2, zp10_2, zg10_3, zp10_3, zg10_4, zp10_4, zg10_5, zp10_5, zg10_6, zp10_6, zg10_7, zp10_7, zg10_8, zp10_8, zg10_9, zp10_9, zg10_10, zp10_10, zg10_11, zp10_11, zg10_12, zp10_12, zg10_13, zp10_13, zg10_14, zp10_14, zg10_15, zp10_15, zg10_16, zp10_16, zg10_17, zp10_17, zg10_18, zp10_18, zg10_19, zp10_19, zg10_20, zp10_20, zg10_21, zp10_21, zg10_22, zp10_22, zg10_23, zp10_23, zg10_24, zp10_24, zg10_25, zp10_25, zg10_26, zp10_26, zg10_27, zp10_27, zg10_28, zp10_28, zg10_29, zp10_29, zg10_30, zp10_30, zg10_31, zp10_31, zg10_32, zp10_32, zrc_eq, zup_s, zup_n, zup_up, zal_i, zal_b, zal_z, zas_i, zas_b, zas_z, zan_eq, Option.toList_some, Option.toList_none, List.cons_append, List.nil_append, if_true, if_false, ite_true, ite_false, true_or, or_true, zc0, nI_add, znI_lt, if_pos]
    exact K1 (fun a' ha' => hb a' (by omega)) _
  | succ m ih =>
    intro a ha hb
    have b1 := tB_le (R := R) (a := a) (n := s) (by omega)
    have b2 := prs_le (n := s) (by omega)
    have e := fun Q' => c132 (X := X) (N := N) (Q := Q') (a := a) (l := s) h1' h2 h3 hn ho hf hR (by omega) (by omega)
    have ei : nI (a + s) - 1 = nI (a + s - 1) := pk_sub (b := 1) (by omega)
    have e2 : (2 : Int32) * nI (tB (aA R) a s) = nI (2 * tB (aA R) a s) := by rw [zc2, pk_mul]
    have ep : nI s * (nI s - 1) / 2 = nI (prs s) := by
      rw [show nI s - 1 = nI (s - 1) from pk_sub (b := 1) (by omega), pk_mul, ← prs_eq, zc2, pk_div (by omega) (by omega) (by omega), Nat.mul_div_cancel_left _ (by omega)]
    rw [e135_51]
    simp (disch := omega) only [e135_0, e135_1, e135_2, e135_3, e135_4, e135_6, e135_9, e135_12, e135_14, e135_15, e135_16, e135_17, e135_20, e135_23, e135_24, e135_25, e135_26, e135_27, e135_28, e135_29, e135_31, e135_34, e135_35, e135_38, e135_39, e135_40, e135_44, e135_45, e135_48, e135_49, e135_53, e135_55, e135_56, e135_57, e135_60, e135_61, e135_62, e135_66, e135_67, e135_69, e135_71, e135_73, e135_74, e135_75, e135_76, e135_79, e135_80, e135_82, e135_84, e135_85, e135_86, e135_87, e135_88, e135_89, e135_92, e135_94, e135_97, e135_99, e135_102, e135_104, e135_105, e135_108, e135_114, e135_117, e135_119, h1, h0, hmn, zg10_0, zp10_0, zg10_1, zp10_1, zg10_2, zp10_2, zg10_3, zp10_3, zg10_4, zp10_4, zg10_5, zp10_5, zg10_6, zp10_6, zg10_7, zp10_7, zg10_8, zp10_8, zg10_9, zp10_9, zg10_10, zp10_10, zg10_11, zp10_11, zg10_12, zp10_12, zg10_13, zp10_13, zg10_14, zp10_14, zg10_15, zp10_15, zg10_16, zp10_16, zg10_17, zp10_17, zg10_18, zp10_18, zg10_19, zp10_19, zg10_20, zp10_20, zg10_21, zp10_21, zg10_22, zp10_22, zg10_23, zp10_23, zg10_24, zp10_24, zg10_25, zp10_25, zg10_26, zp10_26, zg10_27, zp10_27, zg10_28, zp10_28, zg10_29, zp10_29, zg10_30, zp10_30, zg10_31, zp10_31, zg10_32, zp10_32, zrc_eq, zup_s, zup_n, zup_up, zal_i, zal_b, zal_z, zas_i, zas_b, zas_z, zan_eq, Option.toList_some, Option.toList_none, List.cons_append, List.nil_append, if_true, if_false, ite_true, ite_false, true_or, or_true, nI_add, znI_lt, if_neg, zc0]
    simp (disch := omega) only [e135_0, e135_1, e135_2, e135_3, e135_4, e135_6, e135_9, e135_12, e135_14, e135_15, e135_16, e135_17, e135_20, e135_23, e135_24, e135_25, e135_26, e135_27, e135_28, e135_29, e135_31, e135_34, e135_35, e135_38, e135_39, e135_40, e135_44, e135_45, e135_48, e135_49, e135_53, e135_55, e135_56, e135_57, e135_60, e135_61, e135_62, e135_65, e135_66, e135_67, e135_69, e135_71, e135_73, e135_74, e135_75, e135_76, e135_79, e135_80, e135_82, e135_84, e135_85, e135_86, e135_87, e135_88, e135_92, e135_94, e135_97, e135_99, e135_102, e135_104, e135_105, e135_108, e135_114, e135_117, e135_119, h1, zrc_eq, zup_s, zup_n, zup_up, zal_i, zal_b, zal_z, zas_i, zas_b, zas_z, zan_eq, Option.toList_some, Option.toList_none, List.cons_append, List.nil_append, if_true, if_false, ite_true, ite_false, true_or, or_true, e, ei, e2, ep, nI_add, z20]
    rw [e135_89]
    simp (disch := omega) only [znI_lt]
    by_cases g : cG R a s
    · have g' : ¬ prs s < 2 * tB (aA R) a s := by have : 2 * tB (aA R) a s ≤ prs s := g; omega
      rw [if_neg g']
      have k0 := K0 a (by omega) g hb
      by_cases g4 : w = 0
      · rw [if_pos g4] at k0
        simp (disch := omega) only [e135_0, e135_1, e135_2, e135_3, e135_4, e135_6, e135_9, e135_12, e135_14, e135_15, e135_16, e135_17, e135_20, e135_23, e135_24, e135_25, e135_26, e135_27, e135_28, e135_29, e135_31, e135_34, e135_35, e135_38, e135_39, e135_40, e135_44, e135_45, e135_48, e135_49, e135_53, e135_55, e135_56, e135_57, e135_60, e135_61, e135_62, e135_65, e135_66, e135_67, e135_69, e135_71, e135_73, e135_74, e135_75, e135_76, e135_79, e135_80, e135_82, e135_84, e135_85, e135_86, e135_87, e135_88, e135_89, e135_92, e135_94, e135_97, e135_99, e135_102, e135_104, e135_105, e135_108, e135_114, e135_117, e135_119, g4, ↓reduceIte]
        exact k0
      · rw [if_neg g4] at k0
        simp (disch := omega) only [e135_0, e135_1, e135_2, e135_3, e135_4, e135_6, e135_9, e135_12, e135_14, e135_15, e135_16, e135_17, e135_20, e135_23, e135_24, e135_25, e135_26, e135_27, e135_28, e135_29, e135_31, e135_34, e135_35, e135_38, e135_39, e135_40, e135_44, e135_45, e135_48, e135_49, e135_53, e135_55, e135_56, e135_57, e135_60, e135_61, e135_62, e135_65, e135_66, e135_67, e135_69, e135_71, e135_73, e135_74, e135_75, e135_76, e135_79, e135_80, e135_82, e135_84, e135_85, e135_86, e135_87, e135_88, e135_89, e135_92, e135_94, e135_97, e135_99, e135_102, e135_104, e135_105, e135_108, e135_114, e135_117, e135_119, g4, ↓reduceIte]
        exact k0
    · have g' : prs s < 2 * tB (aA R) a s := Nat.lt_of_not_le g
      rw [if_pos g']
      simp (disch := omega) only [e135_0, e135_1, e135_2, e135_3, e135_4, e135_6, e135_9, e135_12, e135_14, e135_15, e135_16, e135_17, e135_20, e135_23, e135_24, e135_25, e135_26, e135_27, e135_28, e135_29, e135_31, e135_34, e135_35, e135_38, e135_39, e135_40, e135_44, e135_45, e135_48, e135_49, e135_53, e135_55, e135_56, e135_57, e135_60, e135_61, e135_62, e135_65, e135_66, e135_67, e135_69, e135_71, e135_73, e135_74, e135_75, e135_76, e135_79, e135_80, e135_82, e135_84, e135_85, e135_86, e135_87, e135_88, e135_89, e135_92, e135_94, e135_97, e135_99, e135_102, e135_104, e135_105, e135_108, e135_114, e135_117, e135_119, nI_1]
      exact ih (a + 1) (by omega) (fun a' ha' => by
        by_cases q : a' = a
        · rw [q]; exact g
        · exact hb a' (by omega))
set_option maxHeartbeats 1000000 in
theorem c135_42 {od rk mn : Nat → Int32} {np_ nj_ : Int32} {n : Nat} {R f : Nat → Nat} {l1 l2 l3 l4 : Option Value} (h1 : h 53 = mObj len at_ rp rj np_ nj_ kp su lo dr ab be) (h0 : h 68 = .inl (.int, 2, mn)) (hmn : mn 0 = nI n) (h2 : h 69 = .inl (.int, 48, od)) (h3 : h 70 = .inl (.int, 48, rk)) (hn : n ≤ 24) (ho : ∀ j, j < n → od j = nI (f j)) (hf : ∀ j, j < n → f j < 24) (hR : ∀ j, j < n → rk (24 + f j) = nI (R j) ∧ R j < 24) (K : ∀ v, (∃ fi L, cB (cL n n 1) (cG R) fi L ∧ v = if L = 0 then -4 else if w = 0 then nI fi else nI L) → Q (some (.int v)) N h) : ∀ (s : Nat) (l7 : Option Value), s ≤ n → (∀ a' l', a' + l' ≤ n → s < l' → 2 ≤ l' → ¬ cG R a' l') → zE X 135 42 [some (.ref 53), l1, l2, l3, l4, some (.int w), some (.int (nI s)), l7] [] (N, 0, 0) h Q := by
  intro s
  induction s with
  | zero =>
    intro l7 hs hb
    rw [e135_42]
    simp (disch := omega) only [e135_0, e135_1, e135_2, e135_3, e135_4, e135_6, e135_9, e135_12, e135_14, e135_15, e135_16, e135_17, e135_20, e135_23, e135_24, e135_25, e135_26, e135_27, e135_28, e135_29, e135_31, e135_34, e135_35, e135_38, e135_39, e135_40, e135_44, e135_45, e135_48, e135_49, e135_53, e135_55, e135_56, e135_57, e135_60, e135_61, e135_62, e135_65, e135_66, e135_67, e135_69, e135_71, e135_73, e135_74, e135_75, e135_76, e135_79, e135_80, e135_82, e135_84, e135_85, e135_86, e135_87, e135_88, e135_89, e135_92, e135_94, e135_97, e135_99, e135_102, e135_104, e135_105, e135_108, e135_111, e135_114, e135_117, e135_119, zc1, znI_le, if_pos]
    exact K _ ⟨0, 0, Or.inl ⟨rfl, fun a l c => by obtain ⟨c1, c2, c3⟩ := c; exact hb a l c2 (by omega) c1⟩, rfl⟩
  | succ s ih =>
    intro l7 hs hb
    by_cases g : s = 0
    · subst g
      rw [e135_42]
      simp (disch := omega) only [e135_0, e135_1, e135_2, e135_3, e135_4, e135_6, e135_9, e135_12, e135_14, e135_15, e135_16, e135_17, e135_20, e135_23, e135_24, e135_25, e135_26, e135_27, e135_28, e135_29, e135_31, e135_34, e135_35, e135_38, e135_39, e135_40, e135_44, e135_45, e135_48, e135_49, e135_53, e135_55, e135_56, e135_57, e135_60, e135_61, e135_62, e135_65, e135_66, e135_67, e135_69, e135_71, e135_73, e135_74, e135_75, e135_76, e135_79, e135_80, e135_82, e135_84, e135_85, e135_86, e135_87, e135_88, e135_89, e135_92, e135_94, e135_97, e135_99, e135_102, e135_104, e135_105, e135_108, e135_111, e135_114, e135_117, e135_119, zc1, znI_le, if_pos]
      exact K _ ⟨0, 0, Or.inl ⟨rfl, fun a l c => by obtain ⟨c1, c2, c3⟩ := c; exact hb a l c2 (by omega) c1⟩, rfl⟩
    · rw [e135_42]
      simp (disch := omega) only [e135_0, e135_1, e135_2, e135_3, e135_4, e135_6, e135_9, e135_12, e135_14, e135_15, e135_16, e135_17, e135_20, e135_23, e135_24, e135_25, e135_26, e135_27, e135_28, e135_29, e135_31, e135_34, e135_35, e135_38, e135_39, e135_40, e135_44, e135_45, e135_48, e135_49, e135_53, e135_55, e135_56, e135_57, e135_60, e135_61, e135_62, e135_65, e135_66, e135_67, e135_69, e135_71, e135_73, e135_74, e135_75, e135_76, e135_79, e135_80, e135_82, e135_84, e135_85, e135_86, e135_87, e135_88, e135_89, e135_92, e135_94, e135_97, e135_99, e135_102, e135_104, e135_105, e135_108, e135_111, e135_114, e135_117, e135_119, zc0, zc1, znI_le, if_neg]
      refine c135_51 h1 h0 hmn h2 h3 hn ho hf hR (by omega) hs (fun a ha hg hl => K _ ⟨a, s + 1, Or.inr ⟨⟨by omega, ha, by omega⟩, hg, fun a' l' c hg' => ?_⟩, (if_neg (Nat.succ_ne_zero s)).symm⟩) (fun hno l7 => ?_) (n + 1 - (0 + (s + 1))) 0 (by omega) (fun a' ha' => absurd ha' (Nat.not_lt_zero a'))
      · obtain ⟨c1, c2, c3⟩ := c
        by_cases q : l' < s + 1
        · exact Or.inl q
        · by_cases q2 : l' = s + 1
          · refine Or.inr ⟨q2, ?_⟩
            apply Classical.byContradiction
            intro q3
            rw [q2] at hg'
            exact hl a' (by omega) hg'
          · exact absurd hg' (hb a' l' c2 (by omega) c1)
      · simp (disch := omega) only [e135_0, e135_1, e135_2, e135_3, e135_4, e135_6, e135_9, e135_12, e135_14, e135_15, e135_16, e135_17, e135_20, e135_23, e135_24, e135_25, e135_26, e135_27, e135_28, e135_29, e135_31, e135_34, e135_35, e135_38, e135_39, e135_40, e135_44, e135_45, e135_48, e135_49, e135_53, e135_55, e135_56, e135_57, e135_60, e135_61, e135_62, e135_65, e135_66, e135_67, e135_69, e135_71, e135_73, e135_74, e135_75, e135_76, e135_79, e135_80, e135_82, e135_84, e135_85, e135_86, e135_87, e135_88, e135_89, e135_92, e135_94, e135_97, e135_99, e135_102, e135_104, e135_105, e135_108, e135_111, e135_114, e135_117, e135_119, pk_m1]
        refine ih _ (by omega) (fun a' l' x1 x2 x3 => ?_)
        by_cases q2 : l' = s + 1
        · rw [q2]; exact hno a' (by omega)
        · exact hb a' l' x1 (by omega) x3
set_option maxHeartbeats 1000000 in
theorem c135 (hm : zMR h S D F len at_ rp rj kp su lo dr ab be) (K : ∀ h' v, aCoin S (F 0) p d q e w v → zMk' h h' S len at_ rp rj kp → Q (some (.int v)) N h') : zE X 135 0 [some (.ref 53), some (.int p), some (.int d), some (.int q), some (.int e), some (.int w), none, none] [] (N, 0, 0) h Q := by
  have hm' := hm
  obtain ⟨h1, hs, ok, hT, hD, ms⟩ := hm
  have h1' := h1
  have rf : zMk' h h S len at_ rp rj kp := ⟨⟨_, _, _, _, _, h1⟩, ms, zfr.rf⟩
  unfold mObj at h1
  simp only [e135_0, e135_1, e135_2, e135_3, e135_4, e135_6, e135_9, e135_12, e135_14, e135_15, e135_16, e135_17, e135_20, e135_23, e135_24, e135_26, e135_27, e135_28, e135_29, e135_31, e135_34, e135_35, e135_38, e135_39, e135_40, e135_44, e135_45, e135_48, e135_49, e135_53, e135_55, e135_56, e135_57, e135_60, e135_61, e135_62, e135_65, e135_66, e135_67, e135_69, e135_71, e135_73, e135_74, e135_75, e135_76, e135_79, e135_80, e135_82, e135_84, e135_85, e135_86, e135_87, e135_88, e135_89, e135_92, e135_94, e135_97, e135_99, e135_102, e135_104, e135_105, e135_108, e135_111, e135_114, e135_117, e135_119, h1, c130 h1', c108, zrc_eq, zup_s, zup_n, zup_up, zal_i, zal_b, zal_z, zas_i, zas_b, zas_z, zan_eq, Option.toList_some, Option.toList_none, List.cons_append, List.nil_append, if_true, if_false, ite_true, ite_false, true_or, or_true, z10, z00, zl64, zw01]
  unfold aCoin at K
  by_cases g1 : isTwo S.2.1.1 p d q e
  · rw [if_pos g1]
    by_cases g2 : 0 ≤ w ∧ w ≤ 1
    · rw [if_pos g2]
      have gg : isTwo S.2.1.1 p d q e ∧ (0 ≤ w ∧ w ≤ 1) := ⟨g1, g2⟩
      simp (disch := omega) only [e135_0, e135_1, e135_2, e135_3, e135_4, e135_6, e135_9, e135_12, e135_14, e135_15, e135_16, e135_17, e135_20, e135_23, e135_24, e135_25, e135_26, e135_27, e135_28, e135_29, e135_31, e135_34, e135_35, e135_38, e135_39, e135_40, e135_44, e135_45, e135_48, e135_49, e135_53, e135_55, e135_56, e135_57, e135_60, e135_61, e135_62, e135_65, e135_66, e135_67, e135_69, e135_71, e135_73, e135_74, e135_75, e135_76, e135_79, e135_80, e135_82, e135_84, e135_85, e135_86, e135_87, e135_88, e135_89, e135_92, e135_94, e135_97, e135_99, e135_102, e135_104, e135_105, e135_108, e135_111, e135_114, e135_117, e135_119, h1, zrc_eq, zup_s, zup_n, zup_up, zal_i, zal_b, zal_z, zas_i, zas_b, zas_z, zan_eq, Option.toList_some, Option.toList_none, List.cons_append, List.nil_append, if_true, if_false, ite_true, ite_false, true_or, or_true]
      refine c131 hm' (fun h' a1 a2 a3 a4 => ?_)
      have e1' := (a4 53 (by omega)).trans h1'
      have kk : zMk' h h' S len at_ rp rj kp := ⟨⟨_, _, _, _, _, e1'⟩, a3, a4.mono (fun a ha => by omega)⟩
      have e1 := e1'
      unfold mObj at e1
      obtain ⟨mn, od, rk, n1, n2, n3, n4, n5, n6, n7, n8⟩ := pMn.ranks a1 a2 oIn
      simp (disch := omega) only [e135_0, e135_1, e135_2, e135_3, e135_4, e135_6, e135_9, e135_12, e135_14, e135_15, e135_16, e135_17, e135_20, e135_23, e135_24, e135_25, e135_26, e135_27, e135_28, e135_29, e135_31, e135_34, e135_35, e135_38, e135_39, e135_40, e135_44, e135_45, e135_48, e135_49, e135_53, e135_55, e135_56, e135_57, e135_60, e135_61, e135_62, e135_65, e135_66, e135_67, e135_69, e135_71, e135_73, e135_74, e135_75, e135_76, e135_79, e135_80, e135_82, e135_84, e135_85, e135_86, e135_87, e135_88, e135_89, e135_92, e135_94, e135_97, e135_99, e135_102, e135_104, e135_105, e135_108, e135_111, e135_114, e135_117, e135_119, Option.toList_none, List.nil_append, e1, n1, zg10_0, zp10_0, zg10_1, zp10_1, zg10_2, zp10_2, zg10_3, zp10_3, zg10_4, zp10_4, zg10_5, zp10_5, zg10_6, zp10_6, zg10_7, zp10_7, zg10_8, zp10_8, zg10_9, zp10_9, zg10_10, zp10_10, zg10_11, zp10_11, zg10_12, zp10_12, zg10_13, zp10_13, zg10_14, zp10_14, zg10_15, zp10_15, zg10_16, zp10_16, zg10_17, zp10_17, zg10_18, zp10_18, zg10_19, zp10_19, zg10_20, zp10_20, zg10_21, zp10_21, zg10_22, zp10_22, zg10_23, zp10_23, zg10_24, zp10_24, zg10_25, zp10_25, zg10_26, zp10_26, zg10_27, zp10_27, zg10_28, zp10_28, zg10_29, zp10_29, zg10_30, zp10_30, zg10_31, zp10_31, zg10_32, zp10_32, zrc_eq, zup_s, zup_n, zup_up, zal_i, zal_b, zal_z, zas_i, zas_b, zas_z, zan_eq, Option.toList_some, Option.toList_none, List.cons_append, List.nil_append, if_true, if_false, ite_true, ite_false, true_or, or_true, zc0, n2]
      exact c135_42 e1' n1 n2 n3 n4 n5 n6 n7 n8 (fun v hv => K h' v (by rw [if_pos gg]; exact hv) kk) _ _ (Nat.le_refl _) (fun a' l' x1 x2 x3 => by omega)
    · rw [if_neg g2]
      exact K h _ (by rw [if_neg (fun z => g2 z.2)]) rf
  · rw [if_neg g1]
    exact K h _ (by rw [if_neg (fun z => g1 z.1)]) rf
end C38
