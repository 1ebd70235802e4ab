-- pictures of the reads; mark, order, tell, coin of the class
section C37
def qSp (h : zH) : Prop := ∃ (a b c d e : Int32) (f g : Nat → Int32), h 45 = .inr (6, [.int a, .int b, .int c, .int d, .int e, .ref 46, .ref 47]) ∧ h 46 = .inl (.int, 24, f) ∧ h 47 = .inl (.int, 24, g)
def qSt (h : zH) : Prop := ∃ a b : Int32, h 48 = .inr (7, [.int a, .int b])
def qRa (h : zH) : Prop := ∃ a b : Int32, h 49 = .inr (3, [.int a, .int b])
def qBo (h : zH) : Prop := ∃ (a b c d e : Int32) (f : Nat → Int32), h 50 = .inr (0, [.int a, .int b, .int c, .int d, .int e, .ref 51]) ∧ h 51 = .inl (.int, 25, f)
def qPa (h : zH) : Prop := ∃ f : Nat → Int32, h 52 = .inl (.int, 30, f)
variable {h h' : zH} {P : Nat → Prop}
set_option maxHeartbeats 1000000 in
theorem qSp.kept (q : qSp h) (hf : zfr P h h') (hP : ∀ a, 45 ≤ a → a ≤ 47 → ¬ P a) : qSp h' := by
  obtain ⟨a, b, c, d, e, f, g, h1, h2, h3⟩ := q
  exact ⟨a, b, c, d, e, f, g, (hf _ (hP _ (by omega) (by omega))).trans h1, (hf _ (hP _ (by omega) (by omega))).trans h2, (hf _ (hP _ (by omega) (by omega))).trans h3⟩
set_option maxHeartbeats 1000000 in
theorem qSt.kept (q : qSt h) (hf : zfr P h h') (hP : ∀ a, 48 ≤ a → a ≤ 48 → ¬ P a) : qSt h' := by
  obtain ⟨a, b, h1⟩ := q
  exact ⟨a, b, (hf _ (hP _ (by omega) (by omega))).trans h1⟩
set_option maxHeartbeats 1000000 in
theorem qRa.kept (q : qRa h) (hf : zfr P h h') (hP : ∀ a, 49 ≤ a → a ≤ 49 → ¬ P a) : qRa h' := by
  obtain ⟨a, b, h1⟩ := q
  exact ⟨a, b, (hf _ (hP _ (by omega) (by omega))).trans h1⟩
set_option maxHeartbeats 1000000 in
theorem qBo.kept (q : qBo h) (hf : zfr P h h') (hP : ∀ a, 50 ≤ a → a ≤ 51 → ¬ P a) : qBo h' := by
  obtain ⟨a, b, c, d, e, f, h1, h2⟩ := q
  exact ⟨a, b, c, d, e, f, (hf _ (hP _ (by omega) (by omega))).trans h1, (hf _ (hP _ (by omega) (by omega))).trans h2⟩
set_option maxHeartbeats 1000000 in
theorem qPa.kept (q : qPa h) (hf : zfr P h h') (hP : ∀ a, 52 ≤ a → a ≤ 52 → ¬ P a) : qPa h' := by
  obtain ⟨f, h1⟩ := q
  exact ⟨f, (hf _ (hP _ (by omega) (by omega))).trans h1⟩
/-- the class's cells that no answer rests on beyond the call -/
def zCS (h : zH) : Prop := pR0 h 37 ∧ pR0 h 41 ∧ qSp h ∧ qSt h ∧ qRa h ∧ qBo h ∧ qPa h
set_option maxHeartbeats 1000000 in
theorem zCS.two (c : zCS h) (hf : zfr (fun a => 37 ≤ a ∧ a ≤ 44) h h') (r1 : pR0 h' 37) (r2 : pR0 h' 41) : zCS h' := by
  obtain ⟨-, -, c3, c4, c5, c6, c7⟩ := c
  exact ⟨r1, r2, c3.kept hf (by omega), c4.kept hf (by omega), c5.kept hf (by omega), c6.kept hf (by omega), c7.kept hf (by omega)⟩
set_option maxHeartbeats 1000000 in
theorem zCS.sp (c : zCS h) (hf : zfr (fun a => 45 ≤ a ∧ a ≤ 47) h h') (r : qSp h') : zCS h' := by
  obtain ⟨c1, c2, -, c4, c5, c6, c7⟩ := c
  exact ⟨c1.kept hf (by omega), c2.kept hf (by omega), r, c4.kept hf (by omega), c5.kept hf (by omega), c6.kept hf (by omega), c7.kept hf (by omega)⟩
set_option maxHeartbeats 1000000 in
theorem zCS.st (c : zCS h) (hf : zfr (fun a => a = 48) h h') (r : qSt h') : zCS h' := by
  obtain ⟨c1, c2, c3, -, c5, c6, c7⟩ := c
  exact ⟨c1.kept hf (by omega), c2.kept hf (by omega), c3.kept hf (by omega), r, c5.kept hf (by omega), c6.kept hf (by omega), c7.kept hf (by omega)⟩
set_option maxHeartbeats 1000000 in
theorem zCS.ra (c : zCS h) (hf : zfr (fun a => a = 49) h h') (r : qRa h') : zCS h' := by
  obtain ⟨c1, c2, c3, c4, -, c6, c7⟩ := c
  exact ⟨c1.kept hf (by omega), c2.kept hf (by omega), c3.kept hf (by omega), c4.kept hf (by omega), r, c6.kept hf (by omega), c7.kept hf (by omega)⟩
set_option maxHeartbeats 1000000 in
theorem zCS.bo (c : zCS h) (hf : zfr (fun a => 50 ≤ a ∧ a ≤ 51) h h') (r : qBo h') : zCS h' := by
  obtain ⟨c1, c2, c3, c4, c5, -, c7⟩ := c
  exact ⟨c1.kept hf (by omega), c2.kept hf (by omega), c3.kept hf (by omega), c4.kept hf (by omega), c5.kept hf (by omega), r, c7.kept hf (by omega)⟩
set_option maxHeartbeats 1000000 in
theorem zCS.pa (c : zCS h) (hf : zfr (fun a => a = 52) h h') (r : qPa h') : zCS h' := by
  obtain ⟨c1, c2, c3, c4, c5, c6, -⟩ := c
  exact ⟨c1.kept hf (by omega), c2.kept hf (by omega), c3.kept hf (by omega), c4.kept hf (by omega), c5.kept hf (by omega), c6.kept hf (by omega), r⟩
set_option maxHeartbeats 1000000 in
theorem zCS.kept (c : zCS h) (hf : zfr P h h') (hP : ∀ a, 37 ≤ a → a ≤ 52 → ¬ P a) : zCS h' := by
  obtain ⟨c1, c2, c3, c4, c5, c6, c7⟩ := c
  exact ⟨c1.kept hf (fun a x y => hP a (by omega) (by omega)), c2.kept hf (fun a x y => hP a (by omega) (by omega)), c3.kept hf (fun a x y => hP a (by omega) (by omega)), c4.kept hf (fun a x y => hP a (by omega) (by omega)), c5.kept hf (fun a x y => hP a (by omega) (by omega)), c6.kept hf (fun a x y => hP a (by omega) (by omega)), c7.kept hf (fun a x y => hP a (by omega) (by omega))⟩
/-- the class, as far as reads need it -/
def zCR (h : zH) (ld dr : Nat) (kp : Int32) (S : zSh) (T : zTm) : Prop := h 0 = pObj ld dr kp ∧ ((ld = 4 ∧ dr = 12) ∨ (ld = 12 ∧ dr = 4)) ∧ pSh h ld S ∧ sK S ∧ pTm h 21 T ∧ zCS h
abbrev zcf (h h' : zH) : Prop := zfr (fun a => 37 ≤ a ∧ a ≤ 52) h h'
set_option maxHeartbeats 1000000 in
theorem zO_n {S : zSh} {T : zTm} {p d q e hc hc' : Int32} : ∀ k, (zO S T p d hc k).1 = (zO S T q e hc' k).1
  | 0 => rfl
  | k + 1 => by
    rw [zO, zO]
    split
    · show _ + 1 = _ + 1; rw [zO_n k]
    · exact zO_n k
set_option maxHeartbeats 1000000 in
theorem zO_in {S : zSh} {T : zTm} {p d q e hc hc' : Int32} {m : Nat} : ∀ k, k < (zO S T p d hc m).1 → ∃ j, j < (zO S T p d hc m).1 ∧ (zO S T q e hc' m).2 j = (zO S T p d hc m).2 k := by
  intro k hk
  have h1 := (zO_ok (S := S) (T := T) (p := p) (d := d) (hc := hc) m).2.1 k hk
  obtain ⟨j, hj, ee⟩ := (zO_ok (S := S) (T := T) (p := q) (d := e) (hc := hc') m).2.2.1 _ h1.1 h1.2
  exact ⟨j, by rw [zO_n (q := q) (e := e) (hc' := hc')]; exact hj, ee⟩
end C37
section C37b
variable {X : Nat × (Nat → Int32)} {N : Nat} {h : zH} {Q : Option Value → Nat → zH → Prop} {S : zSh} {T : zTm} {ld dd : Nat} {kp i j p q d e r w : Int32}
set_option maxHeartbeats 1000000 in
theorem isNo.nat {n : Nat} {i : Int32} (h : isNo n i) (hn : n < 2 ^ 31) : ∃ k, k < n ∧ i = nI k := by
  obtain ⟨h1, h2⟩ := h
  have := Int32.le_iff_toInt_le.mp h1
  have := Int32.lt_iff_toInt_lt.mp h2
  rw [nI_toInt hn] at this
  have z : (0 : Int32).toInt = 0 := by decide
  refine ⟨i.toInt.toNat, by omega, ?_⟩
  apply Int32.toInt_inj.mp
  rw [nI_toInt (by omega)]
  omega
def aMark (S : zSh) (T : zTm) (i j d : Int32) : Int32 := if isNo S.1.1 i ∧ isNo S.2.1.1 j ∧ isDr d then zMk S d (T.1 (sA S i.toNatClampNeg)) i.toNatClampNeg j.toNatClampNeg else -1
set_option maxHeartbeats 1000000 in
theorem c34 (hc : zCR h ld dd kp S T) : zE X 34 0 [some (.ref 0), some (.int i), some (.int j), some (.int d)] [] (N, 0, 0) h Q = Q (some (.int (aMark S T i j d))) N h := by
  obtain ⟨h0, hd, hs, ok, ht, -⟩ := hc
  have h0' := h0
  unfold pObj at h0
  have b1 := ok.1.1
  have b2 := ok.2.1.1
  simp only [e34_0, e34_1, e34_2, e34_5, e34_8, e34_9, e34_10, e34_13, e34_16, e34_17, e34_20, e34_23, e34_24, e34_26, e34_29, e34_30, e34_31, e34_32, e34_33, e34_36, e34_37, e34_40, e34_43, e34_44, e34_45, e34_48, e34_51, h0, c35 h0' hs, c36 h0' hs, c37, zrc_eq, zup_s, zup_n, zup_up, zal_i, zal_b, zal_z, zas_i, zas_b, zas_z, zan_eq, Option.toList_some, Option.toList_none, List.cons_append, List.nil_append, if_true, if_false, ite_true, ite_false, true_or, or_true, z10, z00]
  unfold aMark
  by_cases g1 : isNo S.1.1 i
  · rw [if_pos g1]
    by_cases g2 : isNo S.2.1.1 j
    · rw [if_pos g2]
      by_cases g3 : isDr d
      · rw [if_pos g3, if_pos ⟨g1, g2, g3⟩]
        obtain ⟨a, ha, rfl⟩ := g1.nat (by omega)
        obtain ⟨b, hb, rfl⟩ := g2.nat (by omega)
        rw [nI_clamp (by omega), nI_clamp (by omega)]
        obtain ⟨ea, ha8⟩ := ok.au ha
        obtain ⟨fs, ht1⟩ := ht.obj
        have hsa : ∃ v1 v2 v4 v5 v6 v7 v8 v9 v10 v11 v12 v13 v14 v15, h ld = .inr (5, [.int (nI S.1.1), v1, v2, .ref (ld + 3), v4, v5, v6, v7, v8, v9, v10, v11, v12, v13, v14, v15]) ∧ h (ld + 3) = .inl (.int, 24, S.1.2.2.2) := by
          clear ht1
          obtain ⟨⟨np, wo, sa, au⟩, ⟨nj, le, fo, ro⟩, ⟨pa, pb, pc⟩, ⟨co, hx, hy⟩, hf, pt⟩ := S
          exact ⟨_, _, _, _, _, _, _, _, _, _, _, _, _, _, hs.1, hs.2.2.2.1⟩
        obtain ⟨v1, v2, v4, v5, v6, v7, v8, v9, v10, v11, v12, v13, v14, v15, s1, s2⟩ := hsa
        simp (disch := omega) only [e34_0, e34_1, e34_2, e34_5, e34_8, e34_9, e34_10, e34_13, e34_16, e34_17, e34_20, e34_23, e34_24, e34_25, e34_26, e34_29, e34_30, e34_31, e34_32, e34_33, e34_36, e34_37, e34_40, e34_43, e34_44, e34_45, e34_48, e34_51, h0, s1, s2, zg9_0, zp9_0, zg9_1, zp9_1, zg9_2, zp9_2, zg9_3, zp9_3, zg9_4, zp9_4, zg9_5, zp9_5, zg9_6, zp9_6, zg9_7, zp9_7, zg9_8, zp9_8, zg9_9, zp9_9, zg9_10, zp9_10, zg9_11, zp9_11, zg9_12, zp9_12, zg9_13, zp9_13, zg9_14, zp9_14, zg9_15, zp9_15, zg9_16, zp9_16, zg5_0, zp5_0, zg5_1, zp5_1, zg5_2, zp5_2, zg5_3, zp5_3, zg5_4, zp5_4, zg5_5, zp5_5, zg5_6, zp5_6, zg5_7, zp5_7, zg5_8, zp5_8, zg5_9, zp5_9, zg5_10, zp5_10, zg5_11, zp5_11, zg5_12, zp5_12, zg5_13, zp5_13, zg5_14, zp5_14, zg5_15, zp5_15, zrc_eq, zup_s, zup_n, zup_up, zal_i, zal_b, zal_z, zas_i, zas_b, zas_z, zan_eq, Option.toList_some, Option.toList_none, List.cons_append, List.nil_append, if_true, if_false, ite_true, ite_false, true_or, or_true]
        rw [ea]
        simp (disch := omega) only [e34_0, e34_1, e34_2, e34_5, e34_8, e34_9, e34_10, e34_13, e34_16, e34_17, e34_20, e34_23, e34_24, e34_25, e34_26, e34_29, e34_30, e34_31, e34_32, e34_33, e34_36, e34_37, e34_40, e34_43, e34_44, e34_45, e34_48, e34_51, ht1, c38 ht, s1, zrc_eq, zup_s, zup_n, zup_up, zal_i, zal_b, zal_z, zas_i, zas_b, zas_z, zan_eq, Option.toList_some, Option.toList_none, List.cons_append, List.nil_append, if_true, if_false, ite_true, ite_false, true_or, or_true, c39 hs ok ha hb]
      · rw [if_neg g3, if_neg (fun z => g3 z.2.2)]
    · rw [if_neg g2, if_neg (fun z => g2 z.2.1)]
  · rw [if_neg g1, if_neg (fun z => g1 z.1)]
/-- the order of now -/
abbrev oN (S : zSh) (T : zTm) : Nat := (zO S T 0 0 1 S.1.1).1
abbrev oF (S : zSh) (T : zTm) (p d : Int32) : Nat → Nat := (zO S T p d 1 S.1.1).2
set_option maxHeartbeats 1000000 in
theorem c42n {r : Nat} (hr0 : r = 37 ∨ r = 41) (hc : zCR h ld dd kp S T) (hr : pR0 h r) (K : ∀ h', pRn h' r (oN S T) (oF S T p d) → zfr (fun a => r ≤ a ∧ a ≤ r + 3) h h' → Q none N h') :
    zE X 42 0 [some (.ref r), some (.ref ld), some (.ref 21), some (.int p), some (.int d), some (.int 1), none, none, none] [] (N, 0, 0) h Q := by
  obtain ⟨h0, hd, hs, ok, ht, -⟩ := hc
  refine c42 ok (by omega) (by omega) hs ht hr (fun h' a1 a2 => K h' ?_ a2)
  rw [zO_n (q := 0) (e := 0) (hc' := 1)] at a1
  exact a1
set_option maxHeartbeats 1000000 in
theorem zCR.kept {h' : zH} (hc : zCR h ld dd kp S T) (hf : zcf h h') (c : zCS h') : zCR h' ld dd kp S T := by
  obtain ⟨h0, hd, hs, ok, ht, -⟩ := hc
  exact ⟨(hf 0 (by omega)).trans h0, hd, hs.kept hf (by omega), ok, ht.kept hf (by omega), c⟩
def aOrder (S : zSh) (T : zTm) (p d r : Int32) : Int32 := if isPan S.2.1.1 p ∧ isDr d ∧ -1 ≤ r then (if r = -1 then nI (oN S T) else if r.toNatClampNeg < oN S T then nI (oF S T p d r.toNatClampNeg) else -4) else -1
set_option maxHeartbeats 1000000 in
theorem zge1 {r : Int32} (h : -1 ≤ r) (h' : ¬ r = -1) : ∃ k, k < 2 ^ 31 ∧ r = nI k := by
  have a := Int32.le_iff_toInt_le.mp h
  have e : ((-1 : Int32)).toInt = -1 := by decide
  have b : r.toInt ≠ -1 := fun z => h' (Int32.toInt_inj.mp (z.trans e.symm))
  refine ⟨r.toInt.toNat, ?_, ?_⟩
  · have := Int32.toInt_lt r
    omega
  · apply Int32.toInt_inj.mp
    have := Int32.toInt_lt r
    rw [nI_toInt (by omega)]
    omega
set_option maxHeartbeats 1000000 in
theorem c40 (hc : zCR h ld dd kp S T) (K : ∀ h', zCS h' → zcf h h' → Q (some (.int (aOrder S T p d r))) N h') : zE X 40 0 [some (.ref 0), some (.int p), some (.int d), some (.int r)] [] (N, 0, 0) h Q := by
  have hc' := hc
  obtain ⟨h0, hd, hs, ok, ht, cs⟩ := hc
  have h0' := h0
  unfold pObj at h0
  simp only [e40_0, e40_1, e40_2, e40_5, e40_8, e40_9, e40_12, e40_15, e40_16, e40_17, e40_20, e40_21, e40_23, e40_26, e40_27, e40_30, e40_31, e40_34, e40_35, e40_36, e40_37, e40_40, e40_41, e40_42, e40_45, e40_46, e40_49, e40_52, e40_55, e40_56, e40_59, e40_60, e40_63, h0, c41 h0' hs, c37, zrc_eq, zup_s, zup_n, zup_up, zal_i, zal_b, zal_z, zas_i, zas_b, zas_z, zan_eq, Option.toList_some, Option.toList_none, List.cons_append, List.nil_append, if_true, if_false, ite_true, ite_false, true_or, or_true, z10, z00]
  unfold aOrder at K
  by_cases g1 : isPan S.2.1.1 p
  · rw [if_pos g1]
    by_cases g2 : isDr d
    · rw [if_pos g2]
      by_cases g3 : -1 ≤ r
      · rw [if_pos g3]
        rw [if_pos ⟨g1, g2, g3⟩] at K
        obtain ⟨x, pl, po, ra, q1, -⟩ := cs.1
        simp (disch := omega) only [e40_0, e40_1, e40_2, e40_5, e40_8, e40_9, e40_12, e40_15, e40_16, e40_17, e40_20, e40_21, e40_22, e40_23, e40_26, e40_27, e40_30, e40_31, e40_34, e40_35, e40_36, e40_37, e40_40, e40_41, e40_42, e40_45, e40_46, e40_49, e40_52, e40_55, e40_56, e40_59, e40_60, e40_63, h0, q1, zg9_0, zp9_0, zg9_1, zp9_1, zg9_2, zp9_2, zg9_3, zp9_3, zg9_4, zp9_4, zg9_5, zp9_5, zg9_6, zp9_6, zg9_7, zp9_7, zg9_8, zp9_8, zg9_9, zp9_9, zg9_10, zp9_10, zg9_11, zp9_11, zg9_12, zp9_12, zg9_13, zp9_13, zg9_14, zp9_14, zg9_15, zp9_15, zg9_16, zp9_16, zrc_eq, zup_s, zup_n, zup_up, zal_i, zal_b, zal_z, zas_i, zas_b, zas_z, zan_eq, Option.toList_some, Option.toList_none, List.cons_append, List.nil_append, if_true, if_false, ite_true, ite_false, true_or, or_true]
        refine c42n (Or.inl rfl) hc' cs.1 (fun h' a1 a2 => ?_)
        have F1 : zcf h h' := a2.mono (fun a ha => by omega)
        have C1 : zCS h' := cs.two (a2.mono (fun a ha => by omega)) a1.r0 (cs.2.1.kept a2 (by omega))
        have e0 := (F1 0 (by omega)).trans h0
        obtain ⟨o1, o2⟩ := a1.obj
        by_cases g4 : r = -1
        · rw [if_pos g4] at K
          simp (disch := omega) only [e40_0, e40_1, e40_2, e40_5, e40_8, e40_9, e40_12, e40_15, e40_16, e40_17, e40_20, e40_21, e40_22, e40_23, e40_26, e40_27, e40_30, e40_31, e40_34, e40_35, e40_36, e40_37, e40_40, e40_41, e40_42, e40_45, e40_46, e40_49, e40_52, e40_55, e40_56, e40_59, e40_60, e40_63, Option.toList_none, List.nil_append, g4, ↓reduceIte, e0, o1, zg9_0, zp9_0, zg9_1, zp9_1, zg9_2, zp9_2, zg9_3, zp9_3, zg9_4, zp9_4, zg9_5, zp9_5, zg9_6, zp9_6, zg9_7, zp9_7, zg9_8, zp9_8, zg9_9, zp9_9, zg9_10, zp9_10, zg9_11, zp9_11, zg9_12, zp9_12, zg9_13, zp9_13, zg9_14, zp9_14, zg9_15, zp9_15, zg9_16, zp9_16, zg2_0, zp2_0, zg2_1, zp2_1, zg2_2, zp2_2, zg2_3, zp2_3, zrc_eq, zup_s, zup_n, zup_up, zal_i, zal_b, zal_z, zas_i, zas_b, zas_z, zan_eq, Option.toList_some, Option.toList_none, List.cons_append, List.nil_append, if_true, if_false, ite_true, ite_false, true_or, or_true]
          exact K h' C1 F1
        · rw [if_neg g4] at K
          obtain ⟨k, hk, rfl⟩ := zge1 g3 g4
          rw [nI_clamp hk] at K
          by_cases g5 : k < oN S T
          · rw [if_pos g5] at K
            simp (disch := omega) only [e40_0, e40_1, e40_2, e40_5, e40_8, e40_9, e40_12, e40_15, e40_16, e40_17, e40_20, e40_21, e40_22, e40_23, e40_26, e40_27, e40_30, e40_31, e40_34, e40_35, e40_36, e40_37, e40_40, e40_41, e40_42, e40_45, e40_46, e40_49, e40_52, e40_55, e40_56, e40_59, e40_60, e40_63, Option.toList_none, List.nil_append, g4, ↓reduceIte, e0, o1, zg9_0, zp9_0, zg9_1, zp9_1, zg9_2, zp9_2, zg9_3, zp9_3, zg9_4, zp9_4, zg9_5, zp9_5, zg9_6, zp9_6, zg9_7, zp9_7, zg9_8, zp9_8, zg9_9, zp9_9, zg9_10, zp9_10, zg9_11, zp9_11, zg9_12, zp9_12, zg9_13, zp9_13, zg9_14, zp9_14, zg9_15, zp9_15, zg9_16, zp9_16, zrc_eq, zup_s, zup_n, zup_up, zal_i, zal_b, zal_z, zas_i, zas_b, zas_z, zan_eq, Option.toList_some, Option.toList_none, List.cons_append, List.nil_append, if_true, if_false, ite_true, ite_false, true_or, or_true, c46 a1 g5]
            exact K h' C1 F1
          · rw [if_neg g5] at K
            simp (disch := omega) only [e40_0, e40_1, e40_2, e40_5, e40_8, e40_9, e40_12, e40_15, e40_16, e40_17, e40_20, e40_21, e40_22, e40_23, e40_26, e40_27, e40_30, e40_31, e40_34, e40_35, e40_36, e40_37, e40_40, e40_41, e40_42, e40_45, e40_46, e40_49, e40_52, e40_55, e40_56, e40_59, e40_60, e40_63, Option.toList_none, List.nil_append, g4, ↓reduceIte, e0, o1, zg9_0, zp9_0, zg9_1, zp9_1, zg9_2, zp9_2, zg9_3, zp9_3, zg9_4, zp9_4, zg9_5, zp9_5, zg9_6, zp9_6, zg9_7, zp9_7, zg9_8, zp9_8, zg9_9, zp9_9, zg9_10, zp9_10, zg9_11, zp9_11, zg9_12, zp9_12, zg9_13, zp9_13, zg9_14, zp9_14, zg9_15, zp9_15, zg9_16, zp9_16, zrc_eq, zup_s, zup_n, zup_up, zal_i, zal_b, zal_z, zas_i, zas_b, zas_z, zan_eq, Option.toList_some, Option.toList_none, List.cons_append, List.nil_append, if_true, if_false, ite_true, ite_false, true_or, or_true, c46n a1 (Nat.le_of_not_lt g5) hk]
            exact K h' C1 F1
      · rw [if_neg g3]
        rw [if_neg (fun z => g3 z.2.2)] at K
        exact K h cs zfr.rf
    · rw [if_neg g2]
      rw [if_neg (fun z => g2 z.2.1)] at K
      exact K h cs zfr.rf
  · rw [if_neg g1]
    rw [if_neg (fun z => g1 z.1)] at K
    exact K h cs zfr.rf
set_option maxHeartbeats 1000000 in
theorem c49 (hc : zCR h ld dd kp S T) (K : ∀ h', pRn h' 37 (oN S T) (oF S T p d) → pRn h' 41 (oN S T) (oF S T q e) → zCS h' → zfr (fun a => 37 ≤ a ∧ a ≤ 44) h h' → Q none N h') : zE X 49 0 [some (.ref 0), some (.int p), some (.int d), some (.int q), some (.int e)] [] (N, 0, 0) h Q := by
  have hc' := hc
  obtain ⟨h0, hd, hs, ok, ht, cs⟩ := hc
  have h0' := h0
  unfold pObj at h0
  obtain ⟨x, pl, po, ra, q1, -⟩ := cs.1
  obtain ⟨x2, pl2, po2, ra2, q2, -⟩ := cs.2.1
  simp (disch := omega) only [e49_0, e49_1, e49_4, e49_5, e49_8, e49_9, e49_12, e49_13, e49_14, e49_15, e49_18, e49_19, e49_22, e49_23, e49_26, e49_27, e49_30, e49_31, e49_33, e49_34, e49_37, h0, q1, zg9_0, zp9_0, zg9_1, zp9_1, zg9_2, zp9_2, zg9_3, zp9_3, zg9_4, zp9_4, zg9_5, zp9_5, zg9_6, zp9_6, zg9_7, zp9_7, zg9_8, zp9_8, zg9_9, zp9_9, zg9_10, zp9_10, zg9_11, zp9_11, zg9_12, zp9_12, zg9_13, zp9_13, zg9_14, zp9_14, zg9_15, zp9_15, zg9_16, zp9_16, zrc_eq, zup_s, zup_n, zup_up, zal_i, zal_b, zal_z, zas_i, zas_b, zas_z, zan_eq, Option.toList_some, Option.toList_none, List.cons_append, List.nil_append, if_true, if_false, ite_true, ite_false, true_or, or_true]
  refine c42n (Or.inl rfl) hc' cs.1 (fun h' a1 a2 => ?_)
  have F1 : zcf h h' := a2.mono (fun a ha => by omega)
  have C1 : zCS h' := cs.two (a2.mono (fun a ha => by omega)) a1.r0 (cs.2.1.kept a2 (by omega))
  have e0 := (F1 0 (by omega)).trans h0
  have e41 := (a2 41 (by omega)).trans q2
  simp (disch := omega) only [e49_0, e49_1, e49_4, e49_5, e49_8, e49_9, e49_12, e49_13, e49_14, e49_15, e49_18, e49_19, e49_22, e49_23, e49_26, e49_27, e49_30, e49_31, e49_33, e49_34, e49_37, Option.toList_none, List.nil_append, e0, e41, zg9_0, zp9_0, zg9_1, zp9_1, zg9_2, zp9_2, zg9_3, zp9_3, zg9_4, zp9_4, zg9_5, zp9_5, zg9_6, zp9_6, zg9_7, zp9_7, zg9_8, zp9_8, zg9_9, zp9_9, zg9_10, zp9_10, zg9_11, zp9_11, zg9_12, zp9_12, zg9_13, zp9_13, zg9_14, zp9_14, zg9_15, zp9_15, zg9_16, zp9_16, zrc_eq, zup_s, zup_n, zup_up, zal_i, zal_b, zal_z, zas_i, zas_b, zas_z, zan_eq, Option.toList_some, Option.toList_none, List.cons_append, List.nil_append, if_true, if_false, ite_true, ite_false, true_or, or_true]
  refine c42n (Or.inr rfl) (hc'.kept F1 C1) C1.2.1 (fun h2 b1 b2 => ?_)
  have C2 : zCS h2 := C1.two (b2.mono (fun a ha => by omega)) (C1.1.kept b2 (by omega)) b1.r0
  simp (disch := omega) only [e49_0, e49_1, e49_4, e49_5, e49_8, e49_9, e49_12, e49_13, e49_14, e49_15, e49_18, e49_19, e49_22, e49_23, e49_26, e49_27, e49_30, e49_31, e49_33, e49_34, e49_37, Option.toList_none, List.nil_append]
  exact K h2 (a1.kept b2 (by omega)) b1 C2 ((a2.mono (fun a ha => by omega)).tr (b2.mono (fun a ha => by omega)))
/-- the rank by q in e of what has a rank by p in d -/
abbrev oR (S : zSh) (T : zTm) (p d q e : Int32) : Nat → Nat := rT (oF S T p d) (oF S T q e) (oN S T)
set_option maxHeartbeats 1000000 in
theorem oN_eq {p d : Int32} : (zO S T p d 1 S.1.1).1 = oN S T := zO_n _
set_option maxHeartbeats 1000000 in
theorem oIn : ∀ k, k < oN S T → ∃ j, j < oN S T ∧ oF S T q e j = oF S T p d k := by
  have := zO_in (S := S) (T := T) (p := p) (d := d) (q := q) (e := e) (hc := 1) (hc' := 1) (m := S.1.1)
  rw [oN_eq] at this
  exact this
set_option maxHeartbeats 1000000 in
theorem z20 : ((2 : Int32) = 0) = False := by decide
def aTell (S : zSh) (T : zTm) (p d q e w : Int32) : Int32 := if isTwo S.2.1.1 p d q e ∧ (0 ≤ w ∧ w ≤ 1) then (if w = 0 then nI (tB (aA (oR S T p d q e)) 0 (oN S T)) else nI (oN S T) * (nI (oN S T) - 1) / 2 - nI (tB (aA (oR S T p d q e)) 0 (oN S T))) else -1
set_option maxHeartbeats 1000000 in
theorem c47 (hc : zCR h ld dd kp S T) (K : ∀ h', zCS h' → zcf h h' → Q (some (.int (aTell S T p d q e w))) N h') : zE X 47 0 [some (.ref 0), some (.int p), some (.int d), some (.int q), some (.int e), some (.int w), none] [] (N, 0, 0) h Q := by
  have hc' := hc
  obtain ⟨h0, hd, hs, ok, ht, cs⟩ := hc
  have h0' := h0
  unfold pObj at h0
  simp only [e47_0, e47_1, e47_2, e47_3, e47_4, e47_6, e47_9, e47_12, e47_14, e47_15, e47_16, e47_19, e47_22, e47_23, e47_25, e47_26, e47_27, e47_28, e47_30, e47_33, e47_34, e47_37, e47_38, e47_41, e47_42, e47_45, e47_48, e47_50, e47_52, e47_55, e47_57, e47_60, e47_61, e47_64, e47_67, e47_68, e47_71, e47_74, e47_75, e47_76, e47_77, e47_78, e47_79, e47_81, e47_82, h0, c48 h0' hs, c13, zrc_eq, zup_s, zup_n, zup_up, zal_i, zal_b, zal_z, zas_i, zas_b, zas_z, zan_eq, Option.toList_some, Option.toList_none, List.cons_append, List.nil_append, if_true, if_false, ite_true, ite_false, true_or, or_true, z10, z00]
  unfold aTell at K
  by_cases g1 : isTwo S.2.1.1 p d q e
  · rw [if_pos g1]
    by_cases g2 : 0 ≤ w ∧ w ≤ 1
    · rw [if_pos g2]
      rw [if_pos ⟨g1, g2⟩] at K
      simp (disch := omega) only [e47_0, e47_1, e47_2, e47_3, e47_4, e47_6, e47_9, e47_12, e47_14, e47_15, e47_16, e47_19, e47_22, e47_23, e47_24, e47_25, e47_26, e47_27, e47_28, e47_30, e47_33, e47_34, e47_37, e47_38, e47_41, e47_42, e47_45, e47_48, e47_50, e47_52, e47_55, e47_57, e47_60, e47_61, e47_64, e47_67, e47_68, e47_71, e47_74, e47_75, e47_76, e47_77, e47_78, e47_79, e47_81, e47_82, h0, zg9_0, zp9_0, zg9_1, zp9_1, zg9_2, zp9_2, zg9_3, zp9_3, zg9_4, zp9_4, zg9_5, zp9_5, zg9_6, zp9_6, zg9_7, zp9_7, zg9_8, zp9_8, zg9_9, zp9_9, zg9_10, zp9_10, zg9_11, zp9_11, zg9_12, zp9_12, zg9_13, zp9_13, zg9_14, zp9_14, zg9_15, zp9_15, zg9_16, zp9_16, zrc_eq, zup_s, zup_n, zup_up, zal_i, zal_b, zal_z, zas_i, zas_b, zas_z, zan_eq, Option.toList_some, Option.toList_none, List.cons_append, List.nil_append, if_true, if_false, ite_true, ite_false, true_or, or_true]
      refine c49 hc' (fun h' a1 a2 a3 a4 => ?_)
      have e0 := (a4 0 (by omega)).trans h0
      obtain ⟨o1, o2⟩ := a1.obj
      obtain ⟨s1, s2, s3⟩ := a3.2.2.2.1
      have F1 : zcf h h' := a4.mono (fun a ha => by omega)
      by_cases g3 : w = 0
      · rw [if_pos g3] at K
        simp (disch := omega) only [e47_0, e47_1, e47_2, e47_3, e47_4, e47_6, e47_9, e47_12, e47_14, e47_15, e47_16, e47_19, e47_22, e47_23, e47_24, e47_25, e47_26, e47_27, e47_28, e47_30, e47_33, e47_34, e47_37, e47_38, e47_41, e47_42, e47_45, e47_48, e47_50, e47_52, e47_55, e47_57, e47_60, e47_61, e47_64, e47_67, e47_68, e47_71, e47_74, e47_75, e47_76, e47_77, e47_78, e47_79, e47_81, e47_82, Option.toList_none, List.nil_append, e0, o1, s3, zg9_0, zp9_0, zg9_1, zp9_1, zg9_2, zp9_2, zg9_3, zp9_3, zg9_4, zp9_4, zg9_5, zp9_5, zg9_6, zp9_6, zg9_7, zp9_7, zg9_8, zp9_8, zg9_9, zp9_9, zg9_10, zp9_10, zg9_11, zp9_11, zg9_12, zp9_12, zg9_13, zp9_13, zg9_14, zp9_14, zg9_15, zp9_15, zg9_16, zp9_16, zg2_0, zp2_0, zg2_1, zp2_1, zg2_2, zp2_2, zg2_3, zp2_3, zrc_eq, zup_s, zup_n, zup_up, zal_i, zal_b, zal_z, zas_i, zas_b, zas_z, zan_eq, Option.toList_some, Option.toList_none, List.cons_append, List.nil_append, if_true, if_false, ite_true, ite_false, true_or, or_true, c50 a1 a2 oIn, g3, ↓reduceIte]
        exact K h' a3 F1
      · rw [if_neg g3] at K
        simp (disch := omega) only [e47_0, e47_1, e47_2, e47_3, e47_4, e47_6, e47_9, e47_12, e47_14, e47_15, e47_16, e47_19, e47_22, e47_23, e47_24, e47_25, e47_26, e47_27, e47_28, e47_30, e47_33, e47_34, e47_37, e47_38, e47_41, e47_42, e47_45, e47_48, e47_50, e47_52, e47_55, e47_57, e47_60, e47_61, e47_64, e47_67, e47_68, e47_71, e47_74, e47_75, e47_76, e47_77, e47_78, e47_79, e47_81, e47_82, Option.toList_none, List.nil_append, e0, o1, s3, zg9_0, zp9_0, zg9_1, zp9_1, zg9_2, zp9_2, zg9_3, zp9_3, zg9_4, zp9_4, zg9_5, zp9_5, zg9_6, zp9_6, zg9_7, zp9_7, zg9_8, zp9_8, zg9_9, zp9_9, zg9_10, zp9_10, zg9_11, zp9_11, zg9_12, zp9_12, zg9_13, zp9_13, zg9_14, zp9_14, zg9_15, zp9_15, zg9_16, zp9_16, zg2_0, zp2_0, zg2_1, zp2_1, zg2_2, zp2_2, zg2_3, zp2_3, zrc_eq, zup_s, zup_n, zup_up, zal_i, zal_b, zal_z, zas_i, zas_b, zas_z, zan_eq, Option.toList_some, Option.toList_none, List.cons_append, List.nil_append, if_true, if_false, ite_true, ite_false, true_or, or_true, c50 a1 a2 oIn, g3, ↓reduceIte, z20]
        exact K h' a3 F1
    · rw [if_neg g2]
      rw [if_neg (fun z => g2 z.2)] at K
      exact K h cs zfr.rf
  · rw [if_neg g1]
    rw [if_neg (fun z => g1 z.1)] at K
    exact K h cs zfr.rf
/-- what coin answers -/
def aCoin (S : zSh) (T : zTm) (p d q e w v : Int32) : Prop := if isTwo S.2.1.1 p d q e ∧ (0 ≤ w ∧ w ≤ 1) then (∃ fi L, cB (cL (oN S T) (oN S T) 1) (cG (oR S T p d q e)) fi L ∧ v = if L = 0 then -4 else if w = 0 then nI fi else nI L) else v = -1
set_option maxHeartbeats 1000000 in
theorem aCoin.one {v v' : Int32} (h1 : aCoin S T p d q e w v) (h2 : aCoin S T p d q e w v') : v = v' := by
  unfold aCoin at h1 h2
  split at h1
  · next g =>
    rw [if_pos g] at h2
    obtain ⟨f1, L1, c1, rfl⟩ := h1
    obtain ⟨f2, L2, c2, rfl⟩ := h2
    obtain ⟨rfl, e2⟩ := cB.one (fun a l c => c.1) c1 c2
    by_cases z : L1 = 0
    · rw [if_pos z, if_pos z]
    · rw [e2 z]
  · next g =>
    rw [if_neg g] at h2
    rw [h1, h2]
set_option maxHeartbeats 1000000 in
theorem c60 (hc : zCR h ld dd kp S T) (K : ∀ h' v, aCoin S T p d q e w v → zCS h' → zcf h h' → Q (some (.int v)) N h') : zE X 60 0 [some (.ref 0), some (.int p), some (.int d), some (.int q), some (.int e), some (.int w)] [] (N, 0, 0) h Q := by
  have hc' := hc
  obtain ⟨h0, hd, hs, ok, ht, cs⟩ := hc
  have h0' := h0
  unfold pObj at h0
  simp only [e60_0, e60_1, e60_2, e60_3, e60_4, e60_6, e60_9, e60_12, e60_14, e60_15, e60_16, e60_19, e60_22, e60_23, e60_25, e60_26, e60_27, e60_28, e60_30, e60_33, e60_34, e60_37, e60_38, e60_41, e60_42, e60_45, e60_48, e60_49, e60_52, e60_55, e60_58, e60_60, e60_61, e60_63, e60_66, e60_67, e60_70, e60_73, e60_76, e60_77, e60_80, e60_83, h0, c48 h0' hs, c13, zrc_eq, zup_s, zup_n, zup_up, zal_i, zal_b, zal_z, zas_i, zas_b, zas_z, zan_eq, Option.toList_some, Option.toList_none, List.cons_append, List.nil_append, if_true, if_false, ite_true, ite_false, true_or, or_true, z10, z00]
  unfold aCoin at K
  by_cases g1 : isTwo S.2.1.1 p d q e
  · rw [if_pos g1]
    by_cases g2 : 0 ≤ w ∧ w ≤ 1
    · rw [if_pos g2]
      have gg : isTwo S.2.1.1 p d q e ∧ (0 ≤ w ∧ w ≤ 1) := ⟨g1, g2⟩
      simp (disch := omega) only [e60_0, e60_1, e60_2, e60_3, e60_4, e60_6, e60_9, e60_12, e60_14, e60_15, e60_16, e60_19, e60_22, e60_23, e60_24, e60_25, e60_26, e60_27, e60_28, e60_30, e60_33, e60_34, e60_37, e60_38, e60_41, e60_42, e60_45, e60_48, e60_49, e60_52, e60_55, e60_58, e60_60, e60_61, e60_63, e60_66, e60_67, e60_70, e60_73, e60_76, e60_77, e60_80, e60_83, h0, zg9_0, zp9_0, zg9_1, zp9_1, zg9_2, zp9_2, zg9_3, zp9_3, zg9_4, zp9_4, zg9_5, zp9_5, zg9_6, zp9_6, zg9_7, zp9_7, zg9_8, zp9_8, zg9_9, zp9_9, zg9_10, zp9_10, zg9_11, zp9_11, zg9_12, zp9_12, zg9_13, zp9_13, zg9_14, zp9_14, zg9_15, zp9_15, zg9_16, zp9_16, zrc_eq, zup_s, zup_n, zup_up, zal_i, zal_b, zal_z, zas_i, zas_b, zas_z, zan_eq, Option.toList_some, Option.toList_none, List.cons_append, List.nil_append, if_true, if_false, ite_true, ite_false, true_or, or_true]
      refine c49 hc' (fun h' a1 a2 a3 a4 => ?_)
      have e0 := (a4 0 (by omega)).trans h0
      obtain ⟨s1, s2, s3⟩ := a3.2.2.2.1
      simp (disch := omega) only [e60_0, e60_1, e60_2, e60_3, e60_4, e60_6, e60_9, e60_12, e60_14, e60_15, e60_16, e60_19, e60_22, e60_23, e60_24, e60_25, e60_26, e60_27, e60_28, e60_30, e60_33, e60_34, e60_37, e60_38, e60_41, e60_42, e60_45, e60_48, e60_49, e60_52, e60_55, e60_58, e60_60, e60_61, e60_63, e60_66, e60_67, e60_70, e60_73, e60_76, e60_77, e60_80, e60_83, Option.toList_none, List.nil_append, e0, s3, zg9_0, zp9_0, zg9_1, zp9_1, zg9_2, zp9_2, zg9_3, zp9_3, zg9_4, zp9_4, zg9_5, zp9_5, zg9_6, zp9_6, zg9_7, zp9_7, zg9_8, zp9_8, zg9_9, zp9_9, zg9_10, zp9_10, zg9_11, zp9_11, zg9_12, zp9_12, zg9_13, zp9_13, zg9_14, zp9_14, zg9_15, zp9_15, zg9_16, zp9_16, zrc_eq, zup_s, zup_n, zup_up, zal_i, zal_b, zal_z, zas_i, zas_b, zas_z, zan_eq, Option.toList_some, Option.toList_none, List.cons_append, List.nil_append, if_true, if_false, ite_true, ite_false, true_or, or_true]
      refine c61 (by omega) oIn a1 a2 s3 (fun fi L h2 b1 b2 b3 b4 => ?_)
      have e02 := (b4 0 (by omega)).trans e0
      have C2 : zCS h2 := a3.st b4 ⟨_, _, b2⟩
      have F1 : zcf h h2 := (a4.mono (fun a ha => by omega)).tr (b4.mono (fun a ha => by omega))
      by_cases g3 : L = 0
      · subst g3
        simp (disch := omega) only [e60_0, e60_1, e60_2, e60_3, e60_4, e60_6, e60_9, e60_12, e60_14, e60_15, e60_16, e60_19, e60_22, e60_23, e60_24, e60_25, e60_26, e60_27, e60_28, e60_30, e60_33, e60_34, e60_37, e60_38, e60_41, e60_42, e60_45, e60_48, e60_49, e60_52, e60_55, e60_58, e60_60, e60_61, e60_63, e60_66, e60_67, e60_70, e60_73, e60_76, e60_77, e60_80, e60_83, Option.toList_none, List.nil_append, e02, b2, zg9_0, zp9_0, zg9_1, zp9_1, zg9_2, zp9_2, zg9_3, zp9_3, zg9_4, zp9_4, zg9_5, zp9_5, zg9_6, zp9_6, zg9_7, zp9_7, zg9_8, zp9_8, zg9_9, zp9_9, zg9_10, zp9_10, zg9_11, zp9_11, zg9_12, zp9_12, zg9_13, zp9_13, zg9_14, zp9_14, zg9_15, zp9_15, zg9_16, zp9_16, zg7_0, zp7_0, zg7_1, zp7_1, zrc_eq, zup_s, zup_n, zup_up, zal_i, zal_b, zal_z, zas_i, zas_b, zas_z, zan_eq, Option.toList_some, Option.toList_none, List.cons_append, List.nil_append, if_true, if_false, ite_true, ite_false, true_or, or_true, nI_0]
        exact K h2 _ (by rw [if_pos gg]; exact ⟨fi, 0, b3, rfl⟩) C2 F1
      · have gl : (nI L = 0) = False := eq_false (nI_ne0 (by omega) (by omega))
        by_cases g4 : w = 0
        · simp (disch := omega) only [e60_0, e60_1, e60_2, e60_3, e60_4, e60_6, e60_9, e60_12, e60_14, e60_15, e60_16, e60_19, e60_22, e60_23, e60_24, e60_25, e60_26, e60_27, e60_28, e60_30, e60_33, e60_34, e60_37, e60_38, e60_41, e60_42, e60_45, e60_48, e60_49, e60_52, e60_55, e60_58, e60_60, e60_61, e60_63, e60_66, e60_67, e60_70, e60_73, e60_76, e60_77, e60_80, e60_83, Option.toList_none, List.nil_append, e02, b2, zg9_0, zp9_0, zg9_1, zp9_1, zg9_2, zp9_2, zg9_3, zp9_3, zg9_4, zp9_4, zg9_5, zp9_5, zg9_6, zp9_6, zg9_7, zp9_7, zg9_8, zp9_8, zg9_9, zp9_9, zg9_10, zp9_10, zg9_11, zp9_11, zg9_12, zp9_12, zg9_13, zp9_13, zg9_14, zp9_14, zg9_15, zp9_15, zg9_16, zp9_16, zg7_0, zp7_0, zg7_1, zp7_1, zrc_eq, zup_s, zup_n, zup_up, zal_i, zal_b, zal_z, zas_i, zas_b, zas_z, zan_eq, Option.toList_some, Option.toList_none, List.cons_append, List.nil_append, if_true, if_false, ite_true, ite_false, true_or, or_true, gl, g4, ↓reduceIte]
          exact K h2 _ (by rw [if_pos gg]; exact ⟨fi, L, b3, by rw [if_neg g3, if_pos g4]⟩) C2 F1
        · simp (disch := omega) only [e60_0, e60_1, e60_2, e60_3, e60_4, e60_6, e60_9, e60_12, e60_14, e60_15, e60_16, e60_19, e60_22, e60_23, e60_24, e60_25, e60_26, e60_27, e60_28, e60_30, e60_33, e60_34, e60_37, e60_38, e60_41, e60_42, e60_45, e60_48, e60_49, e60_52, e60_55, e60_58, e60_60, e60_61, e60_63, e60_66, e60_67, e60_70, e60_73, e60_76, e60_77, e60_80, e60_83, Option.toList_none, List.nil_append, e02, b2, zg9_0, zp9_0, zg9_1, zp9_1, zg9_2, zp9_2, zg9_3, zp9_3, zg9_4, zp9_4, zg9_5, zp9_5, zg9_6, zp9_6, zg9_7, zp9_7, zg9_8, zp9_8, zg9_9, zp9_9, zg9_10, zp9_10, zg9_11, zp9_11, zg9_12, zp9_12, zg9_13, zp9_13, zg9_14, zp9_14, zg9_15, zp9_15, zg9_16, zp9_16, zg7_0, zp7_0, zg7_1, zp7_1, zrc_eq, zup_s, zup_n, zup_up, zal_i, zal_b, zal_z, zas_i, zas_b, zas_z, zan_eq, Option.toList_some, Option.toList_none, List.cons_append, List.nil_append, if_true, if_false, ite_true, ite_false, true_or, or_true, gl, g4, ↓reduceIte]
          exact K h2 _ (by rw [if_pos gg]; exact ⟨fi, L, b3, by rw [if_neg g3, if_neg g4]⟩) C2 F1
    · rw [if_neg g2]
      exact K h _ (by rw [if_neg (fun z => g2 z.2)]) cs zfr.rf
  · rw [if_neg g1]
    exact K h _ (by rw [if_neg (fun z => g1 z.1)]) cs zfr.rf
end C37b
