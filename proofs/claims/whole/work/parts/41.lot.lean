-- the lot: filled, drawn
section C41
/-- a row without its p-th -/
def rmAt (L : Nat → Nat) (p : Nat) : Nat → Nat := fun j => if j < p then L j else L (j + 1)
def dPl (z t un : Nat) : Nat := (z * t + t * t) % un
/-- the lot (of n) after t draws -/
def lotAt (z : Nat) (L : Nat → Nat) (n : Nat) : Nat → (Nat → Nat)
  | 0 => L
  | t + 1 => rmAt (lotAt z L n t) (dPl z (t + 1) (n - t))
/-- what is drawn behind t draws -/
def drw (z : Nat) (L : Nat → Nat) (n t : Nat) : Nat := lotAt z L n t (dPl z (t + 1) (n - t))
set_option maxHeartbeats 2000000 in
theorem nx_xor' (a b : Nat) : nI a ^^^ nI b = nI (a ^^^ b) := by
  apply Int32.toBitVec_inj.1
  show BitVec.ofNat 32 a ^^^ BitVec.ofNat 32 b = BitVec.ofNat 32 (a ^^^ b)
  apply BitVec.eq_of_getLsbD_eq
  intro i hi
  simp [hi]
variable {X : Nat × (Nat → Int32)} {N : Nat} {h : zH} {Q : Option Value → Nat → zH → Prop} {S : zSh} {T : zTm} {F : Nat → zTm} {D : Nat → Prop} {ld dd : Nat} {i j p q d e r w k z t : Int32}
variable {len at_ rp rj kp su lo dr : Int32} {ab be : Int64}
set_option maxHeartbeats 2000000 in
theorem c67n {a b : Nat} (ha : a < 2 ^ 31) (h0 : 0 < b) (hb : b < 2 ^ 31) : zE X 67 0 [some (.int (nI a)), some (.int (nI b)), none] [] (N, 0, 0) h Q = Q (some (.int (nI (a % b)))) N h := by
  rw [c67 (nI_ne0 h0 hb), nx_xor', if_pos (nI_pos' (Nat.xor_lt_two_pow ha hb)), pk_rem ha h0 hb]
set_option maxHeartbeats 2000000 in
theorem c64 {n : Nat} {a b c x y : Int32} (hs : pSh h ld S) (ok : sK S) (hl : ld + 7 < 45) (hn : n ≤ 24) (h1 : h 45 = .inr (6, [.int a, .int b, .int c, .int x, .int y, .ref 46, .ref 47])) : zE X 64 0 [some (.ref 45), some (.ref ld), some (.int (nI n))] [] (N, 0, 0) h Q = Q none N (va_up h 45 (.inr (6, [.int (nI (pSu S n)), .int (nI (pLo S n)), .int (nI (pDr S n)), .int x, .int y, .ref 46, .ref 47]))) := by
  obtain ⟨-, -, ⟨k3, k4, k5⟩, -⟩ := ok
  obtain ⟨⟨np, wo, sa, au⟩, ⟨nj, le, fo, ro⟩, ⟨pa, pb, pc⟩, ⟨co, hx, hy⟩, hf, pt⟩ := S
  obtain ⟨s1, -⟩ := hs
  dsimp only at k3 k4 k5
  have ez : (nI n - nI (min pa n)) = nI (n - min pa n) := pk_sub (Nat.min_le_right _ _)
  simp (disch := omega) only [e64_0, e64_1, e64_2, e64_5, e64_6, e64_9, e64_12, e64_13, e64_14, e64_17, e64_18, e64_19, e64_22, e64_23, e64_26, e64_29, e64_30, e64_31, e64_34, e64_35, e64_38, e64_41, e64_44, h1, s1, zg6_0, zp6_0, zg6_1, zp6_1, zg6_2, zp6_2, zg6_3, zp6_3, zg6_4, zp6_4, zg6_5, zp6_5, zg6_6, zp6_6, zg5_0, zp5_0, zg5_1, zp5_1, zg5_2, zp5_2, zg5_3, zp5_3, zg5_4, zp5_4, zg5_5, zp5_5, zg5_6, zp5_6, zg5_7, zp5_7, zg5_8, zp5_8, zg5_9, zp5_9, zg5_10, zp5_10, zg5_11, zp5_11, zg5_12, zp5_12, zg5_13, zp5_13, zg5_14, zp5_14, zg5_15, zp5_15, zrc_eq, zup_s, zup_n, zup_up, zal_i, zal_b, zal_z, zas_i, zas_b, zas_z, zan_eq, Option.toList_some, Option.toList_none, List.cons_append, List.nil_append, if_true, if_false, ite_true, ite_false, true_or, or_true, c55, zmin', ez]
/-- the split of an order of n -/
def pSp (h : zH) (S : zSh) (n : Nat) : Prop := ∃ (x y : Int32) (f g : Nat → Int32), h 45 = .inr (6, [.int (nI (pSu S n)), .int (nI (pLo S n)), .int (nI (pDr S n)), .int x, .int y, .ref 46, .ref 47]) ∧ h 46 = .inl (.int, 24, f) ∧ h 47 = .inl (.int, 24, g)
set_option maxHeartbeats 2000000 in
theorem pSp.qq {n : Nat} (hp : pSp h S n) : qSp h := by
  obtain ⟨x, y, f, g, h1, h2, h3⟩ := hp
  exact ⟨_, _, _, x, y, f, g, h1, h2, h3⟩
set_option maxHeartbeats 2000000 in
theorem c63 (hc : zCR h ld dd kp S T) (K : ∀ h', pRn h' 37 (oN S T) (oF S T p d) → pSp h' S (oN S T) → zCR h' ld dd kp S T → zcf h h' → Q none N h') : zE X 63 0 [some (.ref 0), some (.int p), some (.int d)] [] (N, 0, 0) h Q := by
  have hc' := hc
  obtain ⟨h0, hd, hs, ok, ht, cs⟩ := hc
  have h0' := h0
  unfold pObj at h0
  obtain ⟨x, pl, po, ra, q1, -⟩ := cs.1
  simp (disch := omega) only [e63_0, e63_1, e63_4, e63_5, e63_8, e63_9, e63_12, e63_13, e63_14, e63_15, e63_18, e63_19, e63_22, e63_23, e63_26, e63_27, e63_30, e63_33, e63_36, h0, q1, zg9_0, zp9_0, zg9_1, zp9_1, zg9_2, zp9_2, zg9_3, zp9_3, zg9_4, zp9_4, zg9_5, zp9_5, zg9_6, zp9_6, zg9_7, zp9_7, zg9_8, zp9_8, zg9_9, zp9_9, zg9_10, zp9_10, zg9_11, zp9_11, zg9_12, zp9_12, zg9_13, zp9_13, zg9_14, zp9_14, zg9_15, zp9_15, zg9_16, zp9_16, zrc_eq, zup_s, zup_n, zup_up, zal_i, zal_b, zal_z, zas_i, zas_b, zas_z, zan_eq, Option.toList_some, Option.toList_none, List.cons_append, List.nil_append, if_true, if_false, ite_true, ite_false, true_or, or_true]
  refine c42n (Or.inl rfl) hc' cs.1 (fun h' a1 a2 => ?_)
  have F1 : zcf h h' := a2.mono (fun a ha => by omega)
  have C1 : zCS h' := cs.two (a2.mono (fun a ha => by omega)) a1.r0 (cs.2.1.kept a2 (by omega))
  have R1 := hc'.kept F1 C1
  have e0 := (F1 0 (by omega)).trans h0
  obtain ⟨o1, o2⟩ := a1.obj
  obtain ⟨a, b, c, x, y, f, g, s1, s2, s3⟩ := C1.2.2.1
  have E := fun Q' => c64 (X := X) (N := N) (Q := Q') R1.2.2.1 ok (by omega) o2 s1
  simp (disch := omega) only [e63_0, e63_1, e63_4, e63_5, e63_8, e63_9, e63_12, e63_13, e63_14, e63_15, e63_18, e63_19, e63_22, e63_23, e63_26, e63_27, e63_30, e63_33, e63_36, Option.toList_none, List.nil_append, e0, o1, s1, zg9_0, zp9_0, zg9_1, zp9_1, zg9_2, zp9_2, zg9_3, zp9_3, zg9_4, zp9_4, zg9_5, zp9_5, zg9_6, zp9_6, zg9_7, zp9_7, zg9_8, zp9_8, zg9_9, zp9_9, zg9_10, zp9_10, zg9_11, zp9_11, zg9_12, zp9_12, zg9_13, zp9_13, zg9_14, zp9_14, zg9_15, zp9_15, zg9_16, zp9_16, zg2_0, zp2_0, zg2_1, zp2_1, zg2_2, zp2_2, zg2_3, zp2_3, zrc_eq, zup_s, zup_n, zup_up, zal_i, zal_b, zal_z, zas_i, zas_b, zas_z, zan_eq, Option.toList_some, Option.toList_none, List.cons_append, List.nil_append, if_true, if_false, ite_true, ite_false, true_or, or_true, E]
  have F2 : zfr (fun a => 45 ≤ a ∧ a ≤ 47) h' (va_up h' 45 (.inr (6, [.int (nI (pSu S (oN S T))), .int (nI (pLo S (oN S T))), .int (nI (pDr S (oN S T))), .int x, .int y, .ref 46, .ref 47]))) := zfr.up (by omega) zfr.rf
  have P2 : pSp (va_up h' 45 (.inr (6, [.int (nI (pSu S (oN S T))), .int (nI (pLo S (oN S T))), .int (nI (pDr S (oN S T))), .int x, .int y, .ref 46, .ref 47]))) S (oN S T) := ⟨x, y, f, g, zup_s, (zup_n (by omega)).trans s2, (zup_n (by omega)).trans s3⟩
  have F3 := F1.tr (F2.mono (R := fun a => 37 ≤ a ∧ a ≤ 52) (fun a ha => by omega))
  exact K _ (a1.kept F2 (by omega)) P2 (hc'.kept F3 (C1.sp F2 P2.qq)) F3
/-- the lot with un left in it -/
def pLt (h : zH) (S : zSh) (n un : Nat) (L : Nat → Nat) : Prop := ∃ (x : Int32) (f g : Nat → Int32), h 45 = .inr (6, [.int (nI (pSu S n)), .int (nI (pLo S n)), .int (nI (pDr S n)), .int x, .int (nI un), .ref 46, .ref 47]) ∧ h 46 = .inl (.int, 24, f) ∧ h 47 = .inl (.int, 24, g) ∧ un ≤ 24 ∧ ∀ j, j < un → f j = nI (L j)
set_option maxHeartbeats 2000000 in
theorem pLt.sp {n un : Nat} {L : Nat → Nat} (hp : pLt h S n un L) : pSp h S n := by
  obtain ⟨x, f, g, h1, h2, h3, -⟩ := hp
  exact ⟨x, _, f, g, h1, h2, h3⟩
set_option maxHeartbeats 2000000 in
theorem c65_loop {n : Nat} {f : Nat → Nat} (hn : n ≤ 24) : ∀ (m u : Nat) (h : zH), m + u = pLo S n → pRn h 37 n f → pLt h S n u (fun j => f (pSu S n + j)) → (∀ h', pLt h' S n (pLo S n) (fun j => f (pSu S n + j)) → zfr (fun a => 45 ≤ a ∧ a ≤ 47) h h' → Q none N h') → zE X 65 10 [some (.ref 45), some (.ref 37), some (.int (nI (pSu S n + u)))] [] (N, 0, 0) h Q := by
  have b1 : pSu S n ≤ n := Nat.min_le_right _ _
  have b2 : pLo S n ≤ n - pSu S n := Nat.min_le_right _ _
  intro m
  induction m with
  | zero =>
    intro u h hm hr hl K
    obtain rfl : u = pLo S n := by omega
    have hl' := hl
    obtain ⟨x, f1, g, h1, h2, h3, h4, h5⟩ := hl
    rw [e65_10]
    simp (disch := omega) only [e65_0, e65_1, e65_2, e65_5, e65_6, e65_9, e65_11, e65_12, e65_15, e65_16, e65_19, e65_20, e65_23, e65_24, e65_27, e65_29, e65_32, e65_33, e65_36, e65_37, e65_40, e65_41, e65_42, e65_45, e65_46, e65_47, e65_48, e65_51, e65_52, e65_53, e65_56, e65_59, e65_62, h1, zg6_0, zp6_0, zg6_1, zp6_1, zg6_2, zp6_2, zg6_3, zp6_3, zg6_4, zp6_4, zg6_5, zp6_5, zg6_6, zp6_6, zrc_eq, zup_s, zup_n, zup_up, zal_i, zal_b, zal_z, zas_i, zas_b, zas_z, zan_eq, Option.toList_some, Option.toList_none, List.cons_append, List.nil_append, if_true, if_false, ite_true, ite_false, true_or, or_true, nI_add, znI_le, if_pos]
    exact K h hl' zfr.rf
  | succ m ih =>
    intro u h hm hr hl K
    obtain ⟨x, f1, g, h1, h2, h3, h4, h5⟩ := hl
    obtain ⟨o1, -⟩ := hr.obj
    rw [e65_10]
    simp (disch := omega) only [e65_0, e65_1, e65_2, e65_5, e65_6, e65_9, e65_11, e65_12, e65_15, e65_16, e65_19, e65_20, e65_23, e65_24, e65_27, e65_29, e65_32, e65_33, e65_36, e65_37, e65_40, e65_41, e65_42, e65_45, e65_46, e65_47, e65_48, e65_51, e65_52, e65_53, e65_56, e65_59, e65_62, h1, h2, o1, zg6_0, zp6_0, zg6_1, zp6_1, zg6_2, zp6_2, zg6_3, zp6_3, zg6_4, zp6_4, zg6_5, zp6_5, zg6_6, zp6_6, zrc_eq, zup_s, zup_n, zup_up, zal_i, zal_b, zal_z, zas_i, zas_b, zas_z, zan_eq, Option.toList_some, Option.toList_none, List.cons_append, List.nil_append, if_true, if_false, ite_true, ite_false, true_or, or_true, zc24, nI_add, znI_le, if_neg, c46 hr, nI_1]
    have F1 : zfr (fun a => 45 ≤ a ∧ a ≤ 47) h (va_up (va_up h 46 (.inl (.int, 24, upd f1 u (nI (f (pSu S n + u)))))) 45 (.inr (6, [.int (nI (pSu S n)), .int (nI (pLo S n)), .int (nI (pDr S n)), .int x, .int (nI (u + 1)), .ref 46, .ref 47]))) := zfr.up (by omega) (zfr.up (by omega) zfr.rf)
    refine ih (u + 1) _ (by omega) (hr.kept F1 (by omega)) ⟨x, _, g, zup_s, (zup_n (by omega)).trans zup_s, (zup_n (by omega)).trans ((zup_n (by omega)).trans h3), by omega, fun j hj => ?_⟩ (fun h' c1 c2 => K h' c1 (F1.tr c2))
    by_cases q : j = u
    · subst q; rw [upd_s]
    · rw [upd_n q]; exact h5 j (by omega)
set_option maxHeartbeats 2000000 in
theorem c65 {n : Nat} {f : Nat → Nat} (hr : pRn h 37 n f) (hp : pSp h S n) (K : ∀ h', pLt h' S n (pLo S n) (fun j => f (pSu S n + j)) → zfr (fun a => 45 ≤ a ∧ a ≤ 47) h h' → Q none N h') : zE X 65 0 [some (.ref 45), some (.ref 37), none] [] (N, 0, 0) h Q := by
  obtain ⟨x, y, f1, g, h1, h2, h3⟩ := hp
  obtain ⟨o1, o2⟩ := hr.obj
  simp (disch := omega) only [e65_0, e65_1, e65_2, e65_5, e65_6, e65_9, e65_11, e65_12, e65_15, e65_16, e65_19, e65_20, e65_23, e65_24, e65_27, e65_29, e65_32, e65_33, e65_36, e65_37, e65_40, e65_41, e65_42, e65_45, e65_46, e65_47, e65_48, e65_51, e65_52, e65_53, e65_56, e65_59, e65_62, h1, zg6_0, zp6_0, zg6_1, zp6_1, zg6_2, zp6_2, zg6_3, zp6_3, zg6_4, zp6_4, zg6_5, zp6_5, zg6_6, zp6_6, zrc_eq, zup_s, zup_n, zup_up, zal_i, zal_b, zal_z, zas_i, zas_b, zas_z, zan_eq, Option.toList_some, Option.toList_none, List.cons_append, List.nil_append, if_true, if_false, ite_true, ite_false, true_or, or_true, zc0]
  have F1 : zfr (fun a => 45 ≤ a ∧ a ≤ 47) h (va_up h 45 (.inr (6, [.int (nI (pSu S n)), .int (nI (pLo S n)), .int (nI (pDr S n)), .int x, .int (nI 0), .ref 46, .ref 47]))) := zfr.up (by omega) zfr.rf
  exact c65_loop o2 (pLo S n) 0 _ (by omega) (hr.kept F1 (by omega)) ⟨x, f1, g, zup_s, (zup_n (by omega)).trans h2, (zup_n (by omega)).trans h3, by omega, fun j hj => absurd hj (Nat.not_lt_zero j)⟩ (fun h' c1 c2 => K h' c1 (F1.tr c2))
set_option maxHeartbeats 2000000 in
theorem c66_loop {n un pl v : Nat} {L : Nat → Nat} {l1 l2 l3 : Option Value} {x : Int32} {g : Nat → Int32} (hun : un < 24) : ∀ (m i : Nat) (f : Nat → Int32) (h : zH), m + i = un → pl ≤ i → h 45 = .inr (6, [.int (nI (pSu S n)), .int (nI (pLo S n)), .int (nI (pDr S n)), .int x, .int (nI un), .ref 46, .ref 47]) → h 46 = .inl (.int, 24, f) → h 47 = .inl (.int, 24, g) → (∀ j, j < i → f j = nI (rmAt L pl j)) → (∀ j, i ≤ j → j < un + 1 → f j = nI (L j)) → (∀ h', pLt h' S n un (rmAt L pl) → zfr (fun a => 45 ≤ a ∧ a ≤ 47) h h' → Q (some (.int (nI v))) N h') → zE X 66 55 [some (.ref 45), l1, l2, l3, some (.int (nI v)), some (.int (nI i))] [] (N, 0, 0) h Q := by
  intro m
  induction m with
  | zero =>
    intro i f h hm hp h1 h2 h3 a1 a2 K
    obtain rfl : i = un := by omega
    rw [e66_55]
    simp (disch := omega) only [e66_0, e66_1, e66_4, e66_7, e66_8, e66_11, e66_13, e66_16, e66_18, e66_19, e66_20, e66_21, e66_22, e66_23, e66_24, e66_25, e66_26, e66_27, e66_30, e66_33, e66_34, e66_35, e66_38, e66_39, e66_40, e66_42, e66_43, e66_44, e66_47, e66_48, e66_49, e66_52, e66_53, e66_57, e66_58, e66_61, e66_64, e66_65, e66_68, e66_70, e66_71, e66_74, e66_76, e66_77, e66_78, e66_79, e66_80, e66_83, e66_86, e66_88, h1, zg6_0, zp6_0, zg6_1, zp6_1, zg6_2, zp6_2, zg6_3, zp6_3, zg6_4, zp6_4, zg6_5, zp6_5, zg6_6, zp6_6, zrc_eq, zup_s, zup_n, zup_up, zal_i, zal_b, zal_z, zas_i, zas_b, zas_z, zan_eq, Option.toList_some, Option.toList_none, List.cons_append, List.nil_append, if_true, if_false, ite_true, ite_false, true_or, or_true, znI_le, if_pos]
    exact K h ⟨x, f, g, h1, h2, h3, by omega, a1⟩ zfr.rf
  | succ m ih =>
    intro i f h hm hp h1 h2 h3 a1 a2 K
    rw [e66_55]
    simp (disch := omega) only [e66_0, e66_1, e66_4, e66_7, e66_8, e66_11, e66_13, e66_16, e66_18, e66_19, e66_20, e66_21, e66_22, e66_23, e66_24, e66_25, e66_26, e66_27, e66_30, e66_33, e66_34, e66_35, e66_38, e66_39, e66_40, e66_42, e66_43, e66_44, e66_47, e66_48, e66_49, e66_52, e66_53, e66_57, e66_58, e66_61, e66_64, e66_65, e66_68, e66_70, e66_71, e66_74, e66_76, e66_77, e66_78, e66_79, e66_80, e66_83, e66_86, e66_88, h1, h2, zg6_0, zp6_0, zg6_1, zp6_1, zg6_2, zp6_2, zg6_3, zp6_3, zg6_4, zp6_4, zg6_5, zp6_5, zg6_6, zp6_6, zrc_eq, zup_s, zup_n, zup_up, zal_i, zal_b, zal_z, zas_i, zas_b, zas_z, zan_eq, Option.toList_some, Option.toList_none, List.cons_append, List.nil_append, if_true, if_false, ite_true, ite_false, true_or, or_true, znI_le, if_neg, nI_1]
    refine ih (i + 1) _ _ (by omega) (by omega) ((zup_n (by omega)).trans h1) zup_s ((zup_n (by omega)).trans h3) (fun j hj => ?_) (fun j hj hj2 => ?_) (fun h' c1 c2 => K h' c1 (zfr.up (by omega) c2))
    · by_cases q : j = i
      · subst q; rw [upd_s, a2 _ (by omega) (by omega)]; unfold rmAt; rw [if_neg (by omega)]
      · rw [upd_n q]; exact a1 j (by omega)
    · rw [upd_n (by omega)]; exact a2 j (by omega) hj2
set_option maxHeartbeats 2000000 in
theorem c66 {n un z t : Nat} {L : Nat → Nat} (hz : z ≤ 9999) (ht : t ≤ 24) (hl : pLt h S n (un + 1) L) (K : ∀ h', pLt h' S n un (rmAt L (dPl z t (un + 1))) → zfr (fun a => 45 ≤ a ∧ a ≤ 47) h h' → Q (some (.int (nI (L (dPl z t (un + 1)))))) N h') : zE X 66 0 [some (.ref 45), some (.int (nI z)), some (.int (nI t)), none, none, none] [] (N, 0, 0) h Q := by
  obtain ⟨x, f, g, h1, h2, h3, h4, h5⟩ := hl
  have hzt : z * t + t * t < 2 ^ 31 := by
    have := Nat.mul_le_mul hz ht
    have := Nat.mul_le_mul ht ht
    omega
  have hd : dPl z t (un + 1) < un + 1 := Nat.mod_lt _ (by omega)
  have e1 : (nI (un + 1) ≤ 0) = False := eq_false (nI_nle (by omega) (by omega))
  have em : (z * t + t * t) % (un + 1) = dPl z t (un + 1) := rfl
  simp (disch := omega) only [e66_0, e66_1, e66_4, e66_7, e66_8, e66_11, e66_13, e66_16, e66_18, e66_19, e66_20, e66_21, e66_22, e66_23, e66_24, e66_25, e66_26, e66_27, e66_30, e66_33, e66_34, e66_35, e66_38, e66_39, e66_40, e66_42, e66_43, e66_44, e66_47, e66_48, e66_49, e66_52, e66_53, e66_57, e66_58, e66_61, e66_64, e66_65, e66_68, e66_70, e66_71, e66_74, e66_76, e66_77, e66_78, e66_79, e66_80, e66_83, e66_86, e66_88, h1, h2, zg6_0, zp6_0, zg6_1, zp6_1, zg6_2, zp6_2, zg6_3, zp6_3, zg6_4, zp6_4, zg6_5, zp6_5, zg6_6, zp6_6, zrc_eq, zup_s, zup_n, zup_up, zal_i, zal_b, zal_z, zas_i, zas_b, zas_z, zan_eq, Option.toList_some, Option.toList_none, List.cons_append, List.nil_append, if_true, if_false, ite_true, ite_false, true_or, or_true, zc24, e1, znI_le, if_pos, pk_mul, nI_add, c67n, em, nI_pred, h5 _ hd]
  have F1 : zfr (fun a => 45 ≤ a ∧ a ≤ 47) h (va_up h 45 (.inr (6, [.int (nI (pSu S n)), .int (nI (pLo S n)), .int (nI (pDr S n)), .int x, .int (nI un), .ref 46, .ref 47]))) := zfr.up (by omega) zfr.rf
  refine c66_loop (pl := dPl z t (un + 1)) (L := L) (by omega) (un - dPl z t (un + 1)) (dPl z t (un + 1)) f _ (by omega) (Nat.le_refl _) zup_s ((zup_n (by omega)).trans h2) ((zup_n (by omega)).trans h3) (fun j hj => ?_) (fun j hj hj2 => h5 j hj2) (fun h' c1 c2 => K h' c1 (F1.tr c2))
  rw [h5 j (by omega)]
  unfold rmAt
  rw [if_pos hj]
def aDrawn (S : zSh) (T : zTm) (p d z t : Int32) : Int32 := if isPan S.2.1.1 p ∧ isDr d ∧ (0 ≤ z ∧ z ≤ 9999) ∧ 1 ≤ t then (if t.toNatClampNeg ≤ pDr S (oN S T) then nI (drw z.toNatClampNeg (fun j => oF S T p d (pSu S (oN S T) + j)) (pLo S (oN S T)) (t.toNatClampNeg - 1)) else -4) else -1
set_option maxHeartbeats 2000000 in
theorem c62_73 {n t z : Nat} {L : Nat → Nat} {l1 l2 : Option Value} (hz : z ≤ 9999) (ht : t ≤ 24) (htl : t ≤ pLo S n) (ht1 : 1 ≤ t) : ∀ (m u : Nat) (h : zH) (v : Int32), m + u = t → (∀ u', u = u' + 1 → v = nI (drw z L (pLo S n) u')) → h 0 = pObj ld dd kp → pLt h S n (pLo S n - u) (lotAt z L (pLo S n) u) → (∀ h', pSp h' S n → zfr (fun a => 45 ≤ a ∧ a ≤ 47) h h' → Q (some (.int (nI (drw z L (pLo S n) (t - 1))))) N h') → zE X 62 73 [some (.ref 0), l1, l2, some (.int (nI z)), some (.int (nI t)), some (.int v), some (.int (nI (u + 1)))] [] (N, 0, 0) h Q := by
  have hlo : pLo S n = (pLo S n - t) + t := by omega
  intro m
  induction m with
  | zero =>
    intro u h v hm hv h0 hl K
    obtain rfl : u = t := by omega
    rw [e62_73]
    simp (disch := omega) only [e62_0, e62_1, e62_2, e62_5, e62_8, e62_9, e62_12, e62_15, e62_16, e62_17, e62_20, e62_23, e62_26, e62_28, e62_29, e62_32, e62_33, e62_34, e62_35, e62_36, e62_37, e62_40, e62_42, e62_43, e62_46, e62_49, e62_52, e62_54, e62_55, e62_56, e62_59, e62_60, e62_63, e62_66, e62_68, e62_70, e62_71, e62_75, e62_77, e62_80, e62_81, e62_84, e62_85, e62_87, e62_90, e62_92, e62_95, e62_98, e62_100, znI_lt, if_pos]
    have := hv (u - 1) (by omega)
    rw [this]
    exact K h hl.sp zfr.rf
  | succ m ih =>
    intro u h v hm hv h0 hl K
    have h0' := h0
    unfold pObj at h0
    have h45 : ∃ fs, h 45 = .inr (6, fs) := by obtain ⟨x, f, g, h1, -⟩ := hl; exact ⟨_, h1⟩
    obtain ⟨fs, h45⟩ := h45
    have hun : pLo S n - u = (pLo S n - (u + 1)) + 1 := by omega
    rw [hun] at hl
    rw [e62_73]
    simp (disch := omega) only [e62_0, e62_1, e62_2, e62_5, e62_8, e62_9, e62_12, e62_15, e62_16, e62_17, e62_20, e62_23, e62_26, e62_28, e62_29, e62_32, e62_33, e62_34, e62_35, e62_36, e62_37, e62_40, e62_42, e62_43, e62_46, e62_49, e62_52, e62_54, e62_55, e62_56, e62_59, e62_60, e62_63, e62_66, e62_68, e62_70, e62_71, e62_75, e62_77, e62_80, e62_81, e62_84, e62_85, e62_87, e62_90, e62_92, e62_95, e62_98, e62_100, h0, h45, zg9_0, zp9_0, zg9_1, zp9_1, zg9_2, zp9_2, zg9_3, zp9_3, zg9_4, zp9_4, zg9_5, zp9_5, zg9_6, zp9_6, zg9_7, zp9_7, zg9_8, zp9_8, zg9_9, zp9_9, zg9_10, zp9_10, zg9_11, zp9_11, zg9_12, zp9_12, zg9_13, zp9_13, zg9_14, zp9_14, zg9_15, zp9_15, zg9_16, zp9_16, zrc_eq, zup_s, zup_n, zup_up, zal_i, zal_b, zal_z, zas_i, zas_b, zas_z, zan_eq, Option.toList_some, Option.toList_none, List.cons_append, List.nil_append, if_true, if_false, ite_true, ite_false, true_or, or_true, znI_lt, if_neg]
    refine c66 hz (by omega) hl (fun h' c1 c2 => ?_)
    simp (disch := omega) only [e62_0, e62_1, e62_2, e62_5, e62_8, e62_9, e62_12, e62_15, e62_16, e62_17, e62_20, e62_23, e62_26, e62_28, e62_29, e62_32, e62_33, e62_34, e62_35, e62_36, e62_37, e62_40, e62_42, e62_43, e62_46, e62_49, e62_52, e62_54, e62_55, e62_56, e62_59, e62_60, e62_63, e62_66, e62_68, e62_70, e62_71, e62_75, e62_77, e62_80, e62_81, e62_84, e62_85, e62_87, e62_90, e62_92, e62_95, e62_98, e62_100, Option.toList_some, List.cons_append, List.nil_append, nI_1]
    rw [← hun] at c1
    refine ih (u + 1) h' _ (by omega) (fun u' hu => ?_) ((c2 0 (by omega)).trans h0') c1 (fun h2 d1 d2 => K h2 d1 (c2.tr d2))
    obtain rfl : u = u' := by omega
    rw [← hun]
    rfl
set_option maxHeartbeats 2000000 in
theorem zge1' {t : Int32} (h : 1 ≤ t) : ∃ k, 1 ≤ k ∧ k < 2 ^ 31 ∧ t = nI k := by
  have a := Int32.le_iff_toInt_le.mp h
  have e : ((1 : Int32)).toInt = 1 := by decide
  have := Int32.toInt_lt t
  refine ⟨t.toInt.toNat, by omega, by omega, ?_⟩
  apply Int32.toInt_inj.mp
  rw [nI_toInt (by omega)]
  omega
set_option maxHeartbeats 2000000 in
theorem c62 (hc : zCR h ld dd kp S T) (K : ∀ h', zCS h' → zcf h h' → Q (some (.int (aDrawn S T p d z t))) N h') : zE X 62 0 [some (.ref 0), some (.int p), some (.int d), some (.int z), some (.int t), none, none] [] (N, 0, 0) h Q := by
  have hc' := hc
  obtain ⟨h0, hd, hs, ok, ht, cs⟩ := hc
  have h0' := h0
  unfold pObj at h0
  simp only [e62_0, e62_1, e62_2, e62_5, e62_8, e62_9, e62_12, e62_15, e62_16, e62_17, e62_20, e62_23, e62_26, e62_28, e62_29, e62_32, e62_33, e62_35, e62_36, e62_37, e62_40, e62_42, e62_43, e62_46, e62_49, e62_52, e62_54, e62_55, e62_56, e62_59, e62_60, e62_63, e62_66, e62_68, e62_70, e62_71, e62_75, e62_77, e62_80, e62_81, e62_84, e62_85, e62_87, e62_90, e62_92, e62_95, e62_98, e62_100, h0, c41 h0' hs, c37, c13, zrc_eq, zup_s, zup_n, zup_up, zal_i, zal_b, zal_z, zas_i, zas_b, zas_z, zan_eq, Option.toList_some, Option.toList_none, List.cons_append, List.nil_append, if_true, if_false, ite_true, ite_false, true_or, or_true, z10, z00]
  unfold aDrawn at K
  by_cases g1 : isPan S.2.1.1 p
  · rw [if_pos g1]
    by_cases g2 : isDr d
    · rw [if_pos g2]
      by_cases g3 : 0 ≤ z ∧ z ≤ 9999
      · rw [if_pos g3]
        by_cases g4 : 1 ≤ t
        · rw [if_pos g4]
          rw [if_pos ⟨g1, g2, g3, g4⟩] at K
          obtain ⟨zn, -, hzn, rfl⟩ := zrange (lo := 0) (hi := 9999) (by decide) g3.1 g3.2 (by decide)
          obtain ⟨tn, ht1, ht2, rfl⟩ := zge1' g4
          rw [nI_clamp ht2, nI_clamp (by omega)] at K
          simp (disch := omega) only [e62_0, e62_1, e62_2, e62_5, e62_8, e62_9, e62_12, e62_15, e62_16, e62_17, e62_20, e62_23, e62_26, e62_28, e62_29, e62_32, e62_33, e62_34, e62_35, e62_36, e62_37, e62_40, e62_42, e62_43, e62_46, e62_49, e62_52, e62_54, e62_55, e62_56, e62_59, e62_60, e62_63, e62_66, e62_68, e62_70, e62_71, e62_75, e62_77, e62_80, e62_81, e62_84, e62_85, e62_87, e62_90, e62_92, e62_95, e62_98, e62_100, h0, zg9_0, zp9_0, zg9_1, zp9_1, zg9_2, zp9_2, zg9_3, zp9_3, zg9_4, zp9_4, zg9_5, zp9_5, zg9_6, zp9_6, zg9_7, zp9_7, zg9_8, zp9_8, zg9_9, zp9_9, zg9_10, zp9_10, zg9_11, zp9_11, zg9_12, zp9_12, zg9_13, zp9_13, zg9_14, zp9_14, zg9_15, zp9_15, zg9_16, zp9_16, zrc_eq, zup_s, zup_n, zup_up, zal_i, zal_b, zal_z, zas_i, zas_b, zas_z, zan_eq, Option.toList_some, Option.toList_none, List.cons_append, List.nil_append, if_true, if_false, ite_true, ite_false, true_or, or_true]
          refine c63 hc' (fun h' a1 a2 a3 a4 => ?_)
          have e0 := (a4 0 (by omega)).trans h0
          have a2' := a2
          obtain ⟨x, y, f, g, s1, s2, s3⟩ := a2
          obtain ⟨o1, o2⟩ := a1.obj
          have b3 : pLo S (oN S T) ≤ oN S T - pSu S (oN S T) := Nat.min_le_right _ _
          have b4 : pDr S (oN S T) ≤ pLo S (oN S T) := Nat.min_le_right _ _
          by_cases g5 : tn ≤ pDr S (oN S T)
          · rw [if_pos g5] at K
            simp (disch := omega) only [e62_0, e62_1, e62_2, e62_5, e62_8, e62_9, e62_12, e62_15, e62_16, e62_17, e62_20, e62_23, e62_26, e62_28, e62_29, e62_32, e62_33, e62_34, e62_35, e62_36, e62_37, e62_40, e62_42, e62_43, e62_46, e62_49, e62_52, e62_54, e62_55, e62_56, e62_59, e62_60, e62_63, e62_66, e62_68, e62_70, e62_71, e62_75, e62_77, e62_80, e62_81, e62_84, e62_85, e62_87, e62_90, e62_92, e62_95, e62_98, e62_100, Option.toList_none, List.nil_append, e0, s1, zg9_0, zp9_0, zg9_1, zp9_1, zg9_2, zp9_2, zg9_3, zp9_3, zg9_4, zp9_4, zg9_5, zp9_5, zg9_6, zp9_6, zg9_7, zp9_7, zg9_8, zp9_8, zg9_9, zp9_9, zg9_10, zp9_10, zg9_11, zp9_11, zg9_12, zp9_12, zg9_13, zp9_13, zg9_14, zp9_14, zg9_15, zp9_15, zg9_16, zp9_16, zg6_0, zp6_0, zg6_1, zp6_1, zg6_2, zp6_2, zg6_3, zp6_3, zg6_4, zp6_4, zg6_5, zp6_5, zg6_6, zp6_6, zrc_eq, zup_s, zup_n, zup_up, zal_i, zal_b, zal_z, zas_i, zas_b, zas_z, zan_eq, Option.toList_some, Option.toList_none, List.cons_append, List.nil_append, if_true, if_false, ite_true, ite_false, true_or, or_true, znI_le, if_pos]
            refine c65 a1 a2' (fun h2 b1 b2 => ?_)
            simp (disch := omega) only [e62_0, e62_1, e62_2, e62_5, e62_8, e62_9, e62_12, e62_15, e62_16, e62_17, e62_20, e62_23, e62_26, e62_28, e62_29, e62_32, e62_33, e62_34, e62_35, e62_36, e62_37, e62_40, e62_42, e62_43, e62_46, e62_49, e62_52, e62_54, e62_55, e62_56, e62_59, e62_60, e62_63, e62_66, e62_68, e62_70, e62_71, e62_75, e62_77, e62_80, e62_81, e62_84, e62_85, e62_87, e62_90, e62_92, e62_95, e62_98, e62_100, Option.toList_none, List.nil_append]
            refine c62_73 (u := 0) hzn (by omega) (by omega) ht1 tn h2 _ (by omega) (fun u' hu => by omega) ((b2 0 (by omega)).trans ((a4 0 (by omega)).trans h0')) b1 (fun h3 c1 c2 => ?_)
            have F2 := b2.tr c2
            exact K h3 (a3.2.2.2.2.2.sp F2 c1.qq) (a4.tr (F2.mono (fun a ha => by omega)))
          · rw [if_neg g5] at K
            simp (disch := omega) only [e62_0, e62_1, e62_2, e62_5, e62_8, e62_9, e62_12, e62_15, e62_16, e62_17, e62_20, e62_23, e62_26, e62_28, e62_29, e62_32, e62_33, e62_34, e62_35, e62_36, e62_37, e62_40, e62_42, e62_43, e62_46, e62_49, e62_52, e62_54, e62_55, e62_56, e62_59, e62_60, e62_63, e62_66, e62_68, e62_70, e62_71, e62_75, e62_77, e62_80, e62_81, e62_84, e62_85, e62_87, e62_90, e62_92, e62_95, e62_98, e62_100, Option.toList_none, List.nil_append, e0, s1, zg9_0, zp9_0, zg9_1, zp9_1, zg9_2, zp9_2, zg9_3, zp9_3, zg9_4, zp9_4, zg9_5, zp9_5, zg9_6, zp9_6, zg9_7, zp9_7, zg9_8, zp9_8, zg9_9, zp9_9, zg9_10, zp9_10, zg9_11, zp9_11, zg9_12, zp9_12, zg9_13, zp9_13, zg9_14, zp9_14, zg9_15, zp9_15, zg9_16, zp9_16, zg6_0, zp6_0, zg6_1, zp6_1, zg6_2, zp6_2, zg6_3, zp6_3, zg6_4, zp6_4, zg6_5, zp6_5, zg6_6, zp6_6, zrc_eq, zup_s, zup_n, zup_up, zal_i, zal_b, zal_z, zas_i, zas_b, zas_z, zan_eq, Option.toList_some, Option.toList_none, List.cons_append, List.nil_append, if_true, if_false, ite_true, ite_false, true_or, or_true, znI_le, if_neg]
            exact K h' a3.2.2.2.2.2 a4
        · rw [if_neg g4]
          rw [if_neg (fun z => g4 z.2.2.2)] at K
          exact K h cs zfr.rf
      · rw [if_neg g3]
        rw [if_neg (fun z => g3 z.2.2.1)] at K
        exact K h cs zfr.rf
    · rw [if_neg g2]
      rw [if_neg (fun z => g2 z.2.1)] at K
      exact K h cs zfr.rf
  · rw [if_neg g1]
    rw [if_neg (fun z => g1 z.1)] at K
    exact K h cs zfr.rf
/-- the chance of a rank -/
def chA (su lo dr r : Nat) : Nat := if r < su then 1 else if r < su + lo then dr else 0
def chB (su lo r : Nat) : Nat := if r < su then 1 else if r < su + lo then lo else 1
set_option maxHeartbeats 2000000 in
theorem c69 {n r : Nat} {x y : Int32} (hp : pSp h S n) (hn : n ≤ 24) (hr : r < 24) (h1 : h 49 = .inr (3, [.int x, .int y])) : zE X 69 0 [some (.ref 45), some (.int (nI r)), some (.ref 49)] [] (N, 0, 0) h Q = Q none N (va_up h 49 (.inr (3, [.int (nI (chA (pSu S n) (pLo S n) (pDr S n) r / Nat.gcd (chA (pSu S n) (pLo S n) (pDr S n) r) (chB (pSu S n) (pLo S n) r))), .int (nI (chB (pSu S n) (pLo S n) r / Nat.gcd (chA (pSu S n) (pLo S n) (pDr S n) r) (chB (pSu S n) (pLo S n) r)))]))) := by
  obtain ⟨a, b, f, g, s1, s2, s3⟩ := hp
  have b1 : pSu S n ≤ n := Nat.min_le_right _ _
  have b2 : pLo S n ≤ n - pSu S n := Nat.min_le_right _ _
  have b4 : pDr S n ≤ pLo S n := Nat.min_le_right _ _
  unfold chA chB
  by_cases g1 : r < pSu S n
  · rw [if_pos g1, if_pos g1]
    simp (disch := omega) only [e69_0, e69_1, e69_2, e69_5, e69_8, e69_9, e69_10, e69_11, e69_14, e69_17, e69_18, e69_19, e69_22, e69_23, e69_26, e69_27, e69_30, e69_31, e69_32, e69_35, e69_36, e69_39, e69_42, e69_45, e69_46, e69_47, e69_48, e69_51, s1, h1, zg6_0, zp6_0, zg6_1, zp6_1, zg6_2, zp6_2, zg6_3, zp6_3, zg6_4, zp6_4, zg6_5, zp6_5, zg6_6, zp6_6, zrc_eq, zup_s, zup_n, zup_up, zal_i, zal_b, zal_z, zas_i, zas_b, zas_z, zan_eq, Option.toList_some, Option.toList_none, List.cons_append, List.nil_append, if_true, if_false, ite_true, ite_false, true_or, or_true, zc1, znI_le, if_neg, c57' (a := 1) (b := 1) (by decide) (by decide) (by decide) h1]
  · rw [if_neg g1, if_neg g1]
    by_cases g2 : r < pSu S n + pLo S n
    · rw [if_pos g2, if_pos g2]
      simp (disch := omega) only [e69_0, e69_1, e69_2, e69_5, e69_8, e69_9, e69_10, e69_11, e69_14, e69_17, e69_18, e69_19, e69_22, e69_23, e69_26, e69_27, e69_30, e69_31, e69_32, e69_35, e69_36, e69_39, e69_42, e69_45, e69_46, e69_47, e69_48, e69_51, s1, h1, zg6_0, zp6_0, zg6_1, zp6_1, zg6_2, zp6_2, zg6_3, zp6_3, zg6_4, zp6_4, zg6_5, zp6_5, zg6_6, zp6_6, zrc_eq, zup_s, zup_n, zup_up, zal_i, zal_b, zal_z, zas_i, zas_b, zas_z, zan_eq, Option.toList_some, Option.toList_none, List.cons_append, List.nil_append, if_true, if_false, ite_true, ite_false, true_or, or_true, znI_le, if_pos, if_neg, nI_add, c57' (a := pDr S n) (b := pLo S n) (by omega) (by omega) (by omega) h1]
    · rw [if_neg g2, if_neg g2]
      simp (disch := omega) only [e69_0, e69_1, e69_2, e69_5, e69_8, e69_9, e69_10, e69_11, e69_14, e69_17, e69_18, e69_19, e69_22, e69_23, e69_26, e69_27, e69_30, e69_31, e69_32, e69_35, e69_36, e69_39, e69_42, e69_45, e69_46, e69_47, e69_48, e69_51, s1, h1, zg6_0, zp6_0, zg6_1, zp6_1, zg6_2, zp6_2, zg6_3, zp6_3, zg6_4, zp6_4, zg6_5, zp6_5, zg6_6, zp6_6, zrc_eq, zup_s, zup_n, zup_up, zal_i, zal_b, zal_z, zas_i, zas_b, zas_z, zan_eq, Option.toList_some, Option.toList_none, List.cons_append, List.nil_append, if_true, if_false, ite_true, ite_false, true_or, or_true, zc0, zc1, znI_le, if_pos, if_neg, nI_add, c57' (a := 0) (b := 1) (by decide) (by decide) (by decide) h1]
def aChance (S : zSh) (T : zTm) (p d i w : Int32) : Int32 := if isPan S.2.1.1 p ∧ isDr d ∧ isNo S.1.1 i ∧ (0 ≤ w ∧ w ≤ 1) then (if T.2.2.1 (sA S i.toNatClampNeg) = 0 then (if w = 0 then nI (chA (pSu S (oN S T)) (pLo S (oN S T)) (pDr S (oN S T)) (zIx (oF S T p d) i.toNatClampNeg (oN S T)) / Nat.gcd (chA (pSu S (oN S T)) (pLo S (oN S T)) (pDr S (oN S T)) (zIx (oF S T p d) i.toNatClampNeg (oN S T))) (chB (pSu S (oN S T)) (pLo S (oN S T)) (zIx (oF S T p d) i.toNatClampNeg (oN S T)))) else nI (chB (pSu S (oN S T)) (pLo S (oN S T)) (zIx (oF S T p d) i.toNatClampNeg (oN S T)) / Nat.gcd (chA (pSu S (oN S T)) (pLo S (oN S T)) (pDr S (oN S T)) (zIx (oF S T p d) i.toNatClampNeg (oN S T))) (chB (pSu S (oN S T)) (pLo S (oN S T)) (zIx (oF S T p d) i.toNatClampNeg (oN S T))))) else -2) else -1
set_option maxHeartbeats 2000000 in
theorem oOkN : oOk (tIn S T) S.1.1 (oN S T) (oF S T p d) := by
  have := zO_ok (S := S) (T := T) (p := p) (d := d) (hc := 1) S.1.1
  rw [oN_eq] at this
  exact this
set_option maxHeartbeats 2000000 in
theorem c68 (hc : zCR h ld dd kp S T) (K : ∀ h', zCS h' → zcf h h' → Q (some (.int (aChance S T p d i w))) N h') : zE X 68 0 [some (.ref 0), some (.int p), some (.int d), some (.int i), some (.int w), none] [] (N, 0, 0) h Q := by
  have hc' := hc
  obtain ⟨h0, hd, hs, ok, ht, cs⟩ := hc
  have h0' := h0
  unfold pObj at h0
  have b24 := ok.1.1
  simp only [e68_0, e68_1, e68_2, e68_5, e68_8, e68_9, e68_12, e68_15, e68_16, e68_17, e68_20, e68_23, e68_25, e68_26, e68_27, e68_30, e68_33, e68_34, e68_36, e68_37, e68_38, e68_41, e68_42, e68_45, e68_46, e68_49, e68_51, e68_53, e68_55, e68_58, e68_60, e68_61, e68_62, e68_65, e68_67, e68_68, e68_71, e68_74, e68_76, e68_79, e68_80, e68_83, e68_86, e68_89, e68_90, e68_93, e68_96, h0, c41 h0' hs, c37, c35 h0' hs, c13, zrc_eq, zup_s, zup_n, zup_up, zal_i, zal_b, zal_z, zas_i, zas_b, zas_z, zan_eq, Option.toList_some, Option.toList_none, List.cons_append, List.nil_append, if_true, if_false, ite_true, ite_false, true_or, or_true, z10, z00]
  unfold aChance at K
  by_cases g1 : isPan S.2.1.1 p
  · rw [if_pos g1]
    by_cases g2 : isDr d
    · rw [if_pos g2]
      by_cases g3 : isNo S.1.1 i
      · rw [if_pos g3]
        by_cases g4 : 0 ≤ w ∧ w ≤ 1
        · rw [if_pos g4]
          rw [if_pos ⟨g1, g2, g3, g4⟩] at K
          obtain ⟨a, ha, rfl⟩ := g3.nat (by omega)
          rw [nI_clamp (by omega)] at K
          simp (disch := omega) only [e68_0, e68_1, e68_2, e68_5, e68_8, e68_9, e68_12, e68_15, e68_16, e68_17, e68_20, e68_23, e68_25, e68_26, e68_27, e68_30, e68_33, e68_34, e68_35, e68_36, e68_37, e68_38, e68_41, e68_42, e68_45, e68_46, e68_49, e68_51, e68_53, e68_55, e68_58, e68_60, e68_61, e68_62, e68_65, e68_67, e68_68, e68_71, e68_74, e68_76, e68_79, e68_80, e68_83, e68_86, e68_89, e68_90, e68_93, e68_96, h0, zg9_0, zp9_0, zg9_1, zp9_1, zg9_2, zp9_2, zg9_3, zp9_3, zg9_4, zp9_4, zg9_5, zp9_5, zg9_6, zp9_6, zg9_7, zp9_7, zg9_8, zp9_8, zg9_9, zp9_9, zg9_10, zp9_10, zg9_11, zp9_11, zg9_12, zp9_12, zg9_13, zp9_13, zg9_14, zp9_14, zg9_15, zp9_15, zg9_16, zp9_16, zrc_eq, zup_s, zup_n, zup_up, zal_i, zal_b, zal_z, zas_i, zas_b, zas_z, zan_eq, Option.toList_some, Option.toList_none, List.cons_append, List.nil_append, if_true, if_false, ite_true, ite_false, true_or, or_true]
          refine c63 hc' (fun h' a1 a2 a3 a4 => ?_)
          have e0 := (a4 0 (by omega)).trans h0
          obtain ⟨o1, o2⟩ := a1.obj
          obtain ⟨x, y, r3⟩ := a3.2.2.2.2.2.2.2.2.2.1
          have h45 : ∃ fs, h' 45 = .inr (6, fs) := by obtain ⟨x, y, f, g, h1, -⟩ := a2; exact ⟨_, h1⟩
          obtain ⟨fs, h45⟩ := h45
          have hO := oOkN (S := S) (T := T) (p := p) (d := d)
          by_cases g5 : T.2.2.1 (sA S a) = 0
          · rw [if_pos g5] at K
            obtain ⟨z1, z2⟩ := zIx_lt _ (hO.2.2.1 a ha g5)
            have er : ∀ Q', zE X 53 0 [some (.ref 37), some (.int (nI a))] [] (N, 0, 0) h' Q' = Q' (some (.int (nI (zIx (oF S T p d) a (oN S T))))) N h' := fun Q' => by
              have := c53 (X := X) (N := N) (Q := Q') a1 z1
              rwa [z2] at this
            have n4 : (nI (zIx (oF S T p d) a (oN S T)) = -4) = False := eq_false (fun z => by
              have := congrArg Int32.toInt z
              rw [nI_toInt (by omega), show ((-4 : Int32)).toInt = -4 from by decide] at this
              omega)
            have E := fun Q' => c69 (X := X) (N := N) (Q := Q') (r := zIx (oF S T p d) a (oN S T)) a2 o2 (by omega) r3
            simp (disch := omega) only [e68_0, e68_1, e68_2, e68_5, e68_8, e68_9, e68_12, e68_15, e68_16, e68_17, e68_20, e68_23, e68_25, e68_26, e68_27, e68_30, e68_33, e68_34, e68_35, e68_36, e68_37, e68_38, e68_41, e68_42, e68_45, e68_46, e68_49, e68_51, e68_53, e68_55, e68_58, e68_60, e68_61, e68_62, e68_65, e68_67, e68_68, e68_71, e68_76, e68_79, e68_80, e68_83, e68_86, e68_89, e68_90, e68_93, e68_96, Option.toList_none, List.nil_append, e0, o1, h45, zg9_0, zp9_0, zg9_1, zp9_1, zg9_2, zp9_2, zg9_3, zp9_3, zg9_4, zp9_4, zg9_5, zp9_5, zg9_6, zp9_6, zg9_7, zp9_7, zg9_8, zp9_8, zg9_9, zp9_9, zg9_10, zp9_10, zg9_11, zp9_11, zg9_12, zp9_12, zg9_13, zp9_13, zg9_14, zp9_14, zg9_15, zp9_15, zg9_16, zp9_16, zrc_eq, zup_s, zup_n, zup_up, zal_i, zal_b, zal_z, zas_i, zas_b, zas_z, zan_eq, Option.toList_some, Option.toList_none, List.cons_append, List.nil_append, if_true, if_false, ite_true, ite_false, true_or, or_true, er, n4, E]
            have F2 : zfr (fun a => a = 49) h' (va_up h' 49 (.inr (3, [.int (nI (chA (pSu S (oN S T)) (pLo S (oN S T)) (pDr S (oN S T)) (zIx (oF S T p d) a (oN S T)) / Nat.gcd (chA (pSu S (oN S T)) (pLo S (oN S T)) (pDr S (oN S T)) (zIx (oF S T p d) a (oN S T))) (chB (pSu S (oN S T)) (pLo S (oN S T)) (zIx (oF S T p d) a (oN S T))))), .int (nI (chB (pSu S (oN S T)) (pLo S (oN S T)) (zIx (oF S T p d) a (oN S T)) / Nat.gcd (chA (pSu S (oN S T)) (pLo S (oN S T)) (pDr S (oN S T)) (zIx (oF S T p d) a (oN S T))) (chB (pSu S (oN S T)) (pLo S (oN S T)) (zIx (oF S T p d) a (oN S T)))))]))) := zfr.up rfl zfr.rf
            have e02 := (F2 0 (by omega)).trans e0
            have k2 := K _ (a3.2.2.2.2.2.ra F2 ⟨_, _, zup_s⟩) (a4.tr (F2.mono (R := fun a => 37 ≤ a ∧ a ≤ 52) (fun a ha => by omega)))
            by_cases g6 : w = 0
            · rw [if_pos g6] at k2
              simp (disch := omega) only [e68_0, e68_1, e68_2, e68_5, e68_8, e68_9, e68_12, e68_15, e68_16, e68_17, e68_20, e68_23, e68_25, e68_26, e68_27, e68_30, e68_33, e68_34, e68_35, e68_36, e68_37, e68_38, e68_41, e68_42, e68_45, e68_46, e68_49, e68_51, e68_53, e68_55, e68_58, e68_60, e68_61, e68_62, e68_65, e68_67, e68_68, e68_71, e68_74, e68_76, e68_79, e68_80, e68_83, e68_86, e68_89, e68_90, e68_93, e68_96, Option.toList_none, List.nil_append, e02, zup_s, zg9_0, zp9_0, zg9_1, zp9_1, zg9_2, zp9_2, zg9_3, zp9_3, zg9_4, zp9_4, zg9_5, zp9_5, zg9_6, zp9_6, zg9_7, zp9_7, zg9_8, zp9_8, zg9_9, zp9_9, zg9_10, zp9_10, zg9_11, zp9_11, zg9_12, zp9_12, zg9_13, zp9_13, zg9_14, zp9_14, zg9_15, zp9_15, zg9_16, zp9_16, zg3_0, zp3_0, zg3_1, zp3_1, zrc_eq, zup_s, zup_n, zup_up, zal_i, zal_b, zal_z, zas_i, zas_b, zas_z, zan_eq, Option.toList_some, Option.toList_none, List.cons_append, List.nil_append, if_true, if_false, ite_true, ite_false, true_or, or_true, g6, ↓reduceIte]
              exact k2
            · rw [if_neg g6] at k2
              simp (disch := omega) only [e68_0, e68_1, e68_2, e68_5, e68_8, e68_9, e68_12, e68_15, e68_16, e68_17, e68_20, e68_23, e68_25, e68_26, e68_27, e68_30, e68_33, e68_34, e68_35, e68_36, e68_37, e68_38, e68_41, e68_42, e68_45, e68_46, e68_49, e68_51, e68_53, e68_55, e68_58, e68_60, e68_61, e68_62, e68_65, e68_67, e68_68, e68_71, e68_74, e68_76, e68_79, e68_80, e68_83, e68_86, e68_89, e68_90, e68_93, e68_96, Option.toList_none, List.nil_append, e02, zup_s, zg9_0, zp9_0, zg9_1, zp9_1, zg9_2, zp9_2, zg9_3, zp9_3, zg9_4, zp9_4, zg9_5, zp9_5, zg9_6, zp9_6, zg9_7, zp9_7, zg9_8, zp9_8, zg9_9, zp9_9, zg9_10, zp9_10, zg9_11, zp9_11, zg9_12, zp9_12, zg9_13, zp9_13, zg9_14, zp9_14, zg9_15, zp9_15, zg9_16, zp9_16, zg3_0, zp3_0, zg3_1, zp3_1, zrc_eq, zup_s, zup_n, zup_up, zal_i, zal_b, zal_z, zas_i, zas_b, zas_z, zan_eq, Option.toList_some, Option.toList_none, List.cons_append, List.nil_append, if_true, if_false, ite_true, ite_false, true_or, or_true, g6, ↓reduceIte]
              exact k2
          · rw [if_neg g5] at K
            have er := fun Q' => c53n (X := X) (N := N) (Q := Q') a1 (i := a) (by omega) (fun j hj z => g5 (by have := (hO.2.1 j hj).2; rw [z] at this; exact this))
            simp (disch := omega) only [e68_0, e68_1, e68_2, e68_5, e68_8, e68_9, e68_12, e68_15, e68_16, e68_17, e68_20, e68_23, e68_25, e68_26, e68_27, e68_30, e68_33, e68_34, e68_35, e68_36, e68_37, e68_38, e68_41, e68_42, e68_45, e68_46, e68_49, e68_51, e68_53, e68_55, e68_58, e68_60, e68_61, e68_62, e68_65, e68_67, e68_68, e68_71, e68_74, e68_76, e68_79, e68_80, e68_83, e68_86, e68_89, e68_90, e68_93, e68_96, Option.toList_none, List.nil_append, e0, o1, zg9_0, zp9_0, zg9_1, zp9_1, zg9_2, zp9_2, zg9_3, zp9_3, zg9_4, zp9_4, zg9_5, zp9_5, zg9_6, zp9_6, zg9_7, zp9_7, zg9_8, zp9_8, zg9_9, zp9_9, zg9_10, zp9_10, zg9_11, zp9_11, zg9_12, zp9_12, zg9_13, zp9_13, zg9_14, zp9_14, zg9_15, zp9_15, zg9_16, zp9_16, zrc_eq, zup_s, zup_n, zup_up, zal_i, zal_b, zal_z, zas_i, zas_b, zas_z, zan_eq, Option.toList_some, Option.toList_none, List.cons_append, List.nil_append, if_true, if_false, ite_true, ite_false, true_or, or_true, er]
            exact K h' a3.2.2.2.2.2 a4
        · rw [if_neg g4]
          rw [if_neg (fun z => g4 z.2.2.2)] at K
          exact K h cs zfr.rf
      · rw [if_neg g3]
        rw [if_neg (fun z => g3 z.2.2.1)] at K
        exact K h cs zfr.rf
    · rw [if_neg g2]
      rw [if_neg (fun z => g2 z.2.1)] at K
      exact K h cs zfr.rf
  · rw [if_neg g1]
    rw [if_neg (fun z => g1 z.1)] at K
    exact K h cs zfr.rf
end C41
