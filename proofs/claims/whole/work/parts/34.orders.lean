-- marks and orders, as both make them
section C34
/-- the number of a plan's writer -/
def sA (S : zSh) (i : Nat) : Nat := (S.1.2.2.2 i).toNatClampNeg
set_option maxHeartbeats 1000000 in
theorem sK.au {S : zSh} (h : sK S) {i : Nat} (hi : i < S.1.1) : S.1.2.2.2 i = nI (sA S i) ∧ sA S i < 8 := by
  obtain ⟨a, b, c, -, -, hc, -, -, e⟩ := h.1.2 i hi
  have : sA S i = c := by unfold sA; rw [e, nI_clamp (by omega)]
  rw [this]
  exact ⟨e, hc⟩
def zsti (d : Int32) (i j : Nat) : Int32 := 2711 * (24 * (6 * d + nI j) + nI i) + 1777 - (2711 * (24 * (6 * d + nI j) + nI i) + 1777) / 7919 * 7919
/-- MARK of plan i by judge j in draw d, its writer has had hd -/
def zMk (S : zSh) (d hd : Int32) (i j : Nat) : Int32 := S.1.2.1 i + S.2.1.2.1 j * S.1.2.2.1 i + 10 * S.2.1.2.2.1 j * hd + (zsti d i j - zsti d i j / (2 * S.2.1.2.2.2 j + 1) * (2 * S.2.1.2.2.2 j + 1) - S.2.1.2.2.2 j)
abbrev zhas (p : Int32) (j : Nat) : Prop := (p >>> (nI j &&& 31)) &&& 1 = 1
/-- marks of the first judges that are of the panel, together -/
def zPm (S : zSh) (p d hd : Int32) (i : Nat) : Nat → Int32
  | 0 => 0
  | j + 1 => zPm S p d hd i j + (if zhas p j then zMk S d hd i j else 0)
/-- by what an order is made -/
def zM (S : zSh) (T : zTm) (p d hc : Int32) (i : Nat) : Int32 := if p = 0 then S.1.2.1 i else zPm S p d (if hc = 0 then 0 else T.1 (sA S i)) i S.2.1.1
def oPos (m : Nat → Int32) (f : Nat → Nat) (x : Int32) : Nat → Nat
  | 0 => 0
  | k + 1 => if m (f k) < x then oPos m f x k else k + 1
def insAt (f : Nat → Nat) (p i : Nat) : Nat → Nat := fun j => if j < p then f j else if j = p then i else f (j - 1)
/-- the order of the first k plans: how many, which at a rank -/
def zO (S : zSh) (T : zTm) (p d hc : Int32) : Nat → Nat × (Nat → Nat)
  | 0 => (0, fun _ => 0)
  | i + 1 => if T.2.2.1 (sA S i) = 0 then ((zO S T p d hc i).1 + 1, insAt (zO S T p d hc i).2 (oPos (zM S T p d hc) (zO S T p d hc i).2 (zM S T p d hc i) (zO S T p d hc i).1) i) else zO S T p d hc i
set_option maxHeartbeats 1000000 in
theorem oPos_le (m : Nat → Int32) (f : Nat → Nat) (x : Int32) : ∀ k, oPos m f x k ≤ k
  | 0 => Nat.le_refl 0
  | k + 1 => by
    rw [oPos]
    split
    · exact Nat.le_succ_of_le (oPos_le m f x k)
    · exact Nat.le_refl _
set_option maxHeartbeats 1000000 in
theorem insAt_lt {f : Nat → Nat} {p i j : Nat} (h : j < p) : insAt f p i j = f j := by unfold insAt; rw [if_pos h]
set_option maxHeartbeats 1000000 in
theorem insAt_eq {f : Nat → Nat} {p i : Nat} : insAt f p i p = i := by unfold insAt; rw [if_neg (by omega), if_pos rfl]
set_option maxHeartbeats 1000000 in
theorem insAt_gt {f : Nat → Nat} {p i j : Nat} (h : p < j) : insAt f p i j = f (j - 1) := by unfold insAt; rw [if_neg (by omega), if_neg (by omega)]
/-- what is behind an order: of the first k plans just those that take part, each once -/
def oOk (P : Nat → Prop) (k n : Nat) (f : Nat → Nat) : Prop := n ≤ k ∧ (∀ j, j < n → f j < k ∧ P (f j)) ∧ (∀ i, i < k → P i → ∃ j, j < n ∧ f j = i) ∧ (∀ a b, a < n → b < n → f a = f b → a = b)
set_option maxHeartbeats 1000000 in
theorem oOk.ins {P : Nat → Prop} {k n p : Nat} {f : Nat → Nat} (h : oOk P k n f) (hk : P k) (hp : p ≤ n) : oOk P (k + 1) (n + 1) (insAt f p k) := by
  obtain ⟨h1, h2, h3, h4⟩ := h
  refine ⟨by omega, fun j hj => ?_, fun i hi hPi => ?_, fun a b ha hb e => ?_⟩
  · rcases Nat.lt_trichotomy j p with g | g | g
    · rw [insAt_lt g]; exact ⟨by have := (h2 j (by omega)).1; omega, (h2 j (by omega)).2⟩
    · subst g; rw [insAt_eq]; exact ⟨by omega, hk⟩
    · rw [insAt_gt g]; exact ⟨by have := (h2 (j - 1) (by omega)).1; omega, (h2 (j - 1) (by omega)).2⟩
  · by_cases q : i = k
    · subst q; exact ⟨p, by omega, insAt_eq⟩
    · obtain ⟨j, hj, e⟩ := h3 i (by omega) hPi
      by_cases g : j < p
      · exact ⟨j, by omega, by rw [insAt_lt g]; exact e⟩
      · exact ⟨j + 1, by omega, by rw [insAt_gt (by omega)]; exact e⟩
  · have hlt : ∀ j, j < n → f j ≠ k := fun j hj => by have := (h2 j hj).1; omega
    rcases Nat.lt_trichotomy a p with g | g | g <;> rcases Nat.lt_trichotomy b p with g' | g' | g'
    · rw [insAt_lt g, insAt_lt g'] at e; exact h4 a b (by omega) (by omega) e
    · subst g'; rw [insAt_lt g, insAt_eq] at e; exact absurd e (hlt a (by omega))
    · rw [insAt_lt g, insAt_gt g'] at e; have := h4 a (b - 1) (by omega) (by omega) e; omega
    · subst g; rw [insAt_eq, insAt_lt g'] at e; exact absurd e.symm (hlt b (by omega))
    · omega
    · subst g; rw [insAt_eq, insAt_gt g'] at e; exact absurd e.symm (hlt (b - 1) (by omega))
    · rw [insAt_gt g, insAt_lt g'] at e; have := h4 (a - 1) b (by omega) (by omega) e; omega
    · subst g'; rw [insAt_gt g, insAt_eq] at e; exact absurd e (hlt (a - 1) (by omega))
    · rw [insAt_gt g, insAt_gt g'] at e; have := h4 (a - 1) (b - 1) (by omega) (by omega) e; omega
set_option maxHeartbeats 1000000 in
theorem oOk.skip {P : Nat → Prop} {k n : Nat} {f : Nat → Nat} (h : oOk P k n f) (hk : ¬ P k) : oOk P (k + 1) n f := by
  obtain ⟨h1, h2, h3, h4⟩ := h
  refine ⟨by omega, fun j hj => ⟨by have := (h2 j hj).1; omega, (h2 j hj).2⟩, fun i hi hPi => ?_, h4⟩
  by_cases q : i = k
  · subst q; exact absurd hPi hk
  · exact h3 i (by omega) hPi
/-- plan i takes part -/
def tIn (S : zSh) (T : zTm) (i : Nat) : Prop := T.2.2.1 (sA S i) = 0
set_option maxHeartbeats 1000000 in
theorem zO_ok {S : zSh} {T : zTm} {p d hc : Int32} : ∀ k, oOk (tIn S T) k (zO S T p d hc k).1 (zO S T p d hc k).2
  | 0 => ⟨Nat.le_refl 0, fun j hj => absurd hj (Nat.not_lt_zero j), fun i hi => absurd hi (Nat.not_lt_zero i), fun a b ha => absurd ha (Nat.not_lt_zero a)⟩
  | k + 1 => by
    rw [zO]
    split
    · next g => exact (zO_ok k).ins g (oPos_le _ _ _ _)
    · next g => exact (zO_ok k).skip g
end C34
-- marks and orders of the class
section C34b
variable {X : Nat × (Nat → Int32)} {N : Nat} {h : zH} {Q : Option Value → Nat → zH → Prop} {S : zSh} {T : zTm} {p d hd hc : Int32}
set_option maxHeartbeats 1000000 in
theorem sK.ro {S : zSh} (h : sK S) {j : Nat} (hj : j < S.2.1.1) : ¬ (2 * S.2.1.2.2.2 j + 1 = 0) ∧ ¬ (2 * S.2.1.2.2.2 j + 1 ≤ 0) := by
  obtain ⟨a, b, c, -, -, hc, -, -, e⟩ := h.2.1.2 j hj
  have : 2 * S.2.1.2.2.2 j + 1 = nI (2 * c + 1) := by rw [e, zc2, pk_mul, nI_1]
  rw [this]
  exact ⟨nI_ne0 (by omega) (by omega), nI_nle (by omega) (by omega)⟩
set_option maxHeartbeats 1000000 in
theorem c39 {t i j : Nat} (hs : pSh h t S) (ok : sK S) (hi : i < S.1.1) (hj : j < S.2.1.1) : zE X 39 0 [some (.ref t), some (.int (nI i)), some (.int (nI j)), some (.int d), some (.int hd), none, none, none] [] (N, 0, 0) h Q = Q (some (.int (zMk S d hd i j))) N h := by
  obtain ⟨r1, r2⟩ := ok.ro hj
  obtain ⟨⟨np, wo, sa, au⟩, ⟨nj, le, fo, ro⟩, ⟨pa, pb, pc⟩, ⟨co, hx, hy⟩, hf, pt⟩ := S
  obtain ⟨h1, h2, h3, h4, h5, h6, h7, h8, h9, h10⟩ := hs
  dsimp only at hi hj r1 r2
  have e1 : (nI i < 0) = False := eq_false (nI_pos (by omega))
  have e2 : (nI j < 0) = False := eq_false (nI_pos (by omega))
  have r3 := eq_false r1
  have r4 := eq_false r2
  have r5 : ((7919 : Int32) = 0) = False := by decide
  simp (disch := omega) only [e39_0, e39_1, e39_4, e39_5, e39_6, e39_9, e39_12, e39_13, e39_16, e39_17, e39_18, e39_21, e39_24, e39_25, e39_26, e39_27, e39_28, e39_31, e39_32, e39_33, e39_34, e39_35, e39_36, e39_38, e39_41, e39_43, e39_45, e39_46, e39_47, e39_48, e39_49, e39_50, e39_51, e39_52, e39_53, e39_56, e39_57, e39_60, e39_61, e39_63, e39_65, e39_68, e39_70, e39_72, e39_73, e39_74, e39_77, e39_78, e39_79, e39_80, e39_83, e39_84, e39_86, e39_87, e39_90, e39_91, e39_92, e39_93, e39_96, e39_97, e39_98, e39_99, e39_102, e39_103, e39_104, e39_105, e39_106, e39_108, e39_109, e39_112, e39_113, e39_114, e39_115, e39_117, e39_118, e39_119, e39_121, e39_122, h1, h2, h3, h5, h6, h7, zg5_0, zp5_0, zg5_1, zp5_1, zg5_2, zp5_2, zg5_3, zp5_3, zg5_4, zp5_4, zg5_5, zp5_5, zg5_6, zp5_6, zg5_7, zp5_7, zg5_8, zp5_8, zg5_9, zp5_9, zg5_10, zp5_10, zg5_11, zp5_11, zg5_12, zp5_12, zg5_13, zp5_13, zg5_14, zp5_14, zg5_15, zp5_15, zrc_eq, zup_s, zup_n, zup_up, zal_i, zal_b, zal_z, zas_i, zas_b, zas_z, zan_eq, Option.toList_some, Option.toList_none, List.cons_append, List.nil_append, if_true, if_false, ite_true, ite_false, true_or, or_true, e1, e2, r3, r4, r5, znI_le, znI_lt, if_neg, if_pos, zMk, zsti]
set_option maxHeartbeats 1000000 in
theorem c44_loop {t i : Nat} (hs : pSh h t S) (ok : sK S) (hi : i < S.1.1) : ∀ (m j : Nat), m + j = S.2.1.1 → zE X 44 6 [some (.ref t), some (.int (nI i)), some (.int p), some (.int d), some (.int hd), some (.int (zPm S p d hd i j)), some (.int (nI j))] [] (N, 0, 0) h Q = Q (some (.int (zPm S p d hd i S.2.1.1))) N h := by
  obtain ⟨v1, v2, v3, v5, v6, v7, v8, v9, v10, v11, v12, v13, v14, v15, h1, b1, b2⟩ := hs.obj
  intro m
  induction m with
  | zero =>
    intro j hj
    obtain rfl : j = S.2.1.1 := by omega
    rw [e44_6]
    simp (disch := omega) only [e44_0, e44_1, e44_3, e44_4, e44_8, e44_9, e44_12, e44_15, e44_16, e44_18, e44_19, e44_20, e44_21, e44_22, e44_25, e44_27, e44_28, e44_29, e44_31, e44_32, e44_34, e44_37, e44_38, e44_40, e44_43, e44_46, e44_48, h1, zg5_0, zp5_0, zg5_1, zp5_1, zg5_2, zp5_2, zg5_3, zp5_3, zg5_4, zp5_4, zg5_5, zp5_5, zg5_6, zp5_6, zg5_7, zp5_7, zg5_8, zp5_8, zg5_9, zp5_9, zg5_10, zp5_10, zg5_11, zp5_11, zg5_12, zp5_12, zg5_13, zp5_13, zg5_14, zp5_14, zg5_15, zp5_15, zrc_eq, zup_s, zup_n, zup_up, zal_i, zal_b, zal_z, zas_i, zas_b, zas_z, zan_eq, Option.toList_some, Option.toList_none, List.cons_append, List.nil_append, if_true, if_false, ite_true, ite_false, true_or, or_true, znI_le, if_pos]
  | succ m ih =>
    intro j hj
    have ih' := ih (j + 1) (by omega)
    rw [zPm] at ih'
    rw [e44_6]
    by_cases g : zhas p j
    · rw [if_pos g] at ih'
      have g' : (p >>> (nI j &&& 31)) &&& 1 = 1 := g
      simp (disch := omega) only [e44_0, e44_1, e44_3, e44_4, e44_8, e44_9, e44_12, e44_15, e44_16, e44_18, e44_19, e44_20, e44_21, e44_22, e44_25, e44_27, e44_28, e44_29, e44_31, e44_32, e44_34, e44_37, e44_38, e44_40, e44_43, e44_46, e44_48, h1, zg5_0, zp5_0, zg5_1, zp5_1, zg5_2, zp5_2, zg5_3, zp5_3, zg5_4, zp5_4, zg5_5, zp5_5, zg5_6, zp5_6, zg5_7, zp5_7, zg5_8, zp5_8, zg5_9, zp5_9, zg5_10, zp5_10, zg5_11, zp5_11, zg5_12, zp5_12, zg5_13, zp5_13, zg5_14, zp5_14, zg5_15, zp5_15, zrc_eq, zup_s, zup_n, zup_up, zal_i, zal_b, zal_z, zas_i, zas_b, zas_z, zan_eq, Option.toList_some, Option.toList_none, List.cons_append, List.nil_append, if_true, if_false, ite_true, ite_false, true_or, or_true, znI_le, if_neg, g', c39 hs ok hi, nI_1]
      exact ih'
    · rw [if_neg g, Int32.add_zero] at ih'
      have g' : ((p >>> (nI j &&& 31)) &&& 1 = 1) = False := eq_false g
      simp (disch := omega) only [e44_0, e44_1, e44_3, e44_4, e44_8, e44_9, e44_12, e44_15, e44_16, e44_18, e44_19, e44_20, e44_21, e44_22, e44_25, e44_27, e44_28, e44_29, e44_31, e44_32, e44_34, e44_37, e44_38, e44_40, e44_43, e44_46, e44_48, h1, zg5_0, zp5_0, zg5_1, zp5_1, zg5_2, zp5_2, zg5_3, zp5_3, zg5_4, zp5_4, zg5_5, zp5_5, zg5_6, zp5_6, zg5_7, zp5_7, zg5_8, zp5_8, zg5_9, zp5_9, zg5_10, zp5_10, zg5_11, zp5_11, zg5_12, zp5_12, zg5_13, zp5_13, zg5_14, zp5_14, zg5_15, zp5_15, zrc_eq, zup_s, zup_n, zup_up, zal_i, zal_b, zal_z, zas_i, zas_b, zas_z, zan_eq, Option.toList_some, Option.toList_none, List.cons_append, List.nil_append, if_true, if_false, ite_true, ite_false, true_or, or_true, znI_le, if_neg, g', nI_1]
      exact ih'
set_option maxHeartbeats 1000000 in
theorem c44 {t i : Nat} (hs : pSh h t S) (ok : sK S) (hi : i < S.1.1) : zE X 44 0 [some (.ref t), some (.int (nI i)), some (.int p), some (.int d), some (.int hd), none, none] [] (N, 0, 0) h Q = Q (some (.int (zPm S p d hd i S.2.1.1))) N h := by
  simp only [e44_0, e44_1, e44_3, e44_4, e44_8, e44_9, e44_12, e44_15, e44_16, e44_18, e44_19, e44_20, e44_21, e44_22, e44_25, e44_27, e44_28, e44_29, e44_31, e44_32, e44_34, e44_37, e44_38, e44_40, e44_43, e44_46, e44_48]
  exact c44_loop hs ok hi S.2.1.1 0 (by omega)
/-- a ranking while it is made -/
def pRk (h : zH) (r n : Nat) (f : Nat → Nat) (m ra : Nat → Int32) : Prop := ∃ pl po : Nat → Int32, h r = .inr (2, [.int (nI n), .ref (r + 1), .ref (r + 2), .ref (r + 3)]) ∧ h (r + 1) = .inl (.int, 24, pl) ∧ h (r + 2) = .inl (.int, 24, po) ∧ h (r + 3) = .inl (.int, 24, ra) ∧ n ≤ 24 ∧ ∀ j, j < n → pl j = nI (f j) ∧ po j = m (f j)
set_option maxHeartbeats 1000000 in
theorem c45_65 {r n i k : Nat} {f : Nat → Nat} {m ra pl po : Nat → Int32} (hn : n < 24) (hk : k ≤ n) (h1 : h r = .inr (2, [.int (nI n), .ref (r + 1), .ref (r + 2), .ref (r + 3)])) (h2 : h (r + 1) = .inl (.int, 24, pl)) (h3 : h (r + 2) = .inl (.int, 24, po)) (h4 : h (r + 3) = .inl (.int, 24, ra)) (a1 : ∀ j, j < k → pl j = nI (f j) ∧ po j = m (f j)) (a2 : ∀ j, k < j → j ≤ n → pl j = nI (f (j - 1)) ∧ po j = m (f (j - 1)))
    (K : ∀ h', pRk h' r (n + 1) (insAt f k i) m ra → zfr (fun a => r ≤ a ∧ a ≤ r + 2) h h' → Q none N h') : zE X 45 65 [some (.ref r), some (.int (nI i)), some (.int (m i)), some (.int (nI k))] [] (N, 0, 0) h Q := by
  simp (disch := omega) only [e45_0, e45_1, e45_4, e45_6, e45_9, e45_10, e45_11, e45_14, e45_16, e45_19, e45_20, e45_23, e45_24, e45_25, e45_26, e45_27, e45_28, e45_31, e45_32, e45_35, e45_36, e45_37, e45_40, e45_41, e45_42, e45_43, e45_44, e45_45, e45_46, e45_49, e45_50, e45_51, e45_54, e45_55, e45_56, e45_57, e45_58, e45_59, e45_62, e45_65, e45_66, e45_69, e45_70, e45_71, e45_72, e45_73, e45_76, e45_77, e45_78, e45_79, e45_80, e45_81, e45_84, e45_85, e45_86, e45_89, h1, h2, h3, zg2_0, zp2_0, zg2_1, zp2_1, zg2_2, zp2_2, zg2_3, zp2_3, zrc_eq, zup_s, zup_n, zup_up, zal_i, zal_b, zal_z, zas_i, zas_b, zas_z, zan_eq, Option.toList_some, Option.toList_none, List.cons_append, List.nil_append, if_true, if_false, ite_true, ite_false, true_or, or_true, nI_1]
  refine K _ ⟨upd pl k (nI i), upd po k (m i), zup_s, ?_, ?_, ?_, by omega, fun j hj => ?_⟩ (zfr.up (by omega) (zfr.up (by omega) (zfr.up (by omega) zfr.rf)))
  · simp (disch := omega) only [zup_s, zup_n]
  · simp (disch := omega) only [zup_s, zup_n]
  · simp (disch := omega) only [zup_n, h4]
  · rcases Nat.lt_trichotomy j k with g | g | g
    · rw [upd_n (by omega), upd_n (by omega), insAt_lt g]; exact a1 j g
    · subst g; rw [upd_s, upd_s, insAt_eq]; exact ⟨rfl, rfl⟩
    · rw [upd_n (by omega), upd_n (by omega), insAt_gt g]; exact a2 j g (by omega)
set_option maxHeartbeats 1000000 in
theorem c45_loop {r n i : Nat} {f : Nat → Nat} {m ra : Nat → Int32} (hn : n < 24) : ∀ (k : Nat) (pl po : Nat → Int32) (h : zH), k ≤ n → h r = .inr (2, [.int (nI n), .ref (r + 1), .ref (r + 2), .ref (r + 3)]) → h (r + 1) = .inl (.int, 24, pl) → h (r + 2) = .inl (.int, 24, po) → h (r + 3) = .inl (.int, 24, ra) → (∀ j, j < k → pl j = nI (f j) ∧ po j = m (f j)) → (∀ j, k < j → j ≤ n → pl j = nI (f (j - 1)) ∧ po j = m (f (j - 1))) →
    (∀ h', pRk h' r (n + 1) (insAt f (oPos m f (m i) k) i) m ra → zfr (fun a => r ≤ a ∧ a ≤ r + 2) h h' → Q none N h') → zE X 45 15 [some (.ref r), some (.int (nI i)), some (.int (m i)), some (.int (nI k))] [] (N, 0, 0) h Q := by
  intro k
  induction k with
  | zero =>
    intro pl po h hk h1 h2 h3 h4 a1 a2 K
    rw [e45_15]
    simp (disch := omega) only [e45_0, e45_1, e45_4, e45_6, e45_9, e45_10, e45_11, e45_14, e45_16, e45_19, e45_20, e45_23, e45_24, e45_25, e45_26, e45_27, e45_28, e45_31, e45_32, e45_35, e45_36, e45_37, e45_40, e45_41, e45_42, e45_43, e45_44, e45_45, e45_46, e45_49, e45_50, e45_51, e45_54, e45_55, e45_56, e45_57, e45_58, e45_59, e45_62, e45_66, e45_69, e45_70, e45_71, e45_72, e45_73, e45_76, e45_77, e45_78, e45_79, e45_80, e45_81, e45_84, e45_85, e45_86, e45_89, zc0, znI_le, if_pos]
    exact c45_65 hn hk h1 h2 h3 h4 a1 a2 K
  | succ k ih =>
    intro pl po h hk h1 h2 h3 h4 a1 a2 K
    rw [oPos] at K
    rw [e45_15]
    have e0 : (nI (k + 1) ≤ 0) = False := eq_false (nI_nle (by omega) (by omega))
    simp (disch := omega) only [e45_0, e45_1, e45_4, e45_6, e45_9, e45_10, e45_11, e45_14, e45_16, e45_19, e45_20, e45_23, e45_24, e45_25, e45_26, e45_27, e45_31, e45_32, e45_35, e45_36, e45_37, e45_40, e45_41, e45_42, e45_43, e45_44, e45_45, e45_46, e45_49, e45_50, e45_51, e45_54, e45_55, e45_56, e45_57, e45_58, e45_59, e45_62, e45_66, e45_69, e45_70, e45_71, e45_72, e45_73, e45_76, e45_77, e45_78, e45_79, e45_80, e45_81, e45_84, e45_85, e45_86, e45_89, h1, h2, h3, zg2_0, zp2_0, zg2_1, zp2_1, zg2_2, zp2_2, zg2_3, zp2_3, zrc_eq, zup_s, zup_n, zup_up, zal_i, zal_b, zal_z, zas_i, zas_b, zas_z, zan_eq, Option.toList_some, Option.toList_none, List.cons_append, List.nil_append, if_true, if_false, ite_true, ite_false, true_or, or_true, nI_pred, e0, (a1 k (by omega)).2]
    rw [e45_28]
    by_cases g : m (f k) < m i
    · rw [if_pos g] at K
      have g' : ¬ m i ≤ m (f k) := by rw [zlt_le] at g; exact g
      rw [if_neg g']
      simp (disch := omega) only [e45_0, e45_1, e45_4, e45_6, e45_9, e45_10, e45_11, e45_14, e45_16, e45_19, e45_20, e45_23, e45_24, e45_25, e45_26, e45_27, e45_28, e45_31, e45_32, e45_35, e45_36, e45_37, e45_40, e45_41, e45_42, e45_43, e45_44, e45_45, e45_46, e45_49, e45_50, e45_51, e45_54, e45_55, e45_56, e45_57, e45_58, e45_59, e45_62, e45_66, e45_69, e45_70, e45_71, e45_72, e45_73, e45_76, e45_77, e45_78, e45_79, e45_80, e45_81, e45_84, e45_85, e45_86, e45_89, h1, h2, h3, zg2_0, zp2_0, zg2_1, zp2_1, zg2_2, zp2_2, zg2_3, zp2_3, zrc_eq, zup_s, zup_n, zup_up, zal_i, zal_b, zal_z, zas_i, zas_b, zas_z, zan_eq, Option.toList_some, Option.toList_none, List.cons_append, List.nil_append, if_true, if_false, ite_true, ite_false, true_or, or_true, nI_pred, pk_m1, (a1 k (by omega)).1, (a1 k (by omega)).2]
      refine ih (upd pl (k + 1) (nI (f k))) (upd po (k + 1) (m (f k))) _ (by omega) ?_ ?_ ?_ ?_ (fun j hj => ?_) (fun j hj hj2 => ?_) (fun h' b1 b2 => K h' b1 (zfr.up (by omega) (zfr.up (by omega) b2)))
      · simp (disch := omega) only [zup_n, h1]
      · simp (disch := omega) only [zup_s, zup_n]
      · simp (disch := omega) only [zup_s, zup_n]
      · simp (disch := omega) only [zup_n, h4]
      · rw [upd_n (by omega), upd_n (by omega)]; exact a1 j (by omega)
      · by_cases q : j = k + 1
        · subst q; rw [upd_s, upd_s]; exact ⟨rfl, rfl⟩
        · rw [upd_n q, upd_n q]; exact a2 j (by omega) hj2
    · rw [if_neg g] at K
      have g' : m i ≤ m (f k) := by rw [zlt_le] at g; exact Classical.byContradiction g
      rw [if_pos g']
      exact c45_65 hn hk h1 h2 h3 h4 a1 a2 K
set_option maxHeartbeats 1000000 in
theorem c45 {r n i : Nat} {f : Nat → Nat} {m ra : Nat → Int32} (hn : n < 24) (hr : pRk h r n f m ra) (K : ∀ h', pRk h' r (n + 1) (insAt f (oPos m f (m i) n) i) m ra → zfr (fun a => r ≤ a ∧ a ≤ r + 2) h h' → Q none N h') : zE X 45 0 [some (.ref r), some (.int (nI i)), some (.int (m i)), none] [] (N, 0, 0) h Q := by
  obtain ⟨pl, po, h1, h2, h3, h4, h5, h6⟩ := hr
  simp (disch := omega) only [e45_0, e45_1, e45_4, e45_6, e45_9, e45_10, e45_11, e45_14, e45_16, e45_19, e45_20, e45_23, e45_24, e45_25, e45_26, e45_27, e45_28, e45_31, e45_32, e45_35, e45_36, e45_37, e45_40, e45_41, e45_42, e45_43, e45_44, e45_45, e45_46, e45_49, e45_50, e45_51, e45_54, e45_55, e45_56, e45_57, e45_58, e45_59, e45_62, e45_65, e45_66, e45_69, e45_70, e45_71, e45_72, e45_73, e45_76, e45_77, e45_78, e45_79, e45_80, e45_81, e45_84, e45_85, e45_86, e45_89, h1, zg2_0, zp2_0, zg2_1, zp2_1, zg2_2, zp2_2, zg2_3, zp2_3, zrc_eq, zup_s, zup_n, zup_up, zal_i, zal_b, zal_z, zas_i, zas_b, zas_z, zan_eq, Option.toList_some, Option.toList_none, List.cons_append, List.nil_append, if_true, if_false, ite_true, ite_false, true_or, or_true, zc24, znI_lt, if_pos]
  exact c45_loop hn n pl po h (by omega) h1 h2 h3 h4 h6 (fun j a b => by omega) K
/-- a ranking of n plans, f the plan of a rank -/
def pRn (h : zH) (r n : Nat) (f : Nat → Nat) : Prop := ∃ pl po ra : Nat → Int32, h r = .inr (2, [.int (nI n), .ref (r + 1), .ref (r + 2), .ref (r + 3)]) ∧ h (r + 1) = .inl (.int, 24, pl) ∧ h (r + 2) = .inl (.int, 24, po) ∧ h (r + 3) = .inl (.int, 24, ra) ∧ n ≤ 24 ∧ (∀ j, j < n → pl j = nI (f j)) ∧ (∀ j, j < n → ra (f j) = nI j) ∧ (∀ i, i < 24 → (∀ j, j < n → f j ≠ i) → ra i = -4) ∧ (∀ j, j < n → f j < 24)
/-- its cells alone -/
def pR0 (h : zH) (r : Nat) : Prop := ∃ (s : Int32) (pl po ra : Nat → Int32), h r = .inr (2, [.int s, .ref (r + 1), .ref (r + 2), .ref (r + 3)]) ∧ h (r + 1) = .inl (.int, 24, pl) ∧ h (r + 2) = .inl (.int, 24, po) ∧ h (r + 3) = .inl (.int, 24, ra)
set_option maxHeartbeats 1000000 in
theorem pRn.r0 {h : zH} {r n : Nat} {f : Nat → Nat} (hr : pRn h r n f) : pR0 h r := by
  obtain ⟨pl, po, ra, h1, h2, h3, h4, -⟩ := hr
  exact ⟨_, pl, po, ra, h1, h2, h3, h4⟩
set_option maxHeartbeats 1000000 in
theorem pRn.kept {h h' : zH} {r n : Nat} {f : Nat → Nat} (hr : pRn h r n f) {P : Nat → Prop} (hf : zfr P h h') (hP : ∀ a, r ≤ a → a ≤ r + 3 → ¬ P a) : pRn h' r n f := by
  obtain ⟨pl, po, ra, h1, h2, h3, h4, h5⟩ := hr
  exact ⟨pl, po, ra, (hf _ (hP _ (by omega) (by omega))).trans h1, (hf _ (hP _ (by omega) (by omega))).trans h2, (hf _ (hP _ (by omega) (by omega))).trans h3, (hf _ (hP _ (by omega) (by omega))).trans h4, h5⟩
set_option maxHeartbeats 1000000 in
theorem pR0.kept {h h' : zH} {r : Nat} (hr : pR0 h r) {P : Nat → Prop} (hf : zfr P h h') (hP : ∀ a, r ≤ a → a ≤ r + 3 → ¬ P a) : pR0 h' r := by
  obtain ⟨s, pl, po, ra, h1, h2, h3, h4⟩ := hr
  exact ⟨s, pl, po, ra, (hf _ (hP _ (by omega) (by omega))).trans h1, (hf _ (hP _ (by omega) (by omega))).trans h2, (hf _ (hP _ (by omega) (by omega))).trans h3, (hf _ (hP _ (by omega) (by omega))).trans h4⟩
set_option maxHeartbeats 1000000 in
theorem c42_101 {r n : Nat} {f : Nat → Nat} {l1 l2 l3 l4 l5 l8 : Option Value} {pl po : Nat → Int32} (hn : n ≤ 24) (hf : ∀ j, j < n → f j < 24) (hinj : ∀ a b, a < n → b < n → f a = f b → a = b) (hp : ∀ j, j < n → pl j = nI (f j)) : ∀ (m k : Nat) (ra : Nat → Int32) (h : zH) (l7 : Option Value), m + k = n → h r = .inr (2, [.int (nI n), .ref (r + 1), .ref (r + 2), .ref (r + 3)]) → h (r + 1) = .inl (.int, 24, pl) → h (r + 2) = .inl (.int, 24, po) → h (r + 3) = .inl (.int, 24, ra) → (∀ j, j < k → ra (f j) = nI j) → (∀ i, i < 24 → (∀ j, j < k → f j ≠ i) → ra i = -4) →
    (∀ h', pRn h' r n f → zfr (fun a => a = r + 3) h h' → Q none N h') → zE X 42 101 [some (.ref r), l1, l2, l3, l4, l5, some (.int (nI k)), l7, l8] [] (N, 0, 0) h Q := by
  intro m
  induction m with
  | zero =>
    intro k ra h l7 hk h1 h2 h3 h4 a1 a2 K
    obtain rfl : k = n := by omega
    rw [e42_101]
    simp (disch := omega) only [e42_0, e42_1, e42_2, e42_5, e42_6, e42_9, e42_11, e42_14, e42_15, e42_19, e42_20, e42_23, e42_26, e42_27, e42_30, e42_32, e42_33, e42_35, e42_36, e42_38, e42_41, e42_44, e42_46, e42_49, e42_50, e42_52, e42_55, e42_58, e42_59, e42_61, e42_62, e42_64, e42_65, e42_68, e42_69, e42_72, e42_74, e42_75, e42_78, e42_79, e42_81, e42_82, e42_84, e42_86, e42_89, e42_92, e42_95, e42_98, e42_99, e42_103, e42_104, e42_107, e42_110, e42_111, e42_114, e42_116, e42_117, e42_119, e42_121, e42_124, e42_126, e42_128, e42_131, e42_132, e42_135, e42_137, e42_139, e42_140, e42_143, e42_146, h1, zg2_0, zp2_0, zg2_1, zp2_1, zg2_2, zp2_2, zg2_3, zp2_3, zrc_eq, zup_s, zup_n, zup_up, zal_i, zal_b, zal_z, zas_i, zas_b, zas_z, zan_eq, Option.toList_some, Option.toList_none, List.cons_append, List.nil_append, if_true, if_false, ite_true, ite_false, true_or, or_true, znI_le, if_pos]
    exact K h ⟨pl, po, ra, h1, h2, h3, h4, hn, hp, a1, a2, hf⟩ zfr.rf
  | succ m ih =>
    intro k ra h l7 hk h1 h2 h3 h4 a1 a2 K
    have hk24 := hf k (by omega)
    have e1 : (nI (f k) < 0) = False := eq_false (nI_pos (by omega))
    rw [e42_101]
    simp (disch := omega) only [e42_0, e42_1, e42_2, e42_5, e42_6, e42_9, e42_11, e42_14, e42_15, e42_19, e42_20, e42_23, e42_26, e42_27, e42_30, e42_32, e42_33, e42_35, e42_36, e42_38, e42_41, e42_44, e42_46, e42_49, e42_50, e42_52, e42_55, e42_58, e42_59, e42_61, e42_62, e42_64, e42_65, e42_68, e42_69, e42_72, e42_74, e42_75, e42_78, e42_79, e42_81, e42_82, e42_84, e42_86, e42_89, e42_92, e42_95, e42_98, e42_99, e42_103, e42_104, e42_107, e42_110, e42_111, e42_114, e42_116, e42_119, e42_121, e42_124, e42_126, e42_128, e42_131, e42_132, e42_135, e42_137, e42_139, e42_140, e42_143, e42_146, h1, h2, zg2_0, zp2_0, zg2_1, zp2_1, zg2_2, zp2_2, zg2_3, zp2_3, zrc_eq, zup_s, zup_n, zup_up, zal_i, zal_b, zal_z, zas_i, zas_b, zas_z, zan_eq, Option.toList_some, Option.toList_none, List.cons_append, List.nil_append, if_true, if_false, ite_true, ite_false, true_or, or_true, znI_le, if_neg]
    rw [hp k (by omega)]
    simp (disch := omega) only [e42_0, e42_1, e42_2, e42_5, e42_6, e42_9, e42_11, e42_14, e42_15, e42_19, e42_20, e42_23, e42_26, e42_27, e42_30, e42_32, e42_33, e42_35, e42_36, e42_38, e42_41, e42_44, e42_46, e42_49, e42_50, e42_52, e42_55, e42_58, e42_59, e42_61, e42_62, e42_64, e42_65, e42_68, e42_69, e42_72, e42_74, e42_75, e42_78, e42_79, e42_81, e42_82, e42_84, e42_86, e42_89, e42_92, e42_95, e42_98, e42_99, e42_103, e42_104, e42_107, e42_110, e42_111, e42_114, e42_116, e42_117, e42_119, e42_121, e42_124, e42_126, e42_128, e42_131, e42_132, e42_135, e42_137, e42_139, e42_140, e42_143, e42_146, h1, h4, zg2_0, zp2_0, zg2_1, zp2_1, zg2_2, zp2_2, zg2_3, zp2_3, zrc_eq, zup_s, zup_n, zup_up, zal_i, zal_b, zal_z, zas_i, zas_b, zas_z, zan_eq, Option.toList_some, Option.toList_none, List.cons_append, List.nil_append, if_true, if_false, ite_true, ite_false, true_or, or_true, zc24, znI_le, if_neg, e1, nI_1]
    refine ih (k + 1) (upd ra (f k) (nI k)) _ _ (by omega) ?_ ?_ ?_ zup_s (fun j hj => ?_) (fun i hi hj => ?_) (fun h' b1 b2 => K h' b1 (zfr.up rfl b2))
    · simp (disch := omega) only [zup_n, h1]
    · simp (disch := omega) only [zup_n, h2]
    · simp (disch := omega) only [zup_n, h3]
    · by_cases q : j = k
      · subst q; rw [upd_s]
      · rw [upd_n (fun e => q (hinj j k (by omega) (by omega) e))]; exact a1 j (by omega)
    · rw [upd_n (fun e => hj k (by omega) e.symm)]; exact a2 i hi (fun j hj2 => hj j (by omega))
set_option maxHeartbeats 1000000 in
theorem pTm.obj {h : zH} {t : Nat} {T : zTm} (ht : pTm h t T) : ∃ fs, h t = .inr (8, fs) := by
  obtain ⟨f, g, e, h1, -⟩ := ht
  exact ⟨_, h1⟩
set_option maxHeartbeats 1000000 in
theorem c42_17 {r t u : Nat} (ok : sK S) (h37 : r + 3 < t ∨ t + 7 < r) (h38 : r + 3 < u ∨ u + 3 < r) : ∀ (m i : Nat) (ra : Nat → Int32) (h : zH) (l7 l8 : Option Value), m + i = S.1.1 → pSh h t S → pTm h u T → pRk h r (zO S T p d hc i).1 (zO S T p d hc i).2 (zM S T p d hc) ra →
    (∀ h' l7 l8, pSh h' t S → pTm h' u T → pRk h' r (zO S T p d hc S.1.1).1 (zO S T p d hc S.1.1).2 (zM S T p d hc) ra → zfr (fun a => r ≤ a ∧ a ≤ r + 2) h h' → zE X 42 98 [some (.ref r), some (.ref t), some (.ref u), some (.int p), some (.int d), some (.int hc), some (.int (nI S.1.1)), l7, l8] [] (N, 0, 0) h' Q) →
    zE X 42 17 [some (.ref r), some (.ref t), some (.ref u), some (.int p), some (.int d), some (.int hc), some (.int (nI i)), l7, l8] [] (N, 0, 0) h Q := by
  intro m
  induction m with
  | zero =>
    intro i ra h l7 l8 hi hs ht hr K
    obtain ⟨v1, v2, v3, v5, v6, v7, v8, v9, v10, v11, v12, v13, v14, v15, h1, b1, b2⟩ := hs.obj
    obtain rfl : i = S.1.1 := by omega
    rw [e42_17]
    simp (disch := omega) only [e42_0, e42_1, e42_2, e42_5, e42_6, e42_9, e42_11, e42_14, e42_15, e42_19, e42_20, e42_23, e42_26, e42_27, e42_30, e42_32, e42_33, e42_35, e42_36, e42_38, e42_41, e42_44, e42_46, e42_49, e42_50, e42_52, e42_55, e42_58, e42_59, e42_61, e42_62, e42_64, e42_65, e42_68, e42_69, e42_72, e42_74, e42_75, e42_78, e42_79, e42_81, e42_82, e42_84, e42_86, e42_89, e42_92, e42_95, e42_99, e42_103, e42_104, e42_107, e42_110, e42_111, e42_114, e42_116, e42_117, e42_119, e42_121, e42_124, e42_126, e42_128, e42_131, e42_132, e42_135, e42_137, e42_139, e42_140, e42_143, e42_146, h1, zg5_0, zp5_0, zg5_1, zp5_1, zg5_2, zp5_2, zg5_3, zp5_3, zg5_4, zp5_4, zg5_5, zp5_5, zg5_6, zp5_6, zg5_7, zp5_7, zg5_8, zp5_8, zg5_9, zp5_9, zg5_10, zp5_10, zg5_11, zp5_11, zg5_12, zp5_12, zg5_13, zp5_13, zg5_14, zp5_14, zg5_15, zp5_15, zrc_eq, zup_s, zup_n, zup_up, zal_i, zal_b, zal_z, zas_i, zas_b, zas_z, zan_eq, Option.toList_some, Option.toList_none, List.cons_append, List.nil_append, if_true, if_false, ite_true, ite_false, true_or, or_true, znI_le, if_pos]
    exact K h _ _ hs ht hr zfr.rf
  | succ m ih =>
    intro i ra h l7 l8 hi hs ht hr K
    have hi' : i < S.1.1 := by omega
    obtain ⟨ea, ha⟩ := ok.au hi'
    have hsa : ∃ v1 v2 v4 v5 v6 v7 v8 v9 v10 v11 v12 v13 v14 v15, h t = .inr (5, [.int (nI S.1.1), v1, v2, .ref (t + 3), v4, v5, v6, v7, v8, v9, v10, v11, v12, v13, v14, v15]) ∧ h (t + 3) = .inl (.int, 24, S.1.2.2.2) ∧ S.1.1 ≤ 24 ∧ v1 = .ref (t + 1) ∧ h (t + 1) = .inl (.int, 24, S.1.2.1) := by
      obtain ⟨⟨np, wo, sa, au⟩, ⟨nj, le, fo, ro⟩, ⟨pa, pb, pc⟩, ⟨co, hx, hy⟩, hf, pt⟩ := S
      exact ⟨_, _, _, _, _, _, _, _, _, _, _, _, _, _, hs.1, hs.2.2.2.1, hs.2.2.2.2.2.2.2.2.1, rfl, hs.2.1⟩
    obtain ⟨v1, v2, v4, v5, v6, v7, v8, v9, v10, v11, v12, v13, v14, v15, h1, h2, b1, rfl, h3⟩ := hsa
    obtain ⟨fs, ht1⟩ := ht.obj
    have hO := zO_ok (S := S) (T := T) (p := p) (d := d) (hc := hc) i
    rw [e42_17]
    simp (disch := omega) only [e42_0, e42_1, e42_2, e42_5, e42_6, e42_9, e42_11, e42_14, e42_15, e42_19, e42_20, e42_23, e42_26, e42_27, e42_30, e42_32, e42_35, e42_36, e42_38, e42_41, e42_44, e42_46, e42_49, e42_50, e42_52, e42_55, e42_58, e42_59, e42_61, e42_62, e42_64, e42_65, e42_68, e42_69, e42_72, e42_74, e42_75, e42_78, e42_79, e42_81, e42_82, e42_84, e42_86, e42_89, e42_92, e42_95, e42_98, e42_99, e42_103, e42_104, e42_107, e42_110, e42_111, e42_114, e42_116, e42_117, e42_119, e42_121, e42_124, e42_126, e42_128, e42_131, e42_132, e42_135, e42_137, e42_139, e42_140, e42_143, e42_146, h1, h2, zg5_0, zp5_0, zg5_1, zp5_1, zg5_2, zp5_2, zg5_3, zp5_3, zg5_4, zp5_4, zg5_5, zp5_5, zg5_6, zp5_6, zg5_7, zp5_7, zg5_8, zp5_8, zg5_9, zp5_9, zg5_10, zp5_10, zg5_11, zp5_11, zg5_12, zp5_12, zg5_13, zp5_13, zg5_14, zp5_14, zg5_15, zp5_15, zrc_eq, zup_s, zup_n, zup_up, zal_i, zal_b, zal_z, zas_i, zas_b, zas_z, zan_eq, Option.toList_some, Option.toList_none, List.cons_append, List.nil_append, if_true, if_false, ite_true, ite_false, true_or, or_true, znI_le, if_neg]
    rw [ea]
    simp (disch := omega) only [e42_0, e42_1, e42_2, e42_5, e42_6, e42_9, e42_11, e42_14, e42_15, e42_19, e42_20, e42_23, e42_26, e42_27, e42_30, e42_32, e42_33, e42_35, e42_36, e42_38, e42_41, e42_46, e42_49, e42_50, e42_52, e42_55, e42_58, e42_59, e42_61, e42_62, e42_64, e42_65, e42_68, e42_69, e42_72, e42_74, e42_75, e42_78, e42_79, e42_81, e42_82, e42_84, e42_86, e42_89, e42_95, e42_98, e42_99, e42_103, e42_104, e42_107, e42_110, e42_111, e42_114, e42_116, e42_117, e42_119, e42_121, e42_124, e42_126, e42_128, e42_131, e42_132, e42_135, e42_137, e42_139, e42_140, e42_143, e42_146, ht1, zrc_eq, zup_s, zup_n, zup_up, zal_i, zal_b, zal_z, zas_i, zas_b, zas_z, zan_eq, Option.toList_some, Option.toList_none, List.cons_append, List.nil_append, if_true, if_false, ite_true, ite_false, true_or, or_true, c43 ht, z10, z00]
    have zOs : zO S T p d hc (i + 1) = if T.2.2.1 (sA S i) = 0 then ((zO S T p d hc i).1 + 1, insAt (zO S T p d hc i).2 (oPos (zM S T p d hc) (zO S T p d hc i).2 (zM S T p d hc i) (zO S T p d hc i).1) i) else zO S T p d hc i := rfl
    by_cases g : T.2.2.1 (sA S i) = 0
    · rw [if_pos g]
      rw [if_pos g] at zOs
      have hr' : ∃ fs, h r = .inr (2, fs) := by obtain ⟨pl, po, q1, -⟩ := hr; exact ⟨_, q1⟩
      obtain ⟨fr, hr'⟩ := hr'
      have step : zE X 45 0 [some (.ref r), some (.int (nI i)), some (.int (zM S T p d hc i)), none] [] (N, 0, 0) h (fun v N' h' => ∀ l7 l8, zE X 42 92 [some (.ref r), some (.ref t), some (.ref u), some (.int p), some (.int d), some (.int hc), some (.int (nI i)), l7, l8] (v.toList ++ []) (N', 0, 0) h' Q) := by
        refine c45 (by have := hO.1; omega) hr (fun h' b1 b2 l7 l8 => ?_)
        simp (disch := omega) only [e42_0, e42_1, e42_2, e42_5, e42_6, e42_9, e42_11, e42_14, e42_15, e42_19, e42_20, e42_23, e42_26, e42_27, e42_30, e42_32, e42_33, e42_35, e42_36, e42_38, e42_41, e42_44, e42_46, e42_49, e42_50, e42_52, e42_55, e42_58, e42_59, e42_61, e42_62, e42_64, e42_65, e42_68, e42_69, e42_72, e42_74, e42_75, e42_78, e42_79, e42_81, e42_82, e42_84, e42_86, e42_89, e42_92, e42_95, e42_98, e42_99, e42_103, e42_104, e42_107, e42_110, e42_111, e42_114, e42_116, e42_117, e42_119, e42_121, e42_124, e42_126, e42_128, e42_131, e42_132, e42_135, e42_137, e42_139, e42_140, e42_143, e42_146, Option.toList_none, List.nil_append, nI_1]
        refine ih (i + 1) ra h' l7 l8 (by omega) (hs.kept b2 (by omega)) (ht.kept b2 (by omega)) ?_ (fun h'' l7 l8 c1 c2 c3 c4 => K h'' l7 l8 c1 c2 c3 (b2.tr c4))
        rw [zOs]
        exact b1
      have mono : ∀ l7 l8, zE X 45 0 [some (.ref r), some (.int (nI i)), some (.int (zM S T p d hc i)), none] [] (N, 0, 0) h (fun v N' h' => zE X 42 92 [some (.ref r), some (.ref t), some (.ref u), some (.int p), some (.int d), some (.int hc), some (.int (nI i)), l7, l8] (v.toList ++ []) (N', 0, 0) h' Q) := by
        intro l7 l8
        obtain ⟨n, r, e1, e2⟩ := step
        exact ⟨n, r, e1, e2 l7 l8⟩
      by_cases gh : hc = 0
      · by_cases gp : p = 0
        · have em : zM S T p d hc i = S.1.2.1 i := by unfold zM; rw [if_pos gp]
          rw [em] at mono
          simp (disch := omega) only [e42_0, e42_1, e42_2, e42_5, e42_6, e42_9, e42_11, e42_14, e42_15, e42_19, e42_20, e42_23, e42_26, e42_27, e42_30, e42_32, e42_33, e42_35, e42_36, e42_38, e42_41, e42_44, e42_46, e42_49, e42_50, e42_52, e42_55, e42_58, e42_59, e42_61, e42_62, e42_64, e42_65, e42_68, e42_69, e42_72, e42_74, e42_75, e42_78, e42_79, e42_81, e42_82, e42_84, e42_86, e42_89, e42_95, e42_98, e42_99, e42_103, e42_104, e42_107, e42_110, e42_111, e42_114, e42_116, e42_117, e42_119, e42_121, e42_124, e42_126, e42_128, e42_131, e42_132, e42_135, e42_137, e42_139, e42_140, e42_143, e42_146, gh, gp, ↓reduceIte, h1, h3, hr', zg5_0, zp5_0, zg5_1, zp5_1, zg5_2, zp5_2, zg5_3, zp5_3, zg5_4, zp5_4, zg5_5, zp5_5, zg5_6, zp5_6, zg5_7, zp5_7, zg5_8, zp5_8, zg5_9, zp5_9, zg5_10, zp5_10, zg5_11, zp5_11, zg5_12, zp5_12, zg5_13, zp5_13, zg5_14, zp5_14, zg5_15, zp5_15, zrc_eq, zup_s, zup_n, zup_up, zal_i, zal_b, zal_z, zas_i, zas_b, zas_z, zan_eq, Option.toList_some, Option.toList_none, List.cons_append, List.nil_append, if_true, if_false, ite_true, ite_false, true_or, or_true]
          have := mono (some (.int (nI (sA S i)))) (some (.int 0))
          rw [gh, gp] at this
          exact this
        · have em : zM S T p d hc i = zPm S p d 0 i S.2.1.1 := by unfold zM; rw [if_neg gp, if_pos gh]
          rw [em] at mono
          simp (disch := omega) only [e42_0, e42_1, e42_2, e42_5, e42_6, e42_9, e42_11, e42_14, e42_15, e42_19, e42_20, e42_23, e42_26, e42_27, e42_30, e42_32, e42_33, e42_35, e42_36, e42_38, e42_41, e42_44, e42_46, e42_49, e42_50, e42_52, e42_55, e42_58, e42_59, e42_61, e42_62, e42_64, e42_65, e42_68, e42_69, e42_72, e42_74, e42_75, e42_78, e42_79, e42_81, e42_82, e42_84, e42_86, e42_89, e42_95, e42_98, e42_99, e42_103, e42_104, e42_107, e42_110, e42_111, e42_114, e42_116, e42_117, e42_119, e42_121, e42_124, e42_126, e42_128, e42_131, e42_132, e42_135, e42_137, e42_139, e42_140, e42_143, e42_146, gh, gp, ↓reduceIte, c44 hs ok hi', hr', zrc_eq, zup_s, zup_n, zup_up, zal_i, zal_b, zal_z, zas_i, zas_b, zas_z, zan_eq, Option.toList_some, Option.toList_none, List.cons_append, List.nil_append, if_true, if_false, ite_true, ite_false, true_or, or_true]
          have := mono (some (.int (nI (sA S i)))) (some (.int 0))
          rw [gh] at this
          exact this
      · by_cases gp : p = 0
        · have em : zM S T p d hc i = S.1.2.1 i := by unfold zM; rw [if_pos gp]
          rw [em] at mono
          simp (disch := omega) only [e42_0, e42_1, e42_2, e42_5, e42_6, e42_9, e42_11, e42_14, e42_15, e42_19, e42_20, e42_23, e42_26, e42_27, e42_30, e42_32, e42_33, e42_35, e42_36, e42_38, e42_41, e42_44, e42_46, e42_49, e42_50, e42_52, e42_55, e42_58, e42_59, e42_61, e42_62, e42_64, e42_65, e42_68, e42_69, e42_72, e42_74, e42_75, e42_78, e42_79, e42_81, e42_82, e42_84, e42_86, e42_89, e42_95, e42_98, e42_99, e42_103, e42_104, e42_107, e42_110, e42_111, e42_114, e42_116, e42_117, e42_119, e42_121, e42_124, e42_126, e42_128, e42_131, e42_132, e42_135, e42_137, e42_139, e42_140, e42_143, e42_146, gh, gp, ↓reduceIte, ht1, c38 ht, h1, h3, hr', zg5_0, zp5_0, zg5_1, zp5_1, zg5_2, zp5_2, zg5_3, zp5_3, zg5_4, zp5_4, zg5_5, zp5_5, zg5_6, zp5_6, zg5_7, zp5_7, zg5_8, zp5_8, zg5_9, zp5_9, zg5_10, zp5_10, zg5_11, zp5_11, zg5_12, zp5_12, zg5_13, zp5_13, zg5_14, zp5_14, zg5_15, zp5_15, zrc_eq, zup_s, zup_n, zup_up, zal_i, zal_b, zal_z, zas_i, zas_b, zas_z, zan_eq, Option.toList_some, Option.toList_none, List.cons_append, List.nil_append, if_true, if_false, ite_true, ite_false, true_or, or_true]
          have := mono (some (.int (nI (sA S i)))) (some (.int (T.1 (sA S i))))
          rw [gp] at this
          exact this
        · have em : zM S T p d hc i = zPm S p d (T.1 (sA S i)) i S.2.1.1 := by unfold zM; rw [if_neg gp, if_neg gh]
          rw [em] at mono
          simp (disch := omega) only [e42_0, e42_1, e42_2, e42_5, e42_6, e42_9, e42_11, e42_14, e42_15, e42_19, e42_20, e42_23, e42_26, e42_27, e42_30, e42_32, e42_33, e42_35, e42_36, e42_38, e42_41, e42_44, e42_46, e42_49, e42_50, e42_52, e42_55, e42_58, e42_59, e42_61, e42_62, e42_64, e42_65, e42_68, e42_69, e42_72, e42_74, e42_75, e42_78, e42_79, e42_81, e42_82, e42_84, e42_86, e42_89, e42_95, e42_98, e42_99, e42_103, e42_104, e42_107, e42_110, e42_111, e42_114, e42_116, e42_117, e42_119, e42_121, e42_124, e42_126, e42_128, e42_131, e42_132, e42_135, e42_137, e42_139, e42_140, e42_143, e42_146, gh, gp, ↓reduceIte, ht1, c38 ht, c44 hs ok hi', hr', zrc_eq, zup_s, zup_n, zup_up, zal_i, zal_b, zal_z, zas_i, zas_b, zas_z, zan_eq, Option.toList_some, Option.toList_none, List.cons_append, List.nil_append, if_true, if_false, ite_true, ite_false, true_or, or_true]
          exact mono (some (.int (nI (sA S i)))) (some (.int (T.1 (sA S i))))
    · rw [if_neg g]
      rw [if_neg g] at zOs
      simp (disch := omega) only [e42_0, e42_1, e42_2, e42_5, e42_6, e42_9, e42_11, e42_14, e42_15, e42_19, e42_20, e42_23, e42_26, e42_27, e42_30, e42_32, e42_33, e42_35, e42_36, e42_38, e42_41, e42_44, e42_46, e42_49, e42_50, e42_52, e42_55, e42_58, e42_59, e42_61, e42_62, e42_64, e42_65, e42_68, e42_69, e42_72, e42_74, e42_75, e42_78, e42_79, e42_81, e42_82, e42_84, e42_86, e42_89, e42_92, e42_95, e42_98, e42_99, e42_103, e42_104, e42_107, e42_110, e42_111, e42_114, e42_116, e42_117, e42_119, e42_121, e42_124, e42_126, e42_128, e42_131, e42_132, e42_135, e42_137, e42_139, e42_140, e42_143, e42_146, nI_1]
      refine ih (i + 1) ra h _ _ (by omega) hs ht ?_ K
      rw [zOs]
      exact hr
set_option maxHeartbeats 1000000 in
theorem c42 {r t u : Nat} (ok : sK S) (h37 : r + 3 < t ∨ t + 7 < r) (h38 : r + 3 < u ∨ u + 3 < r) (hs : pSh h t S) (ht : pTm h u T) (hr : pR0 h r) (K : ∀ h', pRn h' r (zO S T p d hc S.1.1).1 (zO S T p d hc S.1.1).2 → zfr (fun a => r ≤ a ∧ a ≤ r + 3) h h' → Q none N h') :
    zE X 42 0 [some (.ref r), some (.ref t), some (.ref u), some (.int p), some (.int d), some (.int hc), none, none, none] [] (N, 0, 0) h Q := by
  obtain ⟨s0, pl, po, ra, h1, h2, h3, h4⟩ := hr
  simp (disch := omega) only [e42_0, e42_1, e42_2, e42_5, e42_6, e42_9, e42_11, e42_14, e42_15, e42_19, e42_20, e42_23, e42_26, e42_27, e42_30, e42_32, e42_33, e42_35, e42_36, e42_38, e42_41, e42_44, e42_46, e42_49, e42_50, e42_52, e42_55, e42_58, e42_59, e42_61, e42_62, e42_64, e42_65, e42_68, e42_69, e42_72, e42_74, e42_75, e42_78, e42_79, e42_81, e42_82, e42_84, e42_86, e42_89, e42_92, e42_95, e42_98, e42_99, e42_103, e42_104, e42_107, e42_110, e42_111, e42_114, e42_116, e42_117, e42_119, e42_121, e42_124, e42_126, e42_128, e42_131, e42_132, e42_135, e42_137, e42_139, e42_140, e42_143, e42_146, h1, zg2_0, zp2_0, zg2_1, zp2_1, zg2_2, zp2_2, zg2_3, zp2_3, zrc_eq, zup_s, zup_n, zup_up, zal_i, zal_b, zal_z, zas_i, zas_b, zas_z, zan_eq, Option.toList_some, Option.toList_none, List.cons_append, List.nil_append, if_true, if_false, ite_true, ite_false, true_or, or_true]
  refine c19 (n := 24) (f := ra) (by decide) (by rw [zup_n (by omega)]; exact h4) (fun h' g1 g2 => ?_)
  have F1 : zfr (fun a => r ≤ a ∧ a ≤ r + 3) h h' := zfr.up (by omega) (g2.mono (fun a ha => by omega))
  have e1 : h' r = .inr (2, [.int (nI 0), .ref (r + 1), .ref (r + 2), .ref (r + 3)]) := (g2 r (by omega)).trans zup_s
  have e2 : h' (r + 1) = .inl (.int, 24, pl) := (g2 _ (by omega)).trans ((zup_n (by omega)).trans h2)
  have e3 : h' (r + 2) = .inl (.int, 24, po) := (g2 _ (by omega)).trans ((zup_n (by omega)).trans h3)
  simp (disch := omega) only [e42_0, e42_1, e42_2, e42_5, e42_6, e42_9, e42_11, e42_14, e42_15, e42_19, e42_20, e42_23, e42_26, e42_27, e42_30, e42_32, e42_33, e42_35, e42_36, e42_38, e42_41, e42_44, e42_46, e42_49, e42_50, e42_52, e42_55, e42_58, e42_59, e42_61, e42_62, e42_64, e42_65, e42_68, e42_69, e42_72, e42_74, e42_75, e42_78, e42_79, e42_81, e42_82, e42_84, e42_86, e42_89, e42_92, e42_95, e42_98, e42_99, e42_103, e42_104, e42_107, e42_110, e42_111, e42_114, e42_116, e42_117, e42_119, e42_121, e42_124, e42_126, e42_128, e42_131, e42_132, e42_135, e42_137, e42_139, e42_140, e42_143, e42_146, zrc_eq, zup_s, zup_n, zup_up, zal_i, zal_b, zal_z, zas_i, zas_b, zas_z, zan_eq, Option.toList_some, Option.toList_none, List.cons_append, List.nil_append, if_true, if_false, ite_true, ite_false, true_or, or_true, zc0]
  refine c42_17 ok h37 h38 S.1.1 0 _ h' none none (by omega) (hs.kept F1 (by omega)) (ht.kept F1 (by omega)) ⟨pl, po, e1, e2, e3, g1, by show (0 : Nat) ≤ 24; omega, fun j hj => absurd hj (Nat.not_lt_zero j)⟩ (fun h2' l7 l8 b1 b2 b3 b4 => ?_)
  obtain ⟨pl', po', q1, q2, q3, q4, q5, q6⟩ := b3
  have hO := zO_ok (S := S) (T := T) (p := p) (d := d) (hc := hc) S.1.1
  have h24 := ok.1.1
  simp (disch := omega) only [e42_0, e42_1, e42_2, e42_5, e42_6, e42_9, e42_11, e42_14, e42_15, e42_19, e42_20, e42_23, e42_26, e42_27, e42_30, e42_32, e42_33, e42_35, e42_36, e42_38, e42_41, e42_44, e42_46, e42_49, e42_50, e42_52, e42_55, e42_58, e42_59, e42_61, e42_62, e42_64, e42_65, e42_68, e42_69, e42_72, e42_74, e42_75, e42_78, e42_79, e42_81, e42_82, e42_84, e42_86, e42_89, e42_92, e42_95, e42_98, e42_99, e42_103, e42_104, e42_107, e42_110, e42_111, e42_114, e42_116, e42_117, e42_119, e42_121, e42_124, e42_126, e42_128, e42_131, e42_132, e42_135, e42_137, e42_139, e42_140, e42_143, e42_146, zc0]
  refine c42_101 q5 (fun j hj => by have := (hO.2.1 j hj).1; omega) hO.2.2.2 (fun j hj => (q6 j hj).1) _ 0 _ h2' l7 (Nat.add_zero _) q1 q2 q3 q4 (fun j hj => absurd hj (Nat.not_lt_zero j)) (fun i hi _ => if_pos hi) (fun h3' c1 c2 => K h3' c1 (F1.tr ((b4.mono (fun a ha => by omega)).tr (c2.mono (fun a ha => by omega)))))
end C34b
