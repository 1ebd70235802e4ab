-- a year of the class
section C52
variable {X : Nat × (Nat → Int32)} {N : Nat} {h : zH} {Q : Option Value → Nat → zH → Prop} {S : zSh} {T : zTm} {ld dd : Nat} {p d hc kp : Int32}
/-- those paid surely; those drawn besides -/
def pdA (f : Nat → Nat) : Nat → (Nat → Bool)
  | 0 => fun _ => false
  | r + 1 => fun j => pdA f r j || decide (j = f r)
def pdB (z : Nat) (L : Nat → Nat) (n : Nat) (P : Nat → Bool) : Nat → (Nat → Bool)
  | 0 => P
  | t + 1 => fun j => pdB z L n P t j || decide (j = drw z L n t)
/-- who is paid of an order of n -/
def pdS (S : zSh) (n : Nat) (f : Nat → Nat) (z : Nat) : Nat → Bool := pdB z (fun j => f (pSu S n + j)) (pLo S n) (pdA f (pSu S n)) (pDr S n)
set_option maxHeartbeats 2000000 in
theorem rm_ge {L : Nat → Nat} {p j n : Nat} (hp : p < n + 1) (hj : j < n) : ∃ i, i < n + 1 ∧ i ≠ p ∧ rmAt L p j = L i := by
  unfold rmAt
  by_cases g : j < p
  · rw [if_pos g]; exact ⟨j, by omega, by omega, rfl⟩
  · rw [if_neg g]; exact ⟨j + 1, by omega, by omega, rfl⟩
set_option maxHeartbeats 2000000 in
/-- what is left in the lot is each in its own place, was in it, and is not paid yet -/
theorem lot_inv {z n : Nat} {L : Nat → Nat} {P : Nat → Bool} (hi : ∀ a b, a < n → b < n → L a = L b → a = b) (hP : ∀ a, a < n → P (L a) = false) : ∀ t, t ≤ n → (∀ a b, a < n - t → b < n - t → lotAt z L n t a = lotAt z L n t b → a = b) ∧ (∀ a, a < n - t → pdB z L n P t (lotAt z L n t a) = false) ∧ (∀ a, a < n - t → ∃ i, i < n ∧ lotAt z L n t a = L i)
  | 0, _ => ⟨hi, hP, fun a ha => ⟨a, ha, rfl⟩⟩
  | t + 1, ht => by
    obtain ⟨h1, h2, h3⟩ := lot_inv hi hP t (by omega)
    have e : n - t = (n - (t + 1)) + 1 := by omega
    have hp : dPl z (t + 1) (n - t) < n - t := Nat.mod_lt _ (by omega)
    refine ⟨fun a b ha hb q => ?_, fun a ha => ?_, fun a ha => ?_⟩
    · rw [lotAt] at q
      unfold rmAt at q
      by_cases g : a < dPl z (t + 1) (n - t) <;> by_cases g' : b < dPl z (t + 1) (n - t)
      · rw [if_pos g, if_pos g'] at q; exact h1 a b (by omega) (by omega) q
      · rw [if_pos g, if_neg g'] at q; have := h1 a (b + 1) (by omega) (by omega) q; omega
      · rw [if_neg g, if_pos g'] at q; have := h1 (a + 1) b (by omega) (by omega) q; omega
      · rw [if_neg g, if_neg g'] at q; have := h1 (a + 1) (b + 1) (by omega) (by omega) q; omega
    · rw [lotAt]
      obtain ⟨i, i1, i2, i3⟩ := rm_ge (L := lotAt z L n t) (p := dPl z (t + 1) (n - t)) (n := n - (t + 1)) (by omega) ha
      rw [i3]
      show (pdB z L n P t (lotAt z L n t i) || decide (lotAt z L n t i = drw z L n t)) = false
      rw [h2 i (by omega), Bool.false_or]
      apply decide_eq_false
      intro q
      exact i2 (h1 i _ (by omega) hp q)
    · rw [lotAt]
      obtain ⟨i, i1, i2, i3⟩ := rm_ge (L := lotAt z L n t) (p := dPl z (t + 1) (n - t)) (n := n - (t + 1)) (by omega) ha
      rw [i3]
      exact h3 i (by omega)
set_option maxHeartbeats 2000000 in
theorem pdA_in {f : Nat → Nat} : ∀ r j, pdA f r j = true → ∃ k, k < r ∧ j = f k
  | 0, j, h => by cases h
  | r + 1, j, h => by
    rw [pdA, Bool.or_eq_true, decide_eq_true_eq] at h
    rcases h with h | h
    · obtain ⟨k, h1, h2⟩ := pdA_in r j h
      exact ⟨k, by omega, h2⟩
    · exact ⟨r, by omega, h⟩
set_option maxHeartbeats 2000000 in
theorem cnt_add {P : Nat → Bool} {i : Nat} (hi : i < 24) (hP : P i = false) : nSum (fun j => if (P j || decide (j = i)) = true then 1 else 0) 24 = nSum (fun j => if P j = true then 1 else 0) 24 + 1 := by
  have e : (fun j => if (P j || decide (j = i)) = true then 1 else 0) = (fun j => if j = i then 1 else (fun j => if P j = true then 1 else 0) j) := by
    funext j
    by_cases q : j = i
    · simp [q]
    · simp [q]
  have := nSum_upd (g := fun j => if P j = true then 1 else 0) (k := i) (a := 1) 24 hi
  rw [hP] at this
  rw [e]
  simpa using this
set_option maxHeartbeats 2000000 in
theorem pdA_cnt {f : Nat → Nat} {n : Nat} (hf : ∀ j, j < n → f j < 24) (hi : ∀ a b, a < n → b < n → f a = f b → a = b) : ∀ r, r ≤ n → nSum (fun j => if pdA f r j = true then 1 else 0) 24 = r
  | 0, _ => rfl
  | r + 1, h => by
    have ih := pdA_cnt hf hi r (by omega)
    have hn : pdA f r (f r) = false := by
      cases e : pdA f r (f r) with
      | false => rfl
      | true =>
        obtain ⟨k, h1, h2⟩ := pdA_in r _ e
        have := hi r k (by omega) (by omega) h2
        omega
    have := cnt_add (hf r (by omega)) hn
    rw [ih] at this
    exact this
set_option maxHeartbeats 2000000 in
theorem pdB_cnt {z n : Nat} {L : Nat → Nat} {P : Nat → Bool} (hL : ∀ a, a < n → L a < 24) (hi : ∀ a b, a < n → b < n → L a = L b → a = b) (hP : ∀ a, a < n → P (L a) = false) : ∀ t, t ≤ n → nSum (fun j => if pdB z L n P t j = true then 1 else 0) 24 = nSum (fun j => if P j = true then 1 else 0) 24 + t
  | 0, _ => rfl
  | t + 1, h => by
    have ih := pdB_cnt (z := z) hL hi hP t (by omega)
    obtain ⟨h1, h2, h3⟩ := lot_inv (z := z) hi hP t (by omega)
    have hp : dPl z (t + 1) (n - t) < n - t := Nat.mod_lt _ (by omega)
    obtain ⟨i, i1, i2⟩ := h3 _ hp
    have := cnt_add (P := pdB z L n P t) (i := drw z L n t) (by show lotAt z L n t _ < 24; rw [i2]; exact hL i i1) (h2 _ hp)
    rw [ih, Nat.add_assoc] at this
    exact this
set_option maxHeartbeats 2000000 in
theorem pdB_in {z n : Nat} {L : Nat → Nat} {P : Nat → Bool} (hi : ∀ a b, a < n → b < n → L a = L b → a = b) (hP : ∀ a, a < n → P (L a) = false) : ∀ t j, t ≤ n → pdB z L n P t j = true → P j = true ∨ ∃ i, i < n ∧ j = L i
  | 0, j, _, h => Or.inl h
  | t + 1, j, ht, h => by
    rw [pdB, Bool.or_eq_true, decide_eq_true_eq] at h
    rcases h with h | h
    · exact pdB_in hi hP t j (by omega) h
    · obtain ⟨h1, h2, h3⟩ := lot_inv (z := z) hi hP t (by omega)
      have hp : dPl z (t + 1) (n - t) < n - t := Nat.mod_lt _ (by omega)
      obtain ⟨i, i1, i2⟩ := h3 _ hp
      exact Or.inr ⟨i, i1, h.trans i2⟩
section
variable {n z : Nat} {f : Nat → Nat}
set_option maxHeartbeats 2000000 in
theorem pd_P0 (hi : ∀ a b, a < n → b < n → f a = f b → a = b) : ∀ a, a < pLo S n → pdA f (pSu S n) (f (pSu S n + a)) = false := by
  have b1 : pSu S n ≤ n := Nat.min_le_right _ _
  have b2 : pLo S n ≤ n - pSu S n := Nat.min_le_right _ _
  intro a ha
  cases e : pdA f (pSu S n) (f (pSu S n + a)) with
  | false => rfl
  | true =>
    obtain ⟨k, h1, h2⟩ := pdA_in _ _ e
    have := hi (pSu S n + a) k (by omega) (by omega) h2
    omega
set_option maxHeartbeats 2000000 in
theorem pd_Li (hi : ∀ a b, a < n → b < n → f a = f b → a = b) : ∀ a b, a < pLo S n → b < pLo S n → f (pSu S n + a) = f (pSu S n + b) → a = b := by
  have b1 : pSu S n ≤ n := Nat.min_le_right _ _
  have b2 : pLo S n ≤ n - pSu S n := Nat.min_le_right _ _
  intro a b ha hb e
  have := hi (pSu S n + a) (pSu S n + b) (by omega) (by omega) e
  omega
set_option maxHeartbeats 2000000 in
theorem pdS_cnt (hf : ∀ j, j < n → f j < 24) (hi : ∀ a b, a < n → b < n → f a = f b → a = b) : nSum (fun j => if pdS S n f z j = true then 1 else 0) 24 = pSu S n + pDr S n := by
  have b1 : pSu S n ≤ n := Nat.min_le_right _ _
  have b2 : pLo S n ≤ n - pSu S n := Nat.min_le_right _ _
  have b4 : pDr S n ≤ pLo S n := Nat.min_le_right _ _
  unfold pdS
  rw [pdB_cnt (fun a ha => hf _ (by omega)) (pd_Li hi) (pd_P0 hi) _ b4, pdA_cnt hf hi _ b1]
set_option maxHeartbeats 2000000 in
theorem pdS_in (hi : ∀ a b, a < n → b < n → f a = f b → a = b) {j : Nat} (h : pdS S n f z j = true) : ∃ i, i < n ∧ j = f i := by
  have b1 : pSu S n ≤ n := Nat.min_le_right _ _
  have b2 : pLo S n ≤ n - pSu S n := Nat.min_le_right _ _
  have b4 : pDr S n ≤ pLo S n := Nat.min_le_right _ _
  rcases pdB_in (pd_Li hi) (pd_P0 hi) _ j b4 h with h | ⟨i, h1, h2⟩
  · obtain ⟨k, h1, h2⟩ := pdA_in _ _ h
    exact ⟨k, by omega, h2⟩
  · exact ⟨pSu S n + i, by omega, h2⟩
end
set_option maxHeartbeats 2000000 in
theorem c94_5 {n z : Nat} {f : Nat → Nat} (hn : n ≤ 24) (hr : pRn h 37 n f) (hf : ∀ j, j < n → f j < 24) (h45 : ∃ x y, h 45 = .inr (6, [.int (nI (pSu S n)), .int (nI (pLo S n)), .int (nI (pDr S n)), .int x, .int y, .ref 46, .ref 47])) : ∀ (m r : Nat) (x : Int32), m + r = pSu S n → pbt x (pdA f r) → (∀ x, pbt x (pdA f (pSu S n)) → zE X 94 31 [some (.ref 45), some (.ref 37), some (.int (nI z)), some (.int x), some (.int (nI (pSu S n)))] [] (N, 0, 0) h Q) → zE X 94 5 [some (.ref 45), some (.ref 37), some (.int (nI z)), some (.int x), some (.int (nI r))] [] (N, 0, 0) h Q := by
  have b1 : pSu S n ≤ n := Nat.min_le_right _ _
  obtain ⟨a, b, h1⟩ := h45
  obtain ⟨o1, -⟩ := hr.obj
  intro m
  induction m with
  | zero =>
    intro r x hm hx K
    obtain rfl : r = pSu S n := by omega
    rw [e94_5]
    simp (disch := omega) only [e94_0, e94_1, e94_2, e94_3, e94_7, e94_8, e94_11, e94_14, e94_15, e94_16, e94_17, e94_19, e94_22, e94_23, e94_24, e94_25, e94_28, e94_32, e94_33, e94_36, e94_37, e94_41, e94_42, e94_45, e94_48, e94_49, e94_50, e94_51, e94_52, e94_54, e94_57, e94_58, e94_59, e94_60, e94_63, e94_66, e94_67, h1, zg6_0, zp6_0, zg6_1, zp6_1, zg6_2, zp6_2, zg6_3, zp6_3, zg6_4, zp6_4, zg6_5, zp6_5, zg6_6, zp6_6, zrc_eq, zup_s, zup_n, zup_up, zal_i, zal_b, zal_z, zas_i, zas_b, zas_z, zan_eq, Option.toList_some, Option.toList_none, List.cons_append, List.nil_append, if_true, if_false, ite_true, ite_false, true_or, or_true, znI_le, if_pos]
    exact K x hx
  | succ m ih =>
    intro r x hm hx K
    rw [e94_5]
    simp (disch := omega) only [e94_0, e94_1, e94_2, e94_3, e94_7, e94_8, e94_11, e94_14, e94_15, e94_16, e94_17, e94_19, e94_22, e94_23, e94_24, e94_25, e94_28, e94_32, e94_33, e94_36, e94_37, e94_41, e94_42, e94_45, e94_48, e94_49, e94_50, e94_51, e94_52, e94_54, e94_57, e94_58, e94_59, e94_60, e94_63, e94_66, e94_67, h1, o1, zg6_0, zp6_0, zg6_1, zp6_1, zg6_2, zp6_2, zg6_3, zp6_3, zg6_4, zp6_4, zg6_5, zp6_5, zg6_6, zp6_6, zrc_eq, zup_s, zup_n, zup_up, zal_i, zal_b, zal_z, zas_i, zas_b, zas_z, zan_eq, Option.toList_some, Option.toList_none, List.cons_append, List.nil_append, if_true, if_false, ite_true, ite_false, true_or, or_true, znI_le, if_neg, c46 hr, nI_1]
    exact ih (r + 1) _ (by omega) (hx.or (hf r (by omega))) K
set_option maxHeartbeats 2000000 in
theorem c94_39 {n z : Nat} {L : Nat → Nat} {P : Nat → Bool} (hz : z ≤ 9999) (hlo : pLo S n ≤ 24) (hL : ∀ a, a < pLo S n → L a < 24) (hi : ∀ a b, a < pLo S n → b < pLo S n → L a = L b → a = b) (hP : ∀ a, a < pLo S n → P (L a) = false) : ∀ (m u : Nat) (h : zH) (x : Int32), m + u = pDr S n → pbt x (pdB z L (pLo S n) P u) → pLt h S n (pLo S n - u) (lotAt z L (pLo S n) u) → (∀ h' x, pbt x (pdB z L (pLo S n) P (pDr S n)) → pSp h' S n → zfr (fun a => 45 ≤ a ∧ a ≤ 47) h h' → Q (some (.int x)) N h') → zE X 94 39 [some (.ref 45), some (.ref 37), some (.int (nI z)), some (.int x), some (.int (nI (u + 1)))] [] (N, 0, 0) h Q := by
  have b4 : pDr S n ≤ pLo S n := Nat.min_le_right _ _
  intro m
  induction m with
  | zero =>
    intro u h x hm hx hl K
    obtain rfl : u = pDr S n := by omega
    have hl' := hl
    obtain ⟨a, f, g, h1, h2, h3, h4, h5⟩ := hl
    rw [e94_39]
    simp (disch := omega) only [e94_0, e94_1, e94_2, e94_3, e94_7, e94_8, e94_11, e94_14, e94_15, e94_16, e94_17, e94_19, e94_22, e94_23, e94_24, e94_25, e94_28, e94_31, e94_32, e94_33, e94_36, e94_37, e94_41, e94_42, e94_45, e94_48, e94_49, e94_50, e94_51, e94_52, e94_54, e94_57, e94_58, e94_59, e94_60, e94_63, e94_66, e94_67, h1, zg6_0, zp6_0, zg6_1, zp6_1, zg6_2, zp6_2, zg6_3, zp6_3, zg6_4, zp6_4, zg6_5, zp6_5, zg6_6, zp6_6, zrc_eq, zup_s, zup_n, zup_up, zal_i, zal_b, zal_z, zas_i, zas_b, zas_z, zan_eq, Option.toList_some, Option.toList_none, List.cons_append, List.nil_append, if_true, if_false, ite_true, ite_false, true_or, or_true, znI_lt, if_pos]
    exact K h x hx hl'.sp zfr.rf
  | succ m ih =>
    intro u h x hm hx hl K
    have hun : pLo S n - u = (pLo S n - (u + 1)) + 1 := by omega
    obtain ⟨v1, v2, v3⟩ := lot_inv (z := z) hi hP u (by omega)
    have hp : dPl z (u + 1) (pLo S n - u) < pLo S n - u := Nat.mod_lt _ (by omega)
    obtain ⟨i, i1, i2⟩ := v3 _ hp
    have hd24 : drw z L (pLo S n) u < 24 := by show lotAt z L (pLo S n) u _ < 24; rw [i2]; exact hL i i1
    have hl' := hl
    obtain ⟨a, f, g, h1, h2, h3, h4, h5⟩ := hl
    rw [e94_39]
    simp (disch := omega) only [e94_0, e94_1, e94_2, e94_3, e94_7, e94_8, e94_11, e94_14, e94_15, e94_16, e94_17, e94_19, e94_22, e94_23, e94_24, e94_25, e94_28, e94_31, e94_32, e94_33, e94_36, e94_37, e94_41, e94_42, e94_45, e94_48, e94_49, e94_50, e94_51, e94_52, e94_54, e94_57, e94_58, e94_59, e94_60, e94_63, e94_66, e94_67, h1, zg6_0, zp6_0, zg6_1, zp6_1, zg6_2, zp6_2, zg6_3, zp6_3, zg6_4, zp6_4, zg6_5, zp6_5, zg6_6, zp6_6, zrc_eq, zup_s, zup_n, zup_up, zal_i, zal_b, zal_z, zas_i, zas_b, zas_z, zan_eq, Option.toList_some, Option.toList_none, List.cons_append, List.nil_append, if_true, if_false, ite_true, ite_false, true_or, or_true, znI_lt, if_neg]
    rw [hun] at hl'
    refine c66 hz (by omega) hl' (fun h' c1 c2 => ?_)
    simp (disch := omega) only [e94_0, e94_1, e94_2, e94_3, e94_7, e94_8, e94_11, e94_14, e94_15, e94_16, e94_17, e94_19, e94_22, e94_23, e94_24, e94_25, e94_28, e94_31, e94_32, e94_33, e94_36, e94_37, e94_41, e94_42, e94_45, e94_48, e94_49, e94_50, e94_51, e94_52, e94_54, e94_57, e94_58, e94_59, e94_60, e94_63, e94_66, e94_67, Option.toList_some, List.cons_append, List.nil_append, nI_1]
    rw [← hun] at c1 ⊢
    exact ih (u + 1) h' _ (by omega) (hx.or hd24) c1 (fun h2 x d1 d2 d3 => K h2 x d1 d2 (c2.tr d3))
set_option maxHeartbeats 2000000 in
theorem c94 {n z : Nat} {f : Nat → Nat} (hz : z ≤ 9999) (hr : pRn h 37 n f) (hi : ∀ a b, a < n → b < n → f a = f b → a = b) (hp : pSp h S n) (K : ∀ h' x, pbt x (pdS S n f z) → pSp h' S n → zfr (fun a => 45 ≤ a ∧ a ≤ 47) h h' → Q (some (.int x)) N h') : zE X 94 0 [some (.ref 45), some (.ref 37), some (.int (nI z)), none, none] [] (N, 0, 0) h Q := by
  have b1 : pSu S n ≤ n := Nat.min_le_right _ _
  have b2 : pLo S n ≤ n - pSu S n := Nat.min_le_right _ _
  obtain ⟨o1, o2⟩ := hr.obj
  have hf : ∀ j, j < n → f j < 24 := by obtain ⟨pl, po, ra, h1, h2, h3, h4, h5, h6, h7, h8, h9⟩ := hr; exact h9
  have hp' := hp
  obtain ⟨x, y, g1, g2, h1, h2, h3⟩ := hp
  simp (disch := omega) only [e94_0, e94_1, e94_2, e94_3, e94_7, e94_8, e94_11, e94_14, e94_15, e94_16, e94_17, e94_19, e94_22, e94_23, e94_24, e94_25, e94_28, e94_31, e94_32, e94_33, e94_36, e94_37, e94_41, e94_42, e94_45, e94_48, e94_49, e94_50, e94_51, e94_52, e94_54, e94_57, e94_58, e94_59, e94_60, e94_63, e94_66, e94_67, zc0]
  refine c94_5 (S := S) o2 hr hf ⟨x, y, h1⟩ (pSu S n) 0 _ (by omega) pbt.zero (fun v hv => ?_)
  simp (disch := omega) only [e94_0, e94_1, e94_2, e94_3, e94_7, e94_8, e94_11, e94_14, e94_15, e94_16, e94_17, e94_19, e94_22, e94_23, e94_24, e94_25, e94_28, e94_31, e94_32, e94_33, e94_36, e94_37, e94_41, e94_42, e94_45, e94_48, e94_49, e94_50, e94_51, e94_52, e94_54, e94_57, e94_58, e94_59, e94_60, e94_63, e94_66, e94_67, h1, zrc_eq, zup_s, zup_n, zup_up, zal_i, zal_b, zal_z, zas_i, zas_b, zas_z, zan_eq, Option.toList_some, Option.toList_none, List.cons_append, List.nil_append, if_true, if_false, ite_true, ite_false, true_or, or_true]
  refine c65 hr hp' (fun h2 c1 c2 => ?_)
  simp (disch := omega) only [e94_0, e94_1, e94_2, e94_3, e94_7, e94_8, e94_11, e94_14, e94_15, e94_16, e94_17, e94_19, e94_22, e94_23, e94_24, e94_25, e94_28, e94_31, e94_32, e94_33, e94_36, e94_37, e94_41, e94_42, e94_45, e94_48, e94_49, e94_50, e94_51, e94_52, e94_54, e94_57, e94_58, e94_59, e94_60, e94_63, e94_66, e94_67, Option.toList_none, List.nil_append]
  exact c94_39 (u := 0) hz (by omega) (fun a ha => hf _ (by omega)) (pd_Li hi) (pd_P0 hi) (pDr S n) h2 v (by omega) hv c1 (fun h3 x d1 d2 d3 => K h3 x d1 d2 (c2.tr d3))
/-- plan i is one of writer w that takes part -/
def ownB (S : zSh) (T : zTm) (w i : Nat) : Bool := decide (i < S.1.1 ∧ sA S i = w ∧ T.2.2.1 w = 0)
set_option maxHeartbeats 2000000 in
theorem pSh.au {h : zH} {t : Nat} (hs : pSh h t S) : ∃ v1 v2 v4 v5 v6 v7 v8 v9 v10 v11 v12 v13 v14 v15, h t = .inr (5, [.int (nI S.1.1), v1, v2, .ref (t + 3), v4, v5, v6, v7, v8, v9, v10, v11, v12, v13, v14, v15]) ∧ h (t + 3) = .inl (.int, 24, S.1.2.2.2) ∧ S.1.1 ≤ 24 := by
  obtain ⟨⟨np, wo, sa, au⟩, ⟨nj, le, fo, ro⟩, ⟨pa, pb, pc⟩, ⟨co, hx, hy⟩, hf, pt⟩ := S
  exact ⟨_, _, _, _, _, _, _, _, _, _, _, _, _, _, hs.1, hs.2.2.2.1, hs.2.2.2.2.2.2.2.2.1⟩
set_option maxHeartbeats 2000000 in
theorem c96_loop {t w : Nat} (hs : pSh h ld S) (ok : sK S) (h43 : ∀ Q', zE X 43 0 [some (.ref t), some (.int (nI w))] [] (N, 0, 0) h Q' = if T.2.2.1 w = 0 then Q' (some (.int 1)) N h else Q' (some (.int 0)) N h) (ht : ∃ fs, h t = .inr (8, fs)) (hw : w < 8) : ∀ (m i : Nat) (x : Int32), m + i = S.1.1 → pbt x (fun j => decide (j < i) && ownB S T w j) → (∀ x, pbt x (ownB S T w) → Q (some (.int x)) N h) → zE X 96 5 [some (.ref t), some (.ref ld), some (.int (nI w)), some (.int x), some (.int (nI i))] [] (N, 0, 0) h Q := by
  obtain ⟨v1, v2, v4, v5, v6, v7, v8, v9, v10, v11, v12, v13, v14, v15, h1, h2, b1⟩ := hs.au
  obtain ⟨fs, ht⟩ := ht
  intro m
  induction m with
  | zero =>
    intro i x hm hx K
    obtain rfl : i = S.1.1 := by omega
    rw [e96_5]
    simp (disch := omega) only [e96_0, e96_1, e96_2, e96_3, e96_7, e96_8, e96_11, e96_14, e96_15, e96_18, e96_20, e96_21, e96_22, e96_25, e96_26, e96_27, e96_30, e96_33, e96_34, e96_35, e96_37, e96_38, e96_39, e96_40, e96_43, e96_46, e96_47, h1, zg5_0, zp5_0, zg5_1, zp5_1, zg5_2, zp5_2, zg5_3, zp5_3, zg5_4, zp5_4, zg5_5, zp5_5, zg5_6, zp5_6, zg5_7, zp5_7, zg5_8, zp5_8, zg5_9, zp5_9, zg5_10, zp5_10, zg5_11, zp5_11, zg5_12, zp5_12, zg5_13, zp5_13, zg5_14, zp5_14, zg5_15, zp5_15, zrc_eq, zup_s, zup_n, zup_up, zal_i, zal_b, zal_z, zas_i, zas_b, zas_z, zan_eq, Option.toList_some, Option.toList_none, List.cons_append, List.nil_append, if_true, if_false, ite_true, ite_false, true_or, or_true, znI_le, if_pos]
    refine K x (hx.congr (fun j _ => ?_))
    unfold ownB
    by_cases q : j < S.1.1
    · simp [q]
    · simp [q]
  | succ m ih =>
    intro i x hm hx K
    obtain ⟨ea, ha⟩ := ok.au (i := i) (by omega)
    rw [e96_5]
    simp (disch := omega) only [e96_0, e96_1, e96_2, e96_3, e96_7, e96_8, e96_11, e96_14, e96_15, e96_18, e96_20, e96_21, e96_25, e96_26, e96_27, e96_30, e96_33, e96_34, e96_35, e96_37, e96_38, e96_39, e96_40, e96_43, e96_46, e96_47, h1, h2, zg5_0, zp5_0, zg5_1, zp5_1, zg5_2, zp5_2, zg5_3, zp5_3, zg5_4, zp5_4, zg5_5, zp5_5, zg5_6, zp5_6, zg5_7, zp5_7, zg5_8, zp5_8, zg5_9, zp5_9, zg5_10, zp5_10, zg5_11, zp5_11, zg5_12, zp5_12, zg5_13, zp5_13, zg5_14, zp5_14, zg5_15, zp5_15, zrc_eq, zup_s, zup_n, zup_up, zal_i, zal_b, zal_z, zas_i, zas_b, zas_z, zan_eq, Option.toList_some, Option.toList_none, List.cons_append, List.nil_append, if_true, if_false, ite_true, ite_false, true_or, or_true, znI_le, if_neg]
    rw [ea]
    by_cases g1 : sA S i = w
    · by_cases g2 : T.2.2.1 w = 0
      · have hx' : pbt (x ||| (1 <<< (nI i &&& 31))) (fun j => decide (j < i + 1) && ownB S T w j) := by
          refine (hx.or (i := i) (by omega)).congr (fun j hj => ?_)
          by_cases q : j = i
          · subst q
            have : ownB S T w j = true := decide_eq_true ⟨by omega, g1, g2⟩
            simp [this]
          · have : decide (j < i) = decide (j < i + 1) := by
              by_cases q2 : j < i
              · simp [q2, Nat.lt_succ_of_lt q2]
              · simp [q2, show ¬ j < i + 1 by omega]
            simp [q, this]
        simp (disch := omega) only [e96_0, e96_1, e96_2, e96_3, e96_7, e96_8, e96_11, e96_14, e96_15, e96_18, e96_20, e96_21, e96_22, e96_25, e96_26, e96_27, e96_30, e96_33, e96_34, e96_35, e96_37, e96_38, e96_39, e96_40, e96_43, e96_46, e96_47, znI_eq, g1, g2, if_true, ht, zrc_eq, zup_s, zup_n, zup_up, zal_i, zal_b, zal_z, zas_i, zas_b, zas_z, zan_eq, Option.toList_some, Option.toList_none, List.cons_append, List.nil_append, if_true, if_false, ite_true, ite_false, true_or, or_true, h43, z10, nI_1]
        exact ih (i + 1) _ (by omega) hx' K
      · have hx' : pbt x (fun j => decide (j < i + 1) && ownB S T w j) := by
          refine hx.congr (fun j hj => ?_)
          have : ownB S T w j = false := decide_eq_false (fun z => g2 z.2.2)
          simp [this]
        simp (disch := omega) only [e96_0, e96_1, e96_2, e96_3, e96_7, e96_8, e96_11, e96_14, e96_15, e96_18, e96_20, e96_21, e96_22, e96_25, e96_26, e96_27, e96_30, e96_33, e96_34, e96_35, e96_37, e96_38, e96_39, e96_40, e96_43, e96_46, e96_47, znI_eq, g1, g2, if_true, if_false, ht, zrc_eq, zup_s, zup_n, zup_up, zal_i, zal_b, zal_z, zas_i, zas_b, zas_z, zan_eq, Option.toList_some, Option.toList_none, List.cons_append, List.nil_append, if_true, if_false, ite_true, ite_false, true_or, or_true, h43, z00, nI_1]
        exact ih (i + 1) _ (by omega) hx' K
    · have hx' : pbt x (fun j => decide (j < i + 1) && ownB S T w j) := by
        refine hx.congr (fun j hj => ?_)
        by_cases q : j = i
        · subst q
          have : ownB S T w j = false := decide_eq_false (fun z => g1 z.2.1)
          simp [this]
        · have : decide (j < i) = decide (j < i + 1) := by
            by_cases q2 : j < i
            · simp [q2, Nat.lt_succ_of_lt q2]
            · simp [q2, show ¬ j < i + 1 by omega]
          simp [this]
      simp (disch := omega) only [e96_0, e96_1, e96_2, e96_3, e96_7, e96_8, e96_11, e96_14, e96_15, e96_18, e96_20, e96_21, e96_22, e96_25, e96_26, e96_27, e96_30, e96_33, e96_34, e96_35, e96_37, e96_38, e96_39, e96_40, e96_43, e96_46, e96_47, znI_eq, g1, if_false, nI_1]
      exact ih (i + 1) _ (by omega) hx' K
set_option maxHeartbeats 2000000 in
theorem c96 {t w : Nat} (hs : pSh h ld S) (ok : sK S) (h43 : ∀ Q', zE X 43 0 [some (.ref t), some (.int (nI w))] [] (N, 0, 0) h Q' = if T.2.2.1 w = 0 then Q' (some (.int 1)) N h else Q' (some (.int 0)) N h) (ht : ∃ fs, h t = .inr (8, fs)) (hw : w < 8) (K : ∀ x, pbt x (ownB S T w) → Q (some (.int x)) N h) : zE X 96 0 [some (.ref t), some (.ref ld), some (.int (nI w)), none, none] [] (N, 0, 0) h Q := by
  simp (disch := omega) only [e96_0, e96_1, e96_2, e96_3, e96_7, e96_8, e96_11, e96_14, e96_15, e96_18, e96_20, e96_21, e96_22, e96_25, e96_26, e96_27, e96_30, e96_33, e96_34, e96_35, e96_37, e96_38, e96_39, e96_40, e96_43, e96_46, e96_47, zc0]
  exact c96_loop hs ok h43 ht hw S.1.1 0 _ (by omega) (pbt.zero.congr (fun i hi => by simp)) K
def yWon (S : zSh) (T : zTm) (P : Nat → Bool) (w : Nat) : Nat := nSum (fun i => if (ownB S T w i && P i) = true then 1 else 0) 24
def yOwn (S : zSh) (T : zTm) (w : Nat) : Nat := nSum (fun i => if ownB S T w i = true then 1 else 0) 24
def yHad (S : zSh) (T : zTm) (P : Nat → Bool) (w : Nat) : Int32 := if T.1 w + nI (yWon S T P w) < 9 then T.1 w + nI (yWon S T P w) else 9
def yRun (S : zSh) (T : zTm) (P : Nat → Bool) (w : Nat) : Int32 := if yOwn S T w ≠ 0 ∧ yWon S T P w = 0 then T.2.1 w + 1 else 0
def yGon (S : zSh) (T : zTm) (P : Nat → Bool) (w : Nat) : Int32 := if 0 < S.2.2.2.2.2 ∧ nI S.2.2.2.2.2 ≤ yRun S T P w then 1 else T.2.2.1 w
/-- what a year in which P are paid makes of the times -/
def zYr (S : zSh) (T : zTm) (P : Nat → Bool) : zTm := (yHad S T P, yRun S T P, yGon S T P, T.2.2.2.1 + 1, T.2.2.2.2 + iSum (fun i => if P i = true then S.1.2.1 i else 0) S.1.1)
set_option maxHeartbeats 2000000 in
theorem cnt0 {P : Nat → Bool} : ∀ n, (nSum (fun i => if P i = true then 1 else 0) n = 0) = ∀ i, i < n → P i = false
  | 0 => propext ⟨fun _ i hi => absurd hi (Nat.not_lt_zero i), fun _ => rfl⟩
  | n + 1 => by
    apply propext
    rw [nSum]
    have ih := cnt0 (P := P) n
    constructor
    · intro e i hi
      by_cases q : i = n
      · subst q
        cases g : P i with
        | false => rfl
        | true => rw [g] at e; simp at e
      · have e1 : nSum (fun i => if P i = true then 1 else 0) n = 0 := by omega
        rw [ih] at e1
        exact e1 i (by omega)
    · intro e
      have e1 : nSum (fun i => if P i = true then 1 else 0) n = 0 := by rw [ih]; exact fun i hi => e i (by omega)
      rw [e1, e n (by omega)]
      rfl
set_option maxHeartbeats 2000000 in
theorem yWon_le {P : Nat → Bool} {w : Nat} : yWon S T P w ≤ 24 := by
  have := nSum_le (f := fun i => if (ownB S T w i && P i) = true then 1 else 0) (c := 1) 24 (fun k hk => by split <;> omega)
  unfold yWon
  omega
set_option maxHeartbeats 2000000 in
theorem pSh.pt {h : zH} {t : Nat} (hs : pSh h t S) : ∃ v0 v1 v2 v3 v4 v5 v6 v7 v8 v9 v10 v11 v12 v13 v14, h t = .inr (5, [v0, v1, v2, v3, v4, v5, v6, v7, v8, v9, v10, v11, v12, v13, v14, .int (nI S.2.2.2.2.2)]) := by
  obtain ⟨⟨np, wo, sa, au⟩, ⟨nj, le, fo, ro⟩, ⟨pa, pb, pc⟩, ⟨co, hx, hy⟩, hf, pt⟩ := S
  exact ⟨_, _, _, _, _, _, _, _, _, _, _, _, _, _, _, hs.1⟩
end C52
