-- two orders: sums, places
section C36
def nSum (f : Nat → Nat) : Nat → Nat
  | 0 => 0
  | k + 1 => nSum f k + f k
set_option maxHeartbeats 1000000 in
theorem nSum_congr {f g : Nat → Nat} : ∀ n, (∀ k, k < n → f k = g k) → nSum f n = nSum g n
  | 0, _ => rfl
  | n + 1, h => by rw [nSum, nSum, nSum_congr n (fun k hk => h k (by omega)), h n (by omega)]
set_option maxHeartbeats 1000000 in
theorem nSum_add {f g : Nat → Nat} : ∀ n, nSum (fun k => f k + g k) n = nSum f n + nSum g n
  | 0 => rfl
  | n + 1 => by rw [nSum, nSum, nSum, nSum_add n]; omega
set_option maxHeartbeats 1000000 in
theorem nSum_le {f : Nat → Nat} {c : Nat} : ∀ n, (∀ k, k < n → f k ≤ c) → nSum f n ≤ n * c
  | 0, _ => by simp [nSum]
  | n + 1, h => by
    have := nSum_le n (fun k hk => h k (by omega))
    have := h n (by omega)
    rw [nSum, Nat.succ_mul]
    omega
/-- the last place of i among the first n, of those that hold it -/
def zIx (g : Nat → Nat) (i : Nat) : Nat → Nat
  | 0 => 0
  | n + 1 => if g n = i then n else zIx g i n
set_option maxHeartbeats 1000000 in
theorem zIx_lt {g : Nat → Nat} {i : Nat} : ∀ n, (∃ j, j < n ∧ g j = i) → zIx g i n < n ∧ g (zIx g i n) = i
  | 0, ⟨j, h, _⟩ => absurd h (Nat.not_lt_zero j)
  | n + 1, ⟨j, h, e⟩ => by
    rw [zIx]
    split
    · next q => exact ⟨by omega, q⟩
    · next q =>
      have hj : j ≠ n := fun z => q (z ▸ e)
      have := zIx_lt n ⟨j, by omega, e⟩
      exact ⟨by omega, this.2⟩
/-- one before the other -/
def aA (R : Nat → Nat) (x y : Nat) : Nat := if R x < R y then 1 else 0
set_option maxHeartbeats 1000000 in
theorem aA_le {R : Nat → Nat} {x y : Nat} : aA R x y ≤ 1 := by unfold aA; split <;> omega
/-- pairs of a stretch, by the later one, by the earlier one -/
def tB (A : Nat → Nat → Nat) (a n : Nat) : Nat := nSum (fun l => nSum (fun t => A (a + t) (a + l)) l) n
def tA (A : Nat → Nat → Nat) (a n : Nat) : Nat := nSum (fun t => nSum (fun u => A (a + t) (a + t + 1 + u)) (n - 1 - t)) n
set_option maxHeartbeats 1000000 in
theorem tA_tB (A : Nat → Nat → Nat) (a : Nat) : ∀ n, tA A a n = tB A a n
  | 0 => rfl
  | n + 1 => by
    have ih := tA_tB A a n
    unfold tA tB at *
    rw [nSum, nSum]
    have e1 : nSum (fun u => A (a + n) (a + n + 1 + u)) (n + 1 - 1 - n) = 0 := by
      rw [show n + 1 - 1 - n = 0 by omega]; rfl
    rw [e1, Nat.add_zero, ← ih, ← nSum_add]
    apply nSum_congr
    intro t ht
    show nSum (fun u => A (a + t) (a + t + 1 + u)) (n + 1 - 1 - t) = nSum (fun u => A (a + t) (a + t + 1 + u)) (n - 1 - t) + A (a + t) (a + n)
    rw [show n + 1 - 1 - t = (n - 1 - t) + 1 by omega, nSum, show a + t + 1 + (n - 1 - t) = a + n by omega]
set_option maxHeartbeats 1000000 in
theorem tB_le {R : Nat → Nat} {a n : Nat} (hn : n ≤ 24) : tB (aA R) a n ≤ 576 := by
  have : tB (aA R) a n ≤ n * 24 := nSum_le n (fun l hl => by
    have := nSum_le (f := fun t => aA R (a + t) (a + l)) (c := 1) l (fun t ht => aA_le)
    omega)
  have : n * 24 ≤ 24 * 24 := Nat.mul_le_mul_right 24 hn
  omega
def prs (n : Nat) : Nat := nSum (fun l => l) n
set_option maxHeartbeats 1000000 in
theorem prs_eq : ∀ n, 2 * prs n = n * (n - 1)
  | 0 => rfl
  | n + 1 => by
    have ih := prs_eq n
    have : prs (n + 1) = prs n + n := rfl
    rw [this, Nat.mul_add, ih, Nat.add_sub_cancel]
    cases n with
    | zero => rfl
    | succ m => rw [Nat.add_sub_cancel, Nat.mul_comm (m + 1) m, ← Nat.add_mul]
set_option maxHeartbeats 1000000 in
theorem prs_le {n : Nat} (hn : n ≤ 24) : prs n ≤ 576 := by
  have h1 := prs_eq n
  have : n * (n - 1) ≤ 24 * 24 := Nat.mul_le_mul hn (by omega)
  omega
/-- the best stretch of those that are looked at -/
def cB (C G : Nat → Nat → Prop) (fi L : Nat) : Prop := (L = 0 ∧ ∀ a l, C a l → ¬ G a l) ∨ (C fi L ∧ G fi L ∧ ∀ a l, C a l → G a l → l < L ∨ (l = L ∧ fi ≤ a))
set_option maxHeartbeats 1000000 in
theorem cB.one {C G : Nat → Nat → Prop} {f1 L1 f2 L2 : Nat} (h0 : ∀ a l, C a l → 2 ≤ l) (h1 : cB C G f1 L1) (h2 : cB C G f2 L2) : L1 = L2 ∧ (L1 ≠ 0 → f1 = f2) := by
  rcases h1 with ⟨e1, n1⟩ | ⟨c1, g1, m1⟩ <;> rcases h2 with ⟨e2, n2⟩ | ⟨c2, g2, m2⟩
  · omega
  · exact absurd g2 (n1 _ _ c2)
  · exact absurd g1 (n2 _ _ c1)
  · have := m1 _ _ c2 g2
    have := m2 _ _ c1 g1
    omega
set_option maxHeartbeats 1000000 in
theorem cB.congr {C C' G : Nat → Nat → Prop} {f L : Nat} (h : ∀ a l, C a l ↔ C' a l) (h1 : cB C G f L) : cB C' G f L := by
  rcases h1 with ⟨e1, n1⟩ | ⟨c1, g1, m1⟩
  · exact Or.inl ⟨e1, fun a l c => n1 a l ((h a l).mpr c)⟩
  · exact Or.inr ⟨(h _ _).mp c1, g1, fun a l c => m1 a l ((h a l).mpr c)⟩
/-- stretches looked at: all from before a, those from a up to l long -/
def cL (n a l : Nat) : Nat → Nat → Prop := fun a' l' => 2 ≤ l' ∧ a' + l' ≤ n ∧ (a' < a ∨ (a' = a ∧ l' ≤ l))
set_option maxHeartbeats 1000000 in
theorem cB.stepG {G : Nat → Nat → Prop} {n a l fi L : Nat} (hl : 1 ≤ l) (hn : a + (l + 1) ≤ n) (h : cB (cL n a l) G fi L) (hg : G a (l + 1)) (hL : L < l + 1) : cB (cL n a (l + 1)) G a (l + 1) := by
  refine Or.inr ⟨⟨by omega, hn, Or.inr ⟨rfl, Nat.le_refl _⟩⟩, hg, fun a' l' c g => ?_⟩
  obtain ⟨c1, c2, c3⟩ := c
  by_cases q : a' = a ∧ l' = l + 1
  · omega
  · have hc : cL n a l a' l' := ⟨c1, c2, by omega⟩
    rcases h with ⟨e1, n1⟩ | ⟨d1, g1, m1⟩
    · exact absurd g (n1 _ _ hc)
    · have := m1 _ _ hc g; omega
set_option maxHeartbeats 1000000 in
theorem cB.stepN {G : Nat → Nat → Prop} {n a l fi L : Nat} (h : cB (cL n a l) G fi L) (hg : ¬ (G a (l + 1) ∧ L < l + 1)) : cB (cL n a (l + 1)) G fi L := by
  rcases h with ⟨e1, n1⟩ | ⟨⟨d1, d2, d3⟩, g1, m1⟩
  · refine Or.inl ⟨e1, fun a' l' c g => ?_⟩
    obtain ⟨c1, c2, c3⟩ := c
    by_cases q : a' = a ∧ l' = l + 1
    · obtain ⟨rfl, rfl⟩ := q; exact hg ⟨g, by omega⟩
    · exact n1 a' l' ⟨c1, c2, by omega⟩ g
  · refine Or.inr ⟨⟨d1, d2, by omega⟩, g1, fun a' l' c g => ?_⟩
    obtain ⟨c1, c2, c3⟩ := c
    by_cases q : a' = a ∧ l' = l + 1
    · obtain ⟨rfl, rfl⟩ := q
      have : ¬ L < l + 1 := fun z => hg ⟨g, z⟩
      omega
    · exact m1 a' l' ⟨c1, c2, by omega⟩ g
end C36
-- the class over two orders
section C36b
variable {X : Nat × (Nat → Int32)} {N : Nat} {h : zH} {Q : Option Value → Nat → zH → Prop} {r r2 n : Nat} {f g : Nat → Nat}
set_option maxHeartbeats 1000000 in
theorem c46 (hr : pRn h r n f) {k : Nat} (hk : k < n) : zE X 46 0 [some (.ref r), some (.int (nI k))] [] (N, 0, 0) h Q = Q (some (.int (nI (f k)))) N h := by
  obtain ⟨pl, po, ra, h1, h2, h3, h4, h5, h6, h7, h8, h9⟩ := hr
  have e1 : (nI k < 0) = False := eq_false (nI_pos (by omega))
  simp (disch := omega) only [e46_0, e46_1, e46_4, e46_5, e46_6, e46_9, e46_12, e46_13, e46_16, e46_17, e46_18, e46_21, e46_23, h1, h2, zg2_0, zp2_0, zg2_1, zp2_1, zg2_2, zp2_2, zg2_3, zp2_3, zrc_eq, zup_s, zup_n, zup_up, zal_i, zal_b, zal_z, zas_i, zas_b, zas_z, zan_eq, Option.toList_some, Option.toList_none, List.cons_append, List.nil_append, if_true, if_false, ite_true, ite_false, true_or, or_true, e1, znI_le, if_neg, h6 k hk]
set_option maxHeartbeats 1000000 in
theorem c46n (hr : pRn h r n f) {k : Nat} (hk : n ≤ k) (hk2 : k < 2 ^ 31) : zE X 46 0 [some (.ref r), some (.int (nI k))] [] (N, 0, 0) h Q = Q (some (.int (-4))) N h := by
  obtain ⟨pl, po, ra, h1, h2, h3, h4, h5, h6, h7, h8, h9⟩ := hr
  have e1 : (nI k < 0) = False := eq_false (nI_pos (by omega))
  simp (disch := omega) only [e46_0, e46_1, e46_4, e46_5, e46_6, e46_9, e46_12, e46_13, e46_16, e46_17, e46_18, e46_21, e46_23, h1, h2, zg2_0, zp2_0, zg2_1, zp2_1, zg2_2, zp2_2, zg2_3, zp2_3, zrc_eq, zup_s, zup_n, zup_up, zal_i, zal_b, zal_z, zas_i, zas_b, zas_z, zan_eq, Option.toList_some, Option.toList_none, List.cons_append, List.nil_append, if_true, if_false, ite_true, ite_false, true_or, or_true, e1, znI_le, if_pos]
set_option maxHeartbeats 1000000 in
theorem c53 (hr : pRn h r n f) {k : Nat} (hk : k < n) : zE X 53 0 [some (.ref r), some (.int (nI (f k)))] [] (N, 0, 0) h Q = Q (some (.int (nI k))) N h := by
  obtain ⟨pl, po, ra, h1, h2, h3, h4, h5, h6, h7, h8, h9⟩ := hr
  have := h9 k hk
  have e1 : (nI (f k) < 0) = False := eq_false (nI_pos (by omega))
  simp (disch := omega) only [e53_0, e53_1, e53_4, e53_5, e53_7, e53_10, e53_11, e53_14, e53_15, e53_16, e53_19, e53_21, h1, h4, zg2_0, zp2_0, zg2_1, zp2_1, zg2_2, zp2_2, zg2_3, zp2_3, zrc_eq, zup_s, zup_n, zup_up, zal_i, zal_b, zal_z, zas_i, zas_b, zas_z, zan_eq, Option.toList_some, Option.toList_none, List.cons_append, List.nil_append, if_true, if_false, ite_true, ite_false, true_or, or_true, zc24, e1, znI_le, if_neg, h7 k hk]
set_option maxHeartbeats 1000000 in
theorem c53n (hr : pRn h r n f) {i : Nat} (hi : i < 24) (hn : ∀ j, j < n → f j ≠ i) : zE X 53 0 [some (.ref r), some (.int (nI i))] [] (N, 0, 0) h Q = Q (some (.int (-4))) N h := by
  obtain ⟨pl, po, ra, h1, h2, h3, h4, h5, h6, h7, h8, h9⟩ := hr
  have e1 : (nI i < 0) = False := eq_false (nI_pos (by omega))
  simp (disch := omega) only [e53_0, e53_1, e53_4, e53_5, e53_7, e53_10, e53_11, e53_14, e53_15, e53_16, e53_19, e53_21, h1, h4, zg2_0, zp2_0, zg2_1, zp2_1, zg2_2, zp2_2, zg2_3, zp2_3, zrc_eq, zup_s, zup_n, zup_up, zal_i, zal_b, zal_z, zas_i, zas_b, zas_z, zan_eq, Option.toList_some, Option.toList_none, List.cons_append, List.nil_append, if_true, if_false, ite_true, ite_false, true_or, or_true, zc24, e1, znI_le, if_neg, h8 i hi hn]
set_option maxHeartbeats 1000000 in
theorem pRn.obj {h : zH} {r n : Nat} {f : Nat → Nat} (hr : pRn h r n f) : h r = .inr (2, [.int (nI n), .ref (r + 1), .ref (r + 2), .ref (r + 3)]) ∧ n ≤ 24 := by
  obtain ⟨pl, po, ra, h1, h2, h3, h4, h5, -⟩ := hr
  exact ⟨h1, h5⟩
/-- the rank in the second order of what has a rank in the first -/
def rT (f g : Nat → Nat) (n x : Nat) : Nat := zIx g (f x) n
set_option maxHeartbeats 1000000 in
theorem c52 (hr : pRn h r n f) (hg : pRn h r2 n g) (hin : ∀ k, k < n → ∃ j, j < n ∧ g j = f k) {k : Nat} (hk : k < n) : zE X 52 0 [some (.ref r), some (.ref r2), some (.int (nI k))] [] (N, 0, 0) h Q = Q (some (.int (nI (rT f g n k)))) N h := by
  obtain ⟨h1, h5⟩ := hr.obj
  obtain ⟨h2, -⟩ := hg.obj
  obtain ⟨a1, a2⟩ := zIx_lt n (hin k hk)
  have : ∀ Q', zE X 53 0 [some (.ref r2), some (.int (nI (f k)))] [] (N, 0, 0) h Q' = Q' (some (.int (nI (zIx g (f k) n)))) N h := fun Q' => by
    have := c53 (X := X) (N := N) (Q := Q') hg a1
    rwa [a2] at this
  simp (disch := omega) only [e52_0, e52_1, e52_2, e52_3, e52_6, e52_9, h1, h2, zrc_eq, zup_s, zup_n, zup_up, zal_i, zal_b, zal_z, zas_i, zas_b, zas_z, zan_eq, Option.toList_some, Option.toList_none, List.cons_append, List.nil_append, if_true, if_false, ite_true, ite_false, true_or, or_true, c46 hr hk, this, rT]
set_option maxHeartbeats 1000000 in
theorem rT_lt (hin : ∀ k, k < n → ∃ j, j < n ∧ g j = f k) {k : Nat} (hk : k < n) : rT f g n k < n := (zIx_lt n (hin k hk)).1
set_option maxHeartbeats 1000000 in
theorem c51_loop (hr : pRn h r n f) (hg : pRn h r2 n g) (hin : ∀ k, k < n → ∃ j, j < n ∧ g j = f k) {a l : Nat} {l2 : Option Value} (hb : a + l < n) : ∀ m u, m + u = l → zE X 51 14 [some (.ref r), some (.ref r2), l2, some (.int (nI (a + l))), some (.int (nI (nSum (fun t => aA (rT f g n) (a + t) (a + l)) u))), some (.int (nI (rT f g n (a + l)))), some (.int (nI (a + u)))] [] (N, 0, 0) h Q = Q (some (.int (nI (nSum (fun t => aA (rT f g n) (a + t) (a + l)) l)))) N h := by
  obtain ⟨h1, h5⟩ := hr.obj
  have q2 := rT_lt hin hb
  intro m
  induction m with
  | zero =>
    intro u hu
    obtain rfl : u = l := by omega
    rw [e51_14]
    simp (disch := omega) only [e51_0, e51_1, e51_3, e51_4, e51_5, e51_6, e51_9, e51_11, e51_12, e51_16, e51_17, e51_20, e51_21, e51_22, e51_24, e51_27, e51_29, e51_32, e51_35, e51_38, e51_41, e51_43, znI_le, if_pos]
  | succ m ih =>
    intro u hu
    have ih' := ih (u + 1) (by omega)
    rw [nSum, ← Nat.add_assoc] at ih'
    have q1 := rT_lt hin (k := a + u) (by omega)
    rw [e51_14]
    by_cases g1 : rT f g n (a + u) < rT f g n (a + l)
    · rw [show aA (rT f g n) (a + u) (a + l) = 1 from if_pos g1] at ih'
      simp (disch := omega) only [e51_0, e51_1, e51_3, e51_4, e51_5, e51_6, e51_9, e51_11, e51_12, e51_16, e51_17, e51_20, e51_21, e51_22, e51_24, e51_27, e51_29, e51_32, e51_35, e51_38, e51_41, e51_43, h1, zrc_eq, zup_s, zup_n, zup_up, zal_i, zal_b, zal_z, zas_i, zas_b, zas_z, zan_eq, Option.toList_some, Option.toList_none, List.cons_append, List.nil_append, if_true, if_false, ite_true, ite_false, true_or, or_true, c52 hr hg hin, znI_le, if_neg, nI_1]
      exact ih'
    · rw [show aA (rT f g n) (a + u) (a + l) = 0 from if_neg g1, Nat.add_zero] at ih'
      simp (disch := omega) only [e51_0, e51_1, e51_3, e51_4, e51_5, e51_6, e51_9, e51_11, e51_12, e51_16, e51_17, e51_20, e51_21, e51_22, e51_24, e51_27, e51_29, e51_32, e51_35, e51_38, e51_41, e51_43, h1, zrc_eq, zup_s, zup_n, zup_up, zal_i, zal_b, zal_z, zas_i, zas_b, zas_z, zan_eq, Option.toList_some, Option.toList_none, List.cons_append, List.nil_append, if_true, if_false, ite_true, ite_false, true_or, or_true, c52 hr hg hin, znI_le, if_neg, if_pos, nI_1]
      exact ih'
set_option maxHeartbeats 1000000 in
theorem c51 (hr : pRn h r n f) (hg : pRn h r2 n g) (hin : ∀ k, k < n → ∃ j, j < n ∧ g j = f k) {a l : Nat} (hb : a + l < n) : zE X 51 0 [some (.ref r), some (.ref r2), some (.int (nI a)), some (.int (nI (a + l))), none, none, none] [] (N, 0, 0) h Q = Q (some (.int (nI (nSum (fun t => aA (rT f g n) (a + t) (a + l)) l)))) N h := by
  obtain ⟨h1, h5⟩ := hr.obj
  simp (disch := omega) only [e51_0, e51_1, e51_3, e51_4, e51_5, e51_6, e51_9, e51_11, e51_12, e51_16, e51_17, e51_20, e51_21, e51_22, e51_24, e51_27, e51_29, e51_32, e51_35, e51_38, e51_41, e51_43, h1, zrc_eq, zup_s, zup_n, zup_up, zal_i, zal_b, zal_z, zas_i, zas_b, zas_z, zan_eq, Option.toList_some, Option.toList_none, List.cons_append, List.nil_append, if_true, if_false, ite_true, ite_false, true_or, or_true, c52 hr hg hin]
  exact c51_loop hr hg hin hb l 0 (by omega)
set_option maxHeartbeats 1000000 in
theorem c50_loop {l0 : Option Value} (hr : pRn h r n f) (hg : pRn h r2 n g) (hin : ∀ k, k < n → ∃ j, j < n ∧ g j = f k) : ∀ m k, m + k = n → 1 ≤ k → zE X 50 5 [l0, some (.ref r), some (.ref r2), some (.int (nI (tB (aA (rT f g n)) 0 k))), some (.int (nI k))] [] (N, 0, 0) h Q = Q (some (.int (nI (tB (aA (rT f g n)) 0 n)))) N h := by
  obtain ⟨h1, h5⟩ := hr.obj
  intro m
  induction m with
  | zero =>
    intro k hk _
    obtain rfl : k = n := by omega
    rw [e50_5]
    simp (disch := omega) only [e50_0, e50_1, e50_2, e50_3, e50_7, e50_8, e50_11, e50_14, e50_15, e50_16, e50_17, e50_18, e50_20, e50_23, e50_24, e50_25, e50_28, e50_31, e50_32, h1, zg2_0, zp2_0, zg2_1, zp2_1, zg2_2, zp2_2, zg2_3, zp2_3, zrc_eq, zup_s, zup_n, zup_up, zal_i, zal_b, zal_z, zas_i, zas_b, zas_z, zan_eq, Option.toList_some, Option.toList_none, List.cons_append, List.nil_append, if_true, if_false, ite_true, ite_false, true_or, or_true, znI_le, if_pos]
  | succ m ih =>
    intro k hk _
    have ih' := ih (k + 1) (by omega) (by omega)
    have e := c51 (X := X) (N := N) (Q := fun v N' h' => zE X 50 23 [l0, some (.ref r), some (.ref r2), some (.int (nI (tB (aA (rT f g n)) 0 k))), some (.int (nI k))] (v.toList ++ [.int (nI (tB (aA (rT f g n)) 0 k))]) (N', 0, 0) h' Q) hr hg hin (a := 0) (l := k) (by omega)
    rw [Nat.zero_add] at e
    rw [e50_5]
    simp (disch := omega) only [e50_0, e50_1, e50_2, e50_3, e50_7, e50_8, e50_11, e50_14, e50_15, e50_16, e50_17, e50_18, e50_20, e50_24, e50_25, e50_28, e50_31, e50_32, h1, zg2_0, zp2_0, zg2_1, zp2_1, zg2_2, zp2_2, zg2_3, zp2_3, zrc_eq, zup_s, zup_n, zup_up, zal_i, zal_b, zal_z, zas_i, zas_b, zas_z, zan_eq, Option.toList_some, Option.toList_none, List.cons_append, List.nil_append, if_true, if_false, ite_true, ite_false, true_or, or_true, zc0, znI_le, if_neg]
    simp only [Option.toList_some, List.cons_append, List.nil_append] at e
    rw [e]
    simp (disch := omega) only [e50_0, e50_1, e50_2, e50_3, e50_7, e50_8, e50_11, e50_14, e50_15, e50_16, e50_17, e50_18, e50_20, e50_23, e50_24, e50_25, e50_28, e50_31, e50_32, zrc_eq, zup_s, zup_n, zup_up, zal_i, zal_b, zal_z, zas_i, zas_b, zas_z, zan_eq, Option.toList_some, Option.toList_none, List.cons_append, List.nil_append, if_true, if_false, ite_true, ite_false, true_or, or_true, nI_add, nI_1]
    have eT : tB (aA (rT f g n)) 0 k + nSum (fun t => aA (rT f g n) (0 + t) k) k = tB (aA (rT f g n)) 0 (k + 1) := by
      show _ = tB (aA (rT f g n)) 0 k + nSum (fun t => aA (rT f g n) (0 + t) (0 + k)) k
      rw [Nat.zero_add]
    rw [eT]
    exact ih'
set_option maxHeartbeats 1000000 in
theorem c50 {l0 : Option Value} (hr : pRn h r n f) (hg : pRn h r2 n g) (hin : ∀ k, k < n → ∃ j, j < n ∧ g j = f k) : zE X 50 0 [l0, some (.ref r), some (.ref r2), none, none] [] (N, 0, 0) h Q = Q (some (.int (nI (tB (aA (rT f g n)) 0 n)))) N h := by
  obtain ⟨h1, h5⟩ := hr.obj
  simp (disch := omega) only [e50_0, e50_1, e50_2, e50_3, e50_7, e50_8, e50_11, e50_14, e50_15, e50_16, e50_17, e50_18, e50_20, e50_23, e50_24, e50_25, e50_28, e50_31, e50_32, zc0, zc1]
  by_cases hn : n = 0
  · subst hn
    rw [e50_5]
    simp (disch := omega) only [e50_0, e50_1, e50_2, e50_3, e50_7, e50_8, e50_11, e50_14, e50_15, e50_16, e50_17, e50_18, e50_20, e50_23, e50_24, e50_25, e50_28, e50_31, e50_32, h1, zg2_0, zp2_0, zg2_1, zp2_1, zg2_2, zp2_2, zg2_3, zp2_3, zrc_eq, zup_s, zup_n, zup_up, zal_i, zal_b, zal_z, zas_i, zas_b, zas_z, zan_eq, Option.toList_some, Option.toList_none, List.cons_append, List.nil_append, if_true, if_false, ite_true, ite_false, true_or, or_true, znI_le, if_pos]
    rfl
  · exact c50_loop hr hg hin (n - 1) 1 (by omega) (by omega)
set_option maxHeartbeats 1000000 in
theorem c56_loop (hr : pRn h r n f) (hg : pRn h r2 n g) (hin : ∀ k, k < n → ∃ j, j < n ∧ g j = f k) {b : Nat} (hb : b ≤ n) : ∀ m u, m + u = b → zE X 56 5 [some (.ref r), some (.ref r2), some (.int (nI b)), some (.int (nI (nSum (fun t => if rT f g n t < b then 1 else 0) u))), some (.int (nI u))] [] (N, 0, 0) h Q = Q (some (.int (nI (nSum (fun t => if rT f g n t < b then 1 else 0) b)))) N h := by
  obtain ⟨h1, h5⟩ := hr.obj
  intro m
  induction m with
  | zero =>
    intro u hu
    obtain rfl : u = b := by omega
    rw [e56_5]
    simp (disch := omega) only [e56_0, e56_1, e56_2, e56_3, e56_7, e56_8, e56_11, e56_12, e56_13, e56_15, e56_18, e56_19, e56_22, e56_25, e56_28, e56_31, e56_32, znI_le, if_pos]
  | succ m ih =>
    intro u hu
    have ih' := ih (u + 1) (by omega)
    rw [nSum] at ih'
    have q1 := rT_lt hin (k := u) (by omega)
    rw [e56_5]
    by_cases g1 : rT f g n u < b
    · rw [if_pos g1] at ih'
      simp (disch := omega) only [e56_0, e56_1, e56_2, e56_3, e56_7, e56_8, e56_11, e56_12, e56_13, e56_15, e56_18, e56_19, e56_22, e56_25, e56_28, e56_31, e56_32, h1, zrc_eq, zup_s, zup_n, zup_up, zal_i, zal_b, zal_z, zas_i, zas_b, zas_z, zan_eq, Option.toList_some, Option.toList_none, List.cons_append, List.nil_append, if_true, if_false, ite_true, ite_false, true_or, or_true, c52 hr hg hin, znI_le, if_neg, nI_1]
      exact ih'
    · rw [if_neg g1, Nat.add_zero] at ih'
      simp (disch := omega) only [e56_0, e56_1, e56_2, e56_3, e56_7, e56_8, e56_11, e56_12, e56_13, e56_15, e56_18, e56_19, e56_22, e56_25, e56_28, e56_31, e56_32, h1, zrc_eq, zup_s, zup_n, zup_up, zal_i, zal_b, zal_z, zas_i, zas_b, zas_z, zan_eq, Option.toList_some, Option.toList_none, List.cons_append, List.nil_append, if_true, if_false, ite_true, ite_false, true_or, or_true, c52 hr hg hin, znI_le, if_neg, if_pos, nI_1]
      exact ih'
set_option maxHeartbeats 1000000 in
theorem c56 (hr : pRn h r n f) (hg : pRn h r2 n g) (hin : ∀ k, k < n → ∃ j, j < n ∧ g j = f k) {b : Nat} (hb : b ≤ n) : zE X 56 0 [some (.ref r), some (.ref r2), some (.int (nI b)), none, none] [] (N, 0, 0) h Q = Q (some (.int (nI (nSum (fun t => if rT f g n t < b then 1 else 0) b)))) N h := by
  simp (disch := omega) only [e56_0, e56_1, e56_2, e56_3, e56_7, e56_8, e56_11, e56_12, e56_13, e56_15, e56_18, e56_19, e56_22, e56_25, e56_28, e56_31, e56_32, zc0]
  exact c56_loop hr hg hin hb b 0 (by omega)
/-- what makes a stretch one in which a coin does as well -/
def cG (R : Nat → Nat) (a l : Nat) : Prop := 2 * tB (aA R) a l ≤ prs l
set_option maxHeartbeats 1000000 in
theorem c61_31 (hq : r + 3 < 48 ∧ r2 + 3 < 48) (hin : ∀ k, k < n → ∃ j, j < n ∧ g j = f k) {a : Nat} : ∀ (m l fi L : Nat) (h : zH) (l7 : Option Value), m + (a + l) = n → 1 ≤ l → pRn h r n f → pRn h r2 n g → L ≤ 24 → h 48 = .inr (7, [.int (nI fi), .int (nI L)]) → cB (cL n a l) (cG (rT f g n)) fi L →
    (∀ fi' L' h' l4 l5 l6 l7, L' ≤ 24 → h' 48 = .inr (7, [.int (nI fi'), .int (nI L')]) → cB (cL n (a + 1) 1) (cG (rT f g n)) fi' L' → zfr (fun a => a = 48) h h' → zE X 61 105 [some (.ref 48), some (.ref r), some (.ref r2), some (.int (nI a)), l4, l5, l6, l7] [] (N, 0, 0) h' Q) →
    zE X 61 31 [some (.ref 48), some (.ref r), some (.ref r2), some (.int (nI a)), some (.int (nI (tB (aA (rT f g n)) a l))), some (.int (nI (prs l))), some (.int (nI (a + l))), l7] [] (N, 0, 0) h Q := by
  intro m
  induction m with
  | zero =>
    intro l fi L h l7 hm hl hr hg hL h1 hc K
    obtain ⟨h2, h5⟩ := hr.obj
    rw [e61_31]
    simp (disch := omega) only [e61_0, e61_1, e61_2, e61_5, e61_6, e61_7, e61_10, e61_11, e61_13, e61_14, e61_17, e61_20, e61_21, e61_23, e61_24, e61_26, e61_27, e61_28, e61_29, e61_33, e61_34, e61_37, e61_40, e61_42, e61_43, e61_44, e61_45, e61_47, e61_50, e61_51, e61_53, e61_55, e61_57, e61_58, e61_59, e61_60, e61_62, e61_64, e61_65, e61_66, e61_67, e61_68, e61_70, e61_71, e61_73, e61_74, e61_76, e61_79, e61_81, e61_82, e61_85, e61_88, e61_89, e61_90, e61_93, e61_94, e61_96, e61_99, e61_102, e61_108, e61_111, h2, zg2_0, zp2_0, zg2_1, zp2_1, zg2_2, zp2_2, zg2_3, zp2_3, zrc_eq, zup_s, zup_n, zup_up, zal_i, zal_b, zal_z, zas_i, zas_b, zas_z, zan_eq, Option.toList_some, Option.toList_none, List.cons_append, List.nil_append, if_true, if_false, ite_true, ite_false, true_or, or_true, znI_le, if_pos]
    refine K fi L h _ _ _ _ hL h1 (hc.congr (fun a' l' => ?_)) zfr.rf
    unfold cL
    omega
  | succ m ih =>
    intro l fi L h l7 hm hl hr hg hL h1 hc K
    obtain ⟨h2, h5⟩ := hr.obj
    have b1 := tB_le (R := rT f g n) (a := a) (n := l + 1) (by omega)
    have b2 := prs_le (n := l + 1) (by omega)
    have eT : tB (aA (rT f g n)) a l + nSum (fun t => aA (rT f g n) (a + t) (a + l)) l = tB (aA (rT f g n)) a (l + 1) := rfl
    have eP : prs l + l = prs (l + 1) := rfl
    have es : nI (a + l) - nI a = nI l := by rw [pk_sub (by omega), Nat.add_sub_cancel_left]
    have m2 : (2 : Int32) * nI (tB (aA (rT f g n)) a (l + 1)) = nI (2 * tB (aA (rT f g n)) a (l + 1)) := by rw [zc2, pk_mul]
    rw [e61_31]
    simp (disch := omega) only [e61_0, e61_1, e61_2, e61_5, e61_6, e61_7, e61_10, e61_11, e61_13, e61_14, e61_17, e61_20, e61_21, e61_23, e61_24, e61_26, e61_27, e61_28, e61_29, e61_33, e61_34, e61_37, e61_40, e61_42, e61_43, e61_44, e61_45, e61_47, e61_50, e61_51, e61_53, e61_55, e61_57, e61_58, e61_59, e61_60, e61_62, e61_64, e61_65, e61_66, e61_67, e61_68, e61_70, e61_71, e61_73, e61_74, e61_79, e61_81, e61_82, e61_85, e61_88, e61_89, e61_90, e61_93, e61_94, e61_96, e61_99, e61_102, e61_105, e61_108, e61_111, h2, zg2_0, zp2_0, zg2_1, zp2_1, zg2_2, zp2_2, zg2_3, zp2_3, zrc_eq, zup_s, zup_n, zup_up, zal_i, zal_b, zal_z, zas_i, zas_b, zas_z, zan_eq, Option.toList_some, Option.toList_none, List.cons_append, List.nil_append, if_true, if_false, ite_true, ite_false, true_or, or_true, znI_le, if_neg, c51 hr hg hin, nI_add, eT, eP, es, nI_1, m2]
    rw [e61_76]
    simp (disch := omega) only [znI_lt]
    by_cases g1 : prs (l + 1) < 2 * tB (aA (rT f g n)) a (l + 1)
    · rw [if_pos g1]
      simp (disch := omega) only [e61_0, e61_1, e61_2, e61_5, e61_6, e61_7, e61_10, e61_11, e61_13, e61_14, e61_17, e61_20, e61_21, e61_23, e61_24, e61_26, e61_27, e61_28, e61_29, e61_33, e61_34, e61_37, e61_40, e61_42, e61_43, e61_44, e61_45, e61_47, e61_50, e61_51, e61_53, e61_55, e61_57, e61_58, e61_59, e61_60, e61_62, e61_64, e61_65, e61_66, e61_67, e61_68, e61_70, e61_71, e61_73, e61_74, e61_76, e61_79, e61_81, e61_82, e61_85, e61_88, e61_89, e61_90, e61_93, e61_94, e61_96, e61_99, e61_102, e61_108, e61_111, nI_1]
      exact ih (l + 1) fi L h _ (by omega) (by omega) hr hg hL h1 (hc.stepN (fun z => by have : 2 * tB (aA (rT f g n)) a (l + 1) ≤ prs (l + 1) := z.1; omega)) K
    · rw [if_neg g1]
      by_cases g2 : L < l + 1
      · simp (disch := omega) only [e61_0, e61_1, e61_2, e61_5, e61_6, e61_7, e61_10, e61_11, e61_13, e61_14, e61_17, e61_20, e61_21, e61_23, e61_24, e61_26, e61_27, e61_28, e61_29, e61_33, e61_34, e61_37, e61_40, e61_42, e61_43, e61_44, e61_45, e61_47, e61_50, e61_51, e61_53, e61_55, e61_57, e61_58, e61_59, e61_60, e61_62, e61_64, e61_65, e61_66, e61_67, e61_68, e61_70, e61_71, e61_73, e61_74, e61_76, e61_79, e61_81, e61_82, e61_85, e61_88, e61_89, e61_90, e61_93, e61_94, e61_96, e61_99, e61_102, e61_108, e61_111, h1, zg7_0, zp7_0, zg7_1, zp7_1, zrc_eq, zup_s, zup_n, zup_up, zal_i, zal_b, zal_z, zas_i, zas_b, zas_z, zan_eq, Option.toList_some, Option.toList_none, List.cons_append, List.nil_append, if_true, if_false, ite_true, ite_false, true_or, or_true, znI_le, if_neg, nI_1]
        have F1 : zfr (fun a => a = 48) h (va_up h 48 (.inr (7, [.int (nI a), .int (nI (l + 1))]))) := zfr.up rfl zfr.rf
        exact ih (l + 1) a (l + 1) _ _ (by omega) (by omega) (hr.kept F1 (by omega)) (hg.kept F1 (by omega)) (by omega) zup_s (hc.stepG hl (by omega) (by show 2 * tB (aA (rT f g n)) a (l + 1) ≤ prs (l + 1); omega) g2) (fun fi' L' h' l4 l5 l6 l7 c1 c2 c3 c4 => K fi' L' h' l4 l5 l6 l7 c1 c2 c3 (F1.tr c4))
      · simp (disch := omega) only [e61_0, e61_1, e61_2, e61_5, e61_6, e61_7, e61_10, e61_11, e61_13, e61_14, e61_17, e61_20, e61_21, e61_23, e61_24, e61_26, e61_27, e61_28, e61_29, e61_33, e61_34, e61_37, e61_40, e61_42, e61_43, e61_44, e61_45, e61_47, e61_50, e61_51, e61_53, e61_55, e61_57, e61_58, e61_59, e61_60, e61_62, e61_64, e61_65, e61_66, e61_67, e61_68, e61_70, e61_71, e61_73, e61_74, e61_76, e61_79, e61_81, e61_82, e61_85, e61_88, e61_89, e61_90, e61_93, e61_94, e61_96, e61_99, e61_102, e61_108, e61_111, h1, zg7_0, zp7_0, zg7_1, zp7_1, zrc_eq, zup_s, zup_n, zup_up, zal_i, zal_b, zal_z, zas_i, zas_b, zas_z, zan_eq, Option.toList_some, Option.toList_none, List.cons_append, List.nil_append, if_true, if_false, ite_true, ite_false, true_or, or_true, znI_le, if_pos, nI_1]
        exact ih (l + 1) fi L h _ (by omega) (by omega) hr hg hL h1 (hc.stepN (fun z => g2 z.2)) K
set_option maxHeartbeats 1000000 in
theorem c61_12 (hq : r + 3 < 48 ∧ r2 + 3 < 48) (hin : ∀ k, k < n → ∃ j, j < n ∧ g j = f k) : ∀ (m a fi L : Nat) (h : zH) (l4 l5 l6 l7 : Option Value), m + a = n → pRn h r n f → pRn h r2 n g → L ≤ 24 → h 48 = .inr (7, [.int (nI fi), .int (nI L)]) → cB (cL n a 1) (cG (rT f g n)) fi L →
    (∀ fi' L' h', L' ≤ 24 → h' 48 = .inr (7, [.int (nI fi'), .int (nI L')]) → cB (cL n n 1) (cG (rT f g n)) fi' L' → zfr (fun a => a = 48) h h' → Q none N h') →
    zE X 61 12 [some (.ref 48), some (.ref r), some (.ref r2), some (.int (nI a)), l4, l5, l6, l7] [] (N, 0, 0) h Q := by
  intro m
  induction m with
  | zero =>
    intro a fi L h l4 l5 l6 l7 hm hr hg hL h1 hc K
    obtain ⟨h2, h5⟩ := hr.obj
    obtain rfl : a = n := by omega
    rw [e61_12]
    simp (disch := omega) only [e61_0, e61_1, e61_2, e61_5, e61_6, e61_7, e61_10, e61_11, e61_13, e61_14, e61_17, e61_20, e61_21, e61_23, e61_24, e61_26, e61_27, e61_28, e61_29, e61_33, e61_34, e61_37, e61_40, e61_42, e61_43, e61_44, e61_45, e61_47, e61_50, e61_51, e61_53, e61_55, e61_57, e61_58, e61_59, e61_60, e61_62, e61_64, e61_65, e61_66, e61_67, e61_68, e61_70, e61_71, e61_73, e61_74, e61_76, e61_79, e61_81, e61_82, e61_85, e61_88, e61_89, e61_90, e61_93, e61_94, e61_96, e61_99, e61_102, e61_105, e61_108, e61_111, h2, zg2_0, zp2_0, zg2_1, zp2_1, zg2_2, zp2_2, zg2_3, zp2_3, zrc_eq, zup_s, zup_n, zup_up, zal_i, zal_b, zal_z, zas_i, zas_b, zas_z, zan_eq, Option.toList_some, Option.toList_none, List.cons_append, List.nil_append, if_true, if_false, ite_true, ite_false, true_or, or_true, znI_le, if_pos]
    exact K fi L h hL h1 hc zfr.rf
  | succ m ih =>
    intro a fi L h l4 l5 l6 l7 hm hr hg hL h1 hc K
    obtain ⟨h2, h5⟩ := hr.obj
    rw [e61_12]
    simp (disch := omega) only [e61_0, e61_1, e61_2, e61_5, e61_6, e61_7, e61_10, e61_11, e61_13, e61_14, e61_17, e61_20, e61_21, e61_23, e61_24, e61_26, e61_27, e61_28, e61_29, e61_33, e61_34, e61_37, e61_40, e61_42, e61_43, e61_44, e61_45, e61_47, e61_50, e61_51, e61_53, e61_55, e61_57, e61_58, e61_59, e61_60, e61_62, e61_64, e61_65, e61_66, e61_67, e61_68, e61_70, e61_71, e61_73, e61_74, e61_76, e61_79, e61_81, e61_82, e61_85, e61_88, e61_89, e61_90, e61_93, e61_94, e61_96, e61_99, e61_102, e61_108, e61_111, h2, zg2_0, zp2_0, zg2_1, zp2_1, zg2_2, zp2_2, zg2_3, zp2_3, zrc_eq, zup_s, zup_n, zup_up, zal_i, zal_b, zal_z, zas_i, zas_b, zas_z, zan_eq, Option.toList_some, Option.toList_none, List.cons_append, List.nil_append, if_true, if_false, ite_true, ite_false, true_or, or_true, znI_le, if_neg, nI_1]
    refine c61_31 hq hin m 1 fi L h _ (by omega) (by omega) hr hg hL h1 hc (fun fi' L' h' l4 l5 l6 l7 c1 c2 c3 c4 => ?_)
    simp (disch := omega) only [e61_0, e61_1, e61_2, e61_5, e61_6, e61_7, e61_10, e61_11, e61_13, e61_14, e61_17, e61_20, e61_21, e61_23, e61_24, e61_26, e61_27, e61_28, e61_29, e61_33, e61_34, e61_37, e61_40, e61_42, e61_43, e61_44, e61_45, e61_47, e61_50, e61_51, e61_53, e61_55, e61_57, e61_58, e61_59, e61_60, e61_62, e61_64, e61_65, e61_66, e61_67, e61_68, e61_70, e61_71, e61_73, e61_74, e61_76, e61_79, e61_81, e61_82, e61_85, e61_88, e61_89, e61_90, e61_93, e61_94, e61_96, e61_99, e61_102, e61_105, e61_108, e61_111, nI_1]
    exact ih (a + 1) fi' L' h' _ _ _ _ (by omega) (hr.kept c4 (by omega)) (hg.kept c4 (by omega)) c1 c2 c3 (fun fi2 L2 h2 d1 d2 d3 d4 => K fi2 L2 h2 d1 d2 d3 (c4.tr d4))
set_option maxHeartbeats 1000000 in
theorem c61 (hq : r + 3 < 48 ∧ r2 + 3 < 48) (hin : ∀ k, k < n → ∃ j, j < n ∧ g j = f k) {x y : Int32} (hr : pRn h r n f) (hg : pRn h r2 n g) (h1 : h 48 = .inr (7, [.int x, .int y])) (K : ∀ fi' L' h', L' ≤ 24 → h' 48 = .inr (7, [.int (nI fi'), .int (nI L')]) → cB (cL n n 1) (cG (rT f g n)) fi' L' → zfr (fun a => a = 48) h h' → Q none N h') : zE X 61 0 [some (.ref 48), some (.ref r), some (.ref r2), none, none, none, none, none] [] (N, 0, 0) h Q := by
  simp (disch := omega) only [e61_0, e61_1, e61_2, e61_5, e61_6, e61_7, e61_10, e61_11, e61_13, e61_14, e61_17, e61_20, e61_21, e61_23, e61_24, e61_26, e61_27, e61_28, e61_29, e61_33, e61_34, e61_37, e61_40, e61_42, e61_43, e61_44, e61_45, e61_47, e61_50, e61_51, e61_53, e61_55, e61_57, e61_58, e61_59, e61_60, e61_62, e61_64, e61_65, e61_66, e61_67, e61_68, e61_70, e61_71, e61_73, e61_74, e61_76, e61_79, e61_81, e61_82, e61_85, e61_88, e61_89, e61_90, e61_93, e61_94, e61_96, e61_99, e61_102, e61_105, e61_108, e61_111, h1, zg7_0, zp7_0, zg7_1, zp7_1, zrc_eq, zup_s, zup_n, zup_up, zal_i, zal_b, zal_z, zas_i, zas_b, zas_z, zan_eq, Option.toList_some, Option.toList_none, List.cons_append, List.nil_append, if_true, if_false, ite_true, ite_false, true_or, or_true, zc0]
  have F1 : zfr (fun a => a = 48) h (va_up h 48 (.inr (7, [.int (nI 0), .int (nI 0)]))) := zfr.up rfl zfr.rf
  exact c61_12 hq hin n 0 0 0 _ _ _ _ _ (by omega) (hr.kept F1 (by omega)) (hg.kept F1 (by omega)) (by omega) zup_s (Or.inl ⟨rfl, fun a l c => by unfold cL at c; omega⟩) (fun fi' L' h' d1 d2 d3 d4 => K fi' L' h' d1 d2 d3 (F1.tr d4))
end C36b
