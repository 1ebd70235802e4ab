-- sums of the least, of the greatest of a row
section C45
/-- how many of the first n have a mark -/
def cq (p : Nat → Bool) (f : Nat → Nat) (n : Nat) : Nat := nSum (fun k => if p (f k) = true then 1 else 0) n
def upv (v : Nat) : Nat → Bool := fun x => decide (v < x)
def dnv (v : Nat) : Nat → Bool := fun x => decide (x ≤ v)
set_option maxHeartbeats 2000000 in
theorem nSum_front {f : Nat → Nat} : ∀ n, nSum f (n + 1) = f 0 + nSum (fun k => f (k + 1)) n
  | 0 => by
    show 0 + f 0 = f 0 + 0
    omega
  | n + 1 => by rw [nSum, nSum_front n, nSum, Nat.add_assoc]
set_option maxHeartbeats 2000000 in
theorem nSum_rev {f : Nat → Nat} : ∀ n, nSum (fun k => f (n - 1 - k)) n = nSum f n
  | 0 => rfl
  | n + 1 => by
    rw [nSum_front, nSum, ← nSum_rev n, Nat.add_comm]
    congr 1
    apply nSum_congr
    intro k hk
    congr 1
    omega
set_option maxHeartbeats 2000000 in
theorem nSum_split {f : Nat → Nat} {a : Nat} : ∀ b, nSum f (a + b) = nSum f a + nSum (fun k => f (a + k)) b
  | 0 => rfl
  | b + 1 => by rw [← Nat.add_assoc, nSum, nSum_split b, nSum, Nat.add_assoc]
set_option maxHeartbeats 2000000 in
theorem cq_le {p : Nat → Bool} {f : Nat → Nat} {n : Nat} : cq p f n ≤ n := by
  have := nSum_le (f := fun k => if p (f k) = true then 1 else 0) (c := 1) n (fun k hk => by split <;> omega)
  unfold cq
  omega
set_option maxHeartbeats 2000000 in
theorem cq_mono {p : Nat → Bool} {f : Nat → Nat} {c n : Nat} (h : c ≤ n) : cq p f c ≤ cq p f n := by
  unfold cq
  rw [show n = c + (n - c) by omega, nSum_split]
  omega
set_option maxHeartbeats 2000000 in
theorem cq_all {p : Nat → Bool} {f : Nat → Nat} : ∀ n, (∀ k, k < n → p (f k) = true) → cq p f n = n
  | 0, _ => rfl
  | n + 1, h => by
    have := cq_all n (fun k hk => h k (by omega))
    unfold cq at *
    rw [nSum, this, if_pos (h n (by omega))]
set_option maxHeartbeats 2000000 in
theorem cq_rest {p : Nat → Bool} {f : Nat → Nat} {c n : Nat} (hc : c ≤ n) (h : ∀ j, c ≤ j → j < n → p (f j) = false) : cq p f n = cq p f c := by
  have z : ∀ m, c + m ≤ n → cq p f (c + m) = cq p f c := by
    intro m
    induction m with
    | zero => intro _; rfl
    | succ m ih =>
      intro hm
      have := ih (by omega)
      unfold cq at *
      rw [← Nat.add_assoc, nSum, this, if_neg (by rw [h _ (by omega) (by omega)]; decide)]
      rfl
  have := z (n - c) (by omega)
  rwa [show c + (n - c) = n by omega] at this
set_option maxHeartbeats 2000000 in
theorem cq_not {v : Nat} {f : Nat → Nat} : ∀ n, cq (upv v) f n + cq (dnv v) f n = n
  | 0 => rfl
  | n + 1 => by
    have ih := cq_not (v := v) (f := f) n
    unfold cq upv dnv at *
    rw [nSum, nSum]
    by_cases g : v < f n
    · rw [if_pos (by simpa using g), if_neg (by simpa using g)]; omega
    · rw [if_neg (by simpa using g), if_pos (by simpa using g)]; omega
set_option maxHeartbeats 2000000 in
theorem lt_sum {a : Nat} : ∀ M, nSum (fun v => if v < a then 1 else 0) M = min a M
  | 0 => by simp [nSum]
  | M + 1 => by
    rw [nSum, lt_sum M]
    split <;> omega
set_option maxHeartbeats 2000000 in
theorem nSum_swap {A : Nat → Nat → Nat} {c : Nat} : ∀ M, nSum (fun v => nSum (fun k => A k v) c) M = nSum (fun k => nSum (fun v => A k v) M) c
  | 0 => by
    have : ∀ c, nSum (fun _ => 0) c = 0 := fun c => by
      induction c with
      | zero => rfl
      | succ c ih => rw [nSum, ih]
    exact (this c).symm
  | M + 1 => by
    rw [nSum, nSum_swap M, ← nSum_add]
    apply nSum_congr
    intro k hk
    rfl
set_option maxHeartbeats 2000000 in
theorem sum_up {f : Nat → Nat} {c M : Nat} (hM : ∀ k, k < c → f k ≤ M) : nSum f c = nSum (fun v => cq (upv v) f c) M := by
  unfold cq
  rw [nSum_swap]
  apply nSum_congr
  intro k hk
  have := hM k hk
  have e : (fun v => if upv v (f k) = true then 1 else 0) = (fun v => if v < f k then 1 else 0) := by
    funext v
    unfold upv
    by_cases g : v < f k
    · rw [if_pos (by simpa using g), if_pos g]
    · rw [if_neg (by simpa using g), if_neg g]
  rw [e, lt_sum]
  omega
/-- the sum of the c greatest, of the c least of n -/
def vMax (x : Nat → Nat) (n c : Nat) : Nat := nSum (fun v => min c (cq (upv v) x n)) 999
def vMin (x : Nat → Nat) (n c : Nat) : Nat := nSum (fun v => c - min c (cq (dnv v) x n)) 999
set_option maxHeartbeats 2000000 in
theorem pre_max {g x : Nat → Nat} {n c : Nat} (hc : c ≤ n) (hM : ∀ k, k < n → g k ≤ 999) (hq : ∀ p, cq p g n = cq p x n) (hp : ∀ i j, i < c → c ≤ j → j < n → g j ≤ g i) : nSum g c = vMax x n c := by
  rw [sum_up (M := 999) (fun k hk => hM k (by omega))]
  unfold vMax
  apply nSum_congr
  intro v hv
  rw [← hq]
  by_cases a : ∀ i, i < c → v < g i
  · have e1 := cq_all (p := upv v) (f := g) c (fun k hk => by unfold upv; simpa using a k hk)
    have := cq_mono (p := upv v) (f := g) hc
    omega
  · obtain ⟨i, hi⟩ := Classical.not_forall.mp a
    obtain ⟨hi1, hi2⟩ := Classical.not_imp.mp hi
    have e1 := cq_rest (p := upv v) (f := g) hc (fun j hj hj2 => by unfold upv; have := hp i j hi1 hj hj2; simp; omega)
    have := cq_le (p := upv v) (f := g) (n := c)
    omega
set_option maxHeartbeats 2000000 in
theorem pre_min {g x : Nat → Nat} {n c : Nat} (hc : c ≤ n) (hM : ∀ k, k < n → g k ≤ 999) (hq : ∀ p, cq p g n = cq p x n) (hp : ∀ i j, i < c → c ≤ j → j < n → g i ≤ g j) : nSum g c = vMin x n c := by
  rw [sum_up (M := 999) (fun k hk => hM k (by omega))]
  unfold vMin
  apply nSum_congr
  intro v hv
  rw [← hq]
  have e0 := cq_not (v := v) (f := g) c
  by_cases a : ∀ i, i < c → g i ≤ v
  · have e1 := cq_all (p := dnv v) (f := g) c (fun k hk => by unfold dnv; simpa using a k hk)
    have := cq_mono (p := dnv v) (f := g) hc
    omega
  · obtain ⟨i, hi⟩ := Classical.not_forall.mp a
    obtain ⟨hi1, hi2⟩ := Classical.not_imp.mp hi
    have e1 := cq_rest (p := dnv v) (f := g) hc (fun j hj hj2 => by unfold dnv; have := hp i j hi1 hj hj2; simp; omega)
    have := cq_le (p := dnv v) (f := g) (n := c)
    omega
set_option maxHeartbeats 2000000 in
theorem sum_eq {g x : Nat → Nat} {n : Nat} (hM : ∀ k, k < n → g k ≤ 999) (hX : ∀ k, k < n → x k ≤ 999) (hq : ∀ p, cq p g n = cq p x n) : nSum g n = nSum x n := by
  rw [sum_up hM, sum_up hX]
  apply nSum_congr
  intro v hv
  exact hq _
set_option maxHeartbeats 2000000 in
theorem cq_rev {p : Nat → Bool} {f : Nat → Nat} {n : Nat} : cq p (fun k => f (n - 1 - k)) n = cq p f n := by
  unfold cq
  exact nSum_rev (f := fun k => if p (f k) = true then 1 else 0) n
set_option maxHeartbeats 2000000 in
theorem suf_max {y x : Nat → Nat} {n c : Nat} (hc : c ≤ n) (hM : ∀ k, k < n → y k ≤ 999) (hq : ∀ p, cq p y n = cq p x n) (hs : ∀ i j, i < j → j < n → y i ≤ y j) : nSum (fun k => y (n - c + k)) c = vMax x n c := by
  rw [← pre_max (g := fun k => y (n - 1 - k)) hc (fun k hk => hM _ (by omega)) (fun p => cq_rev.trans (hq p)) (fun i j hi hj hj2 => by
    by_cases e : i = j
    · omega
    · exact hs _ _ (by omega) (by omega)), ← nSum_rev]
  apply nSum_congr
  intro k hk
  show y (n - c + (c - 1 - k)) = y (n - 1 - k)
  congr 1
  omega
/-- an insertion, from behind -/
def wPos (y : Nat → Nat) (v : Nat) : Nat → Nat
  | 0 => 0
  | k + 1 => if v < y k then wPos y v k else k + 1
set_option maxHeartbeats 2000000 in
theorem wPos_le (y : Nat → Nat) (v : Nat) : ∀ k, wPos y v k ≤ k
  | 0 => Nat.le_refl 0
  | k + 1 => by
    rw [wPos]
    split
    · exact Nat.le_succ_of_le (wPos_le y v k)
    · exact Nat.le_refl _
set_option maxHeartbeats 2000000 in
theorem wPos_gt (y : Nat → Nat) (v : Nat) : ∀ k j, wPos y v k ≤ j → j < k → v < y j
  | 0, j, _, h => absurd h (Nat.not_lt_zero j)
  | k + 1, j, h1, h2 => by
    rw [wPos] at h1
    split at h1
    · next g =>
      by_cases e : j = k
      · subst e; exact g
      · exact wPos_gt y v k j h1 (by omega)
    · omega
set_option maxHeartbeats 2000000 in
theorem wPos_lt (y : Nat → Nat) (v : Nat) : ∀ k, 0 < wPos y v k → y (wPos y v k - 1) ≤ v
  | 0, h => absurd h (Nat.not_lt_zero 0)
  | k + 1, h => by
    rw [wPos] at h ⊢
    split at h
    · next g => rw [if_pos g]; exact wPos_lt y v k h
    · next g => rw [if_neg g]; exact Nat.le_of_not_lt g
def wSort (x : Nat → Nat) : Nat → (Nat → Nat)
  | 0 => fun _ => 0
  | n + 1 => insAt (wSort x n) (wPos (wSort x n) (x n) n) (x n)
set_option maxHeartbeats 2000000 in
theorem nSum_ins {h : Nat → Nat} {y : Nat → Nat} {v p : Nat} : ∀ n, p ≤ n → nSum (fun k => h (insAt y p v k)) (n + 1) = nSum (fun k => h (y k)) n + h v := by
  intro n
  induction n with
  | zero =>
    intro hp
    obtain rfl : p = 0 := by omega
    show 0 + h (insAt y 0 v 0) = 0 + h v
    rw [insAt_eq]
  | succ n ih =>
    intro hp
    rw [nSum]
    by_cases e : p = n + 1
    · subst e
      rw [insAt_eq]
      congr 1
      apply nSum_congr
      intro k hk
      rw [insAt_lt hk]
    · rw [ih (by omega), nSum, insAt_gt (by omega), Nat.add_sub_cancel]
      omega
set_option maxHeartbeats 2000000 in
theorem wSort_cq {x : Nat → Nat} {p : Nat → Bool} : ∀ n, cq p (wSort x n) n = cq p x n
  | 0 => rfl
  | n + 1 => by
    have ih := wSort_cq (x := x) (p := p) n
    unfold cq at *
    rw [wSort, nSum_ins (h := fun a => if p a = true then 1 else 0) n (wPos_le _ _ _), ih, nSum]
set_option maxHeartbeats 2000000 in
theorem wSort_le {x : Nat → Nat} {M : Nat} : ∀ n, (∀ k, k < n → x k ≤ M) → ∀ k, k < n → wSort x n k ≤ M
  | 0, _, k, h => absurd h (Nat.not_lt_zero k)
  | n + 1, hx, k, h => by
    have ih := wSort_le n (fun k hk => hx k (by omega))
    rw [wSort]
    rcases Nat.lt_trichotomy k (wPos (wSort x n) (x n) n) with g | g | g
    · have := wPos_le (wSort x n) (x n) n
      rw [insAt_lt g]; exact ih k (by omega)
    · rw [g, insAt_eq]; exact hx n (by omega)
    · rw [insAt_gt g]; exact ih (k - 1) (by omega)
set_option maxHeartbeats 2000000 in
theorem wSort_so {x : Nat → Nat} : ∀ n i j, i < j → j < n → wSort x n i ≤ wSort x n j
  | 0, i, j, _, h => absurd h (Nat.not_lt_zero j)
  | n + 1, i, j, hij, hj => by
    have ih := wSort_so (x := x) n
    have hp := wPos_le (wSort x n) (x n) n
    have hg := wPos_gt (wSort x n) (x n) n
    have hl := wPos_lt (wSort x n) (x n) n
    rw [wSort]
    generalize wPos (wSort x n) (x n) n = p at *
    rcases Nat.lt_trichotomy i p with g | g | g <;> rcases Nat.lt_trichotomy j p with g' | g' | g'
    · rw [insAt_lt g, insAt_lt g']; exact ih i j hij (by omega)
    · subst g'
      rw [insAt_lt g, insAt_eq]
      have := hl (by omega)
      by_cases e : i = j - 1
      · rw [e]; exact this
      · have := ih i (j - 1) (by omega) (by omega); omega
    · rw [insAt_lt g, insAt_gt g']
      by_cases e : i = j - 1
      · omega
      · exact ih i (j - 1) (by omega) (by omega)
    · omega
    · omega
    · subst g
      rw [insAt_eq, insAt_gt g']
      have := hg (j - 1) (by omega) (by omega)
      omega
    · omega
    · omega
    · rw [insAt_gt g, insAt_gt g']; exact ih (i - 1) (j - 1) (by omega) (by omega)
/-- two places change -/
def swp (W : Nat → Nat) (a b : Nat) : Nat → Nat := fun j => if j = a then W b else if j = b then W a else W j
set_option maxHeartbeats 2000000 in
theorem nSum_upd {g : Nat → Nat} {k a : Nat} : ∀ n, k < n → nSum (fun j => if j = k then a else g j) n + g k = nSum g n + a := by
  intro n
  induction n with
  | zero => intro h; omega
  | succ n ih =>
    intro h
    rw [nSum, nSum]
    by_cases e : k = n
    · subst e
      rw [if_pos rfl, nSum_congr k (g := g) (fun j hj => if_neg (by omega))]
      omega
    · rw [if_neg (by omega)]
      have := ih (by omega)
      omega
set_option maxHeartbeats 2000000 in
theorem nSum_swp {h W : Nat → Nat} {a b n : Nat} (ha : a < n) (hb : b < n) : nSum (fun j => h (swp W a b j)) n = nSum (fun j => h (W j)) n := by
  by_cases e : a = b
  · subst e
    apply nSum_congr
    intro k hk
    unfold swp
    by_cases q : k = a
    · rw [if_pos q, q]
    · rw [if_neg q, if_neg q]
  · have e1 : (fun j => h (swp W a b j)) = (fun j => if j = a then h (W b) else (fun j => if j = b then h (W a) else h (W j)) j) := by
      funext j
      unfold swp
      by_cases q : j = a
      · rw [if_pos q, if_pos q]
      · rw [if_neg q, if_neg q]
        by_cases q2 : j = b
        · rw [if_pos q2]; exact (if_pos q2).symm
        · rw [if_neg q2]; exact (if_neg q2).symm
    have x1 := nSum_upd (g := fun j => if j = b then h (W a) else h (W j)) (k := a) (a := h (W b)) n ha
    have x2 := nSum_upd (g := fun j => h (W j)) (k := b) (a := h (W a)) n hb
    try dsimp only at x1 x2
    rw [if_neg e] at x1
    rw [e1]
    try dsimp only
    omega
end C45
