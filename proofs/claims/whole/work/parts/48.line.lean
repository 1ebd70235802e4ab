-- line
section C48
variable {X : Nat × (Nat → Int32)} {N : Nat} {h : zH} {Q : Option Value → Nat → zH → Prop} {S : zSh} {T : zTm} {ld dd : Nat} {p d w n kp : Int32}
def iI (z : Int) : Int32 := Int32.ofInt z
def iL (z : Int) : Int64 := Int64.ofInt z
set_option maxHeartbeats 2000000 in
theorem iI_t {z : Int} (h1 : -2147483648 ≤ z) (h2 : z < 2147483648) : (iI z).toInt = z := by
  unfold iI
  rw [Int32.toInt_ofInt, zbm32 h1 h2]
set_option maxHeartbeats 2000000 in
theorem iL_t {z : Int} (h1 : -9223372036854775808 ≤ z) (h2 : z < 9223372036854775808) : (iL z).toInt = z := by
  unfold iL
  rw [Int64.toInt_ofInt, zbm64 h1 h2]
set_option maxHeartbeats 2000000 in
theorem iI_of {x : Int32} {z : Int} (h : x.toInt = z) : x = iI z := by
  apply Int32.toInt_inj.mp
  have h1 := Int32.le_toInt x
  have h2 := Int32.toInt_lt x
  rw [iI_t (by omega) (by omega), h]
set_option maxHeartbeats 2000000 in
theorem iL_of {x : Int64} {z : Int} (h : x.toInt = z) : x = iL z := by
  apply Int64.toInt_inj.mp
  have h1 := Int64.le_toInt x
  have h2 := Int64.toInt_lt x
  rw [iL_t (by omega) (by omega), h]
set_option maxHeartbeats 2000000 in
theorem zbd {U : Int} {D : Nat} (h1 : -2000000 ≤ U) (h2 : U ≤ 2000000) (h3 : D ≤ 24) : -48000000 ≤ U * D ∧ U * D ≤ 48000000 := by
  have a1 : U * D ≤ 2000000 * D := Int.mul_le_mul_of_nonneg_right h2 (by omega)
  have a2 : -2000000 * D ≤ U * D := Int.mul_le_mul_of_nonneg_right h1 (by omega)
  omega
set_option maxHeartbeats 2000000 in
theorem iI_mul {U : Int} {D : Nat} (h1 : -2000000 ≤ U) (h2 : U ≤ 2000000) (h3 : D ≤ 24) : (iI U * nI D).toInt = U * D := by
  obtain ⟨a1, a2⟩ := zbd h1 h2 h3
  rw [Int32.toInt_mul, iI_t (by omega) (by omega), nI_toInt (by omega), zbm32 (by omega) (by omega)]
set_option maxHeartbeats 2000000 in
theorem iL_mul {U : Int} {D : Nat} (h1 : -2000000 ≤ U) (h2 : U ≤ 2000000) (h3 : D ≤ 24) : (iL U * lN D).toInt = U * D := by
  obtain ⟨a1, a2⟩ := zbd h1 h2 h3
  rw [Int64.toInt_mul, iL_t (by omega) (by omega), pk_lT (by omega), zbm64 (by omega) (by omega)]
set_option maxHeartbeats 2000000 in
theorem iI_sg {U : Int} (h1 : -2000000 ≤ U) (h2 : U ≤ 2000000) : iI U = zsg (decide (U < 0)) (nI U.natAbs) := by
  symm
  apply iI_of
  unfold zsg
  by_cases g : U < 0
  · rw [if_pos (by simpa using g), sb_negT (by omega)]; omega
  · rw [if_neg (by simpa using g), nI_toInt (by omega)]; omega
set_option maxHeartbeats 2000000 in
theorem iL_sg {U : Int} (h1 : -2000000 ≤ U) (h2 : U ≤ 2000000) : iL U = zsl (decide (U < 0)) (lN U.natAbs) := by
  symm
  apply iL_of
  unfold zsl
  by_cases g : U < 0
  · rw [if_pos (by simpa using g), Int64.toInt_neg, pk_lT (by omega), zbm64 (by omega) (by omega)]; omega
  · rw [if_neg (by simpa using g), pk_lT (by omega)]; omega
/-- worth of the first k of an order -/
def wF (S : zSh) (f : Nat → Nat) (k : Nat) : Nat := nSum (fun j => sW S (f j)) k
def lnD (b : Nat) : Nat := if b = 0 then 1 else b
/-- BRINGS in the mean less COST, times how many are in the lot -/
def lnU (S : zSh) (f : Nat → Nat) (al jn a b c : Nat) : Int := ((wF S f a * lnD b + c * nSum (fun k => sW S (f (a + k))) b : Nat) : Int) - ((lnD b * cst S al jn b : Nat) : Int)
abbrev zSt : Type := Option (Nat × Nat × Int × Nat)
def lnF (st : zSt) (a b : Nat) (u : Int) (dn : Nat) : zSt := match st with
  | none => some (a, b, u, dn)
  | some (A, B, U, D) => if u * D ≤ U * dn then some (A, B, U, D) else some (a, b, u, dn)
def lnI (S : zSh) (f : Nat → Nat) (al jn a c : Nat) : Nat → Nat → zSt → zSt
  | 0, _, st => st
  | m + 1, b, st => lnI S f al jn a c m (b + 1) (lnF st a b (lnU S f al jn a b c) (lnD b))
def lnW (al a c : Nat) : Nat := if c = 0 then 0 else al - a
def lnO (S : zSh) (f : Nat → Nat) (al jn n : Nat) : Nat → Nat → zSt → zSt
  | 0, _, st => st
  | m + 1, a, st => lnO S f al jn n m (a + 1) (lnI S f al jn a (n - a) (lnW al a (n - a) + 1 - (n - a)) (n - a) st)
def stK (st : zSt) : Prop := ∀ A B U D, st = some (A, B, U, D) → A ≤ 24 ∧ B ≤ 24 ∧ -2000000 ≤ U ∧ U ≤ 2000000 ∧ 1 ≤ D ∧ D ≤ 24
set_option maxHeartbeats 2000000 in
theorem wF_le {f : Nat → Nat} {al k : Nat} (ok : sK S) (hf : ∀ j, j < al → f j < S.1.1) (hk : k ≤ al) (ha : al ≤ 24) : wF S f k ≤ 23976 := by
  have := nSum_le (f := fun j => sW S (f j)) (c := 999) k (fun j hj => (ok.wo (hf _ (by omega))).2)
  unfold wF
  omega
set_option maxHeartbeats 2000000 in
theorem wF_split {f : Nat → Nat} {a b : Nat} : wF S f (a + b) = wF S f a + nSum (fun k => sW S (f (a + k))) b := nSum_split b
set_option maxHeartbeats 2000000 in
theorem lnU_bd {f : Nat → Nat} {al jn a b c : Nat} (ok : sK S) (hf : ∀ j, j < al → f j < S.1.1) (ha : al ≤ 24) (hab : a + b ≤ al) (hc : c ≤ 24) (hj : jn ≤ 6) : wF S f a * lnD b + c * nSum (fun k => sW S (f (a + k))) b ≤ 1200000 ∧ lnD b * cst S al jn b ≤ 400000 ∧ -2000000 ≤ lnU S f al jn a b c ∧ lnU S f al jn a b c ≤ 2000000 := by
  have x1 := wF_le ok hf (k := a) (by omega) ha
  have x2 := wF_le ok hf (k := a + b) (by omega) ha
  rw [wF_split] at x2
  have d1 : lnD b ≤ 24 := by unfold lnD; split <;> omega
  have x3 : wF S f a * lnD b ≤ 23976 * 24 := Nat.mul_le_mul x1 d1
  have x4 : c * nSum (fun k => sW S (f (a + k))) b ≤ 24 * 23976 := Nat.mul_le_mul hc (by omega)
  have x5 := cst_le (a := al) (b := jn) (c := b) ok ha hj
  have x6 : lnD b * cst S al jn b ≤ 24 * 16632 := Nat.mul_le_mul d1 x5
  unfold lnU
  omega
set_option maxHeartbeats 2000000 in
theorem lnF_k {st : zSt} {a b : Nat} {u : Int} {dn : Nat} (h : stK st) (ha : a ≤ 24) (hb : b ≤ 24) (h1 : -2000000 ≤ u) (h2 : u ≤ 2000000) (h3 : 1 ≤ dn) (h4 : dn ≤ 24) : stK (lnF st a b u dn) := by
  intro A B U D e
  unfold lnF at e
  split at e
  · cases e; exact ⟨ha, hb, h1, h2, h3, h4⟩
  · next A' B' U' D' =>
    split at e
    · cases e; exact h _ _ _ _ rfl
    · cases e; exact ⟨ha, hb, h1, h2, h3, h4⟩
set_option maxHeartbeats 2000000 in
theorem lnF_s {st : zSt} {a b : Nat} {u : Int} {dn : Nat} : (lnF st a b u dn).isSome = true := by
  unfold lnF
  split
  · rfl
  · split <;> rfl
set_option maxHeartbeats 2000000 in
theorem lnI_s {f : Nat → Nat} {al jn a c : Nat} : ∀ m b st, (st.isSome = true ∨ 0 < m) → (lnI S f al jn a c m b st).isSome = true
  | 0, b, st, h => by
    rcases h with h | h
    · exact h
    · omega
  | m + 1, b, st, h => lnI_s m (b + 1) _ (Or.inl lnF_s)
set_option maxHeartbeats 2000000 in
theorem lnO_s {f : Nat → Nat} {al jn n : Nat} (hn : n ≤ al) : ∀ m a st, (st.isSome = true ∨ (0 < m ∧ a = 0)) → (lnO S f al jn n m a st).isSome = true
  | 0, a, st, h => by
    rcases h with h | h
    · exact h
    · omega
  | m + 1, a, st, h => by
    rw [lnO]
    refine lnO_s hn m (a + 1) _ (Or.inl (lnI_s _ _ _ ?_))
    rcases h with h | ⟨-, rfl⟩
    · exact Or.inl h
    · right
      unfold lnW
      split <;> omega
/-- the class's border with what is best so far -/
def pBo (h : zH) (st : zSt) (wb : Nat → Int32) : Prop := (match st with
  | none => ∃ a b c e, h 50 = .inr (0, [.int a, .int b, .int c, .int e, .int 0, .ref 51])
  | some (A, B, U, D) => h 50 = .inr (0, [.int (nI A), .int (nI B), .int (iI U), .int (nI D), .int 1, .ref 51])) ∧ h 51 = .inl (.int, 25, wb)
set_option maxHeartbeats 2000000 in
theorem pBo.qq {st : zSt} {wb : Nat → Int32} (hb : pBo h st wb) : qBo h := by
  obtain ⟨h1, h2⟩ := hb
  rcases st with _ | ⟨A, B, U, D⟩
  · obtain ⟨a, b, c, e, h1⟩ := h1
    exact ⟨a, b, c, e, 0, wb, h1, h2⟩
  · exact ⟨_, _, _, _, _, wb, h1, h2⟩
set_option maxHeartbeats 2000000 in
theorem zofe {U u : Int} {D dn : Nat} (h1 : -2000000 ≤ U) (h2 : U ≤ 2000000) (h3 : D ≤ 24) (h4 : -2000000 ≤ u) (h5 : u ≤ 2000000) (h6 : dn ≤ 24) : (iI U * nI dn < iI u * nI D) = ¬ (u * D ≤ U * dn) := by
  rw [Int32.lt_iff_toInt_lt, iI_mul h1 h2 h6, iI_mul h4 h5 h3]
  exact propext Int.not_le.symm
set_option maxHeartbeats 2000000 in
theorem c83 {st : zSt} {wb : Nat → Int32} {a b dn : Nat} {u : Int} (hb : pBo h st wb) (hk : stK st) (h4 : -2000000 ≤ u) (h5 : u ≤ 2000000) (h6 : dn ≤ 24) (K : ∀ h', pBo h' (lnF st a b u dn) wb → zfr (fun a => a = 50) h h' → Q none N h') : zE X 83 0 [some (.ref 50), some (.int (nI a)), some (.int (nI b)), some (.int (iI u)), some (.int (nI dn))] [] (N, 0, 0) h Q := by
  obtain ⟨h1, h2⟩ := hb
  rcases st with _ | ⟨A, B, U, D⟩
  · obtain ⟨x, y, z, v, h1⟩ := h1
    simp (disch := omega) only [e83_0, e83_1, e83_4, e83_7, e83_8, e83_9, e83_12, e83_13, e83_14, e83_17, e83_19, e83_20, e83_23, e83_24, e83_25, e83_26z, e83_26o, e83_29, e83_30, e83_31, e83_34, e83_35, e83_36, e83_39, e83_40, e83_41, e83_44, e83_45, e83_47, e83_50, h1, zg0_0, zp0_0, zg0_1, zp0_1, zg0_2, zp0_2, zg0_3, zp0_3, zg0_4, zp0_4, zg0_5, zp0_5, zrc_eq, zup_s, zup_n, zup_up, zal_i, zal_b, zal_z, zas_i, zas_b, zas_z, zan_eq, Option.toList_some, Option.toList_none, List.cons_append, List.nil_append, if_true, if_false, ite_true, ite_false, true_or, or_true]
    exact K _ ⟨zup_s, (zup_n (by omega)).trans h2⟩ (zfr.up rfl zfr.rf)
  · dsimp only at h1
    obtain ⟨k1, k2, k3, k4, k5, k6⟩ := hk _ _ _ _ rfl
    unfold lnF at K
    dsimp only at K
    have e := zofe k3 k4 k6 h4 h5 h6
    by_cases g : u * D ≤ U * dn
    · rw [if_pos g] at K
      have g' : (iI U * nI dn < iI u * nI D) = False := by rw [e]; exact eq_false (fun z => z g)
      simp (disch := omega) only [e83_0, e83_1, e83_4, e83_7, e83_8, e83_9, e83_12, e83_13, e83_14, e83_17, e83_19, e83_20, e83_23, e83_24, e83_25, e83_26z, e83_26o, e83_29, e83_30, e83_31, e83_34, e83_35, e83_36, e83_39, e83_40, e83_41, e83_44, e83_45, e83_47, e83_50, h1, zg0_0, zp0_0, zg0_1, zp0_1, zg0_2, zp0_2, zg0_3, zp0_3, zg0_4, zp0_4, zg0_5, zp0_5, zrc_eq, zup_s, zup_n, zup_up, zal_i, zal_b, zal_z, zas_i, zas_b, zas_z, zan_eq, Option.toList_some, Option.toList_none, List.cons_append, List.nil_append, if_true, if_false, ite_true, ite_false, true_or, or_true, z10, g']
      exact K h ⟨h1, h2⟩ zfr.rf
    · rw [if_neg g] at K
      have g' : (iI U * nI dn < iI u * nI D) = True := by rw [e]; exact eq_true g
      simp (disch := omega) only [e83_0, e83_1, e83_4, e83_7, e83_8, e83_9, e83_12, e83_13, e83_14, e83_17, e83_19, e83_20, e83_23, e83_24, e83_25, e83_26z, e83_26o, e83_29, e83_30, e83_31, e83_34, e83_35, e83_36, e83_39, e83_40, e83_41, e83_44, e83_45, e83_47, e83_50, h1, zg0_0, zp0_0, zg0_1, zp0_1, zg0_2, zp0_2, zg0_3, zp0_3, zg0_4, zp0_4, zg0_5, zp0_5, zrc_eq, zup_s, zup_n, zup_up, zal_i, zal_b, zal_z, zas_i, zas_b, zas_z, zan_eq, Option.toList_some, Option.toList_none, List.cons_append, List.nil_append, if_true, if_false, ite_true, ite_false, true_or, or_true, z10, g']
      exact K _ ⟨zup_s, (zup_n (by omega)).trans h2⟩ (zfr.up rfl zfr.rf)
set_option maxHeartbeats 2000000 in
theorem pBo.at {st : zSt} {wb : Nat → Int32} (hb : pBo h st wb) : ∃ a b c e i, h 50 = .inr (0, [.int a, .int b, .int c, .int e, .int i, .ref 51]) := by
  obtain ⟨h1, h2⟩ := hb
  rcases st with _ | ⟨A, B, U, D⟩
  · obtain ⟨a, b, c, e, h1⟩ := h1
    exact ⟨a, b, c, e, 0, h1⟩
  · exact ⟨_, _, _, _, _, h1⟩
set_option maxHeartbeats 2000000 in
theorem c82 {st : zSt} {wb : Nat → Int32} {k : Nat} (hb : pBo h st wb) (hk : k ≤ 24) : zE X 82 0 [some (.ref 50), some (.int (nI k))] [] (N, 0, 0) h Q = Q (some (.int (wb k))) N h := by
  obtain ⟨a, b, c, e, i, h1⟩ := hb.at
  have h2 := hb.2
  have e1 : (nI k < 0) = False := eq_false (nI_pos (by omega))
  simp (disch := omega) only [e82_0, e82_1, e82_4, e82_5, e82_7, e82_10, e82_11, e82_14, e82_15, e82_16, e82_19, e82_20, h1, h2, zg0_0, zp0_0, zg0_1, zp0_1, zg0_2, zp0_2, zg0_3, zp0_3, zg0_4, zp0_4, zg0_5, zp0_5, zrc_eq, zup_s, zup_n, zup_up, zal_i, zal_b, zal_z, zas_i, zas_b, zas_z, zan_eq, Option.toList_some, Option.toList_none, List.cons_append, List.nil_append, if_true, if_false, ite_true, ite_false, true_or, or_true, zc24, e1, znI_lt, if_neg]
set_option maxHeartbeats 2000000 in
theorem c81_loop {al : Nat} {f : Nat → Nat} {a b c e i : Int32} (ok : sK S) (hld : ld + 7 < 37) (ha : al ≤ 24) (hf : ∀ j, j < al → f j < S.1.1) : ∀ (m r : Nat) (wb : Nat → Int32) (h : zH), m + r = al → pSh h ld S → pRn h 37 al f → h 50 = .inr (0, [.int a, .int b, .int c, .int e, .int i, .ref 51]) → h 51 = .inl (.int, 25, wb) → (∀ j, j ≤ r → wb j = nI (wF S f j)) → (∀ h' wb', h' 51 = .inl (.int, 25, wb') → (∀ j, j ≤ al → wb' j = nI (wF S f j)) → zfr (fun a => a = 51) h h' → Q none N h') → zE X 81 10 [some (.ref 50), some (.ref ld), some (.ref 37), some (.int (nI r))] [] (N, 0, 0) h Q := by
  intro m
  induction m with
  | zero =>
    intro r wb h hm hs hr h1 h2 a1 K
    obtain rfl : r = al := by omega
    obtain ⟨o1, -⟩ := hr.obj
    rw [e81_10]
    simp (disch := omega) only [e81_0, e81_1, e81_4, e81_5, e81_8, e81_9, e81_11, e81_12, e81_15, e81_18, e81_19, e81_21, e81_24, e81_25, e81_28, e81_29, e81_30, e81_31, e81_32, e81_35, e81_36, e81_37, e81_38, e81_39, e81_40, e81_43, e81_46, e81_47, e81_48, e81_51, e81_54, o1, zg2_0, zp2_0, zg2_1, zp2_1, zg2_2, zp2_2, zg2_3, zp2_3, zrc_eq, zup_s, zup_n, zup_up, zal_i, zal_b, zal_z, zas_i, zas_b, zas_z, zan_eq, Option.toList_some, Option.toList_none, List.cons_append, List.nil_append, if_true, if_false, ite_true, ite_false, true_or, or_true, znI_le, if_pos]
    exact K h wb h2 a1 zfr.rf
  | succ m ih =>
    intro r wb h hm hs hr h1 h2 a1 K
    have hfi := hf r (by omega)
    obtain ⟨o1, -⟩ := hr.obj
    obtain ⟨v2, v3, v4, v5, v6, v7, v8, v9, v10, v11, v12, v13, v14, v15, q1, -⟩ := hs.wo
    rw [e81_10]
    simp (disch := omega) only [e81_0, e81_1, e81_4, e81_5, e81_8, e81_9, e81_11, e81_12, e81_15, e81_18, e81_19, e81_21, e81_24, e81_25, e81_28, e81_29, e81_30, e81_31, e81_32, e81_35, e81_36, e81_37, e81_38, e81_39, e81_40, e81_43, e81_46, e81_47, e81_48, e81_51, e81_54, o1, q1, h1, h2, zg0_0, zp0_0, zg0_1, zp0_1, zg0_2, zp0_2, zg0_3, zp0_3, zg0_4, zp0_4, zg0_5, zp0_5, zg2_0, zp2_0, zg2_1, zp2_1, zg2_2, zp2_2, zg2_3, zp2_3, zrc_eq, zup_s, zup_n, zup_up, zal_i, zal_b, zal_z, zas_i, zas_b, zas_z, zan_eq, Option.toList_some, Option.toList_none, List.cons_append, List.nil_append, if_true, if_false, ite_true, ite_false, true_or, or_true, zc24, znI_le, if_neg, c46 hr, c72 hs ok hfi, a1, nI_1, nI_add]
    have F1 : zfr (fun a => a = 51) h (va_up h 51 (.inl (.int, 25, upd wb (r + 1) (nI (wF S f r + sW S (f r)))))) := zfr.up rfl zfr.rf
    refine ih (r + 1) _ _ (by omega) (hs.kept F1 (by omega)) (hr.kept F1 (by omega)) ((zup_n (by omega)).trans h1) zup_s (fun j hj => ?_) (fun h' wb' c1 c2 c3 => K h' wb' c1 c2 (F1.tr c3))
    by_cases q : j = r + 1
    · subst q; rw [upd_s]; rfl
    · rw [upd_n q]; exact a1 j (by omega)
set_option maxHeartbeats 2000000 in
theorem c81 {al : Nat} {f : Nat → Nat} {a b c e i : Int32} {wb : Nat → Int32} (ok : sK S) (hld : ld + 7 < 37) (hf : ∀ j, j < al → f j < S.1.1) (hs : pSh h ld S) (hr : pRn h 37 al f) (h1 : h 50 = .inr (0, [.int a, .int b, .int c, .int e, .int i, .ref 51])) (h2 : h 51 = .inl (.int, 25, wb)) (K : ∀ h' wb', h' 51 = .inl (.int, 25, wb') → (∀ j, j ≤ al → wb' j = nI (wF S f j)) → zfr (fun a => a = 51) h h' → Q none N h') : zE X 81 0 [some (.ref 50), some (.ref ld), some (.ref 37), none] [] (N, 0, 0) h Q := by
  obtain ⟨o1, o2⟩ := hr.obj
  simp (disch := omega) only [e81_0, e81_1, e81_4, e81_5, e81_8, e81_9, e81_11, e81_12, e81_15, e81_18, e81_19, e81_21, e81_24, e81_25, e81_28, e81_29, e81_30, e81_31, e81_32, e81_35, e81_36, e81_37, e81_38, e81_39, e81_40, e81_43, e81_46, e81_47, e81_48, e81_51, e81_54, h1, zg0_0, zp0_0, zg0_1, zp0_1, zg0_2, zp0_2, zg0_3, zp0_3, zg0_4, zp0_4, zg0_5, zp0_5, zrc_eq, zup_s, zup_n, zup_up, zal_i, zal_b, zal_z, zas_i, zas_b, zas_z, zan_eq, Option.toList_some, Option.toList_none, List.cons_append, List.nil_append, if_true, if_false, ite_true, ite_false, true_or, or_true]
  refine c19 (n := 25) (by decide) h2 (fun h' g1 g2 => ?_)
  simp (disch := omega) only [e81_0, e81_1, e81_4, e81_5, e81_8, e81_9, e81_11, e81_12, e81_15, e81_18, e81_19, e81_21, e81_24, e81_25, e81_28, e81_29, e81_30, e81_31, e81_32, e81_35, e81_36, e81_37, e81_38, e81_39, e81_40, e81_43, e81_46, e81_47, e81_48, e81_51, e81_54, Option.toList_none, List.nil_append, zc0]
  refine c81_loop ok hld o2 hf al 0 _ h' (by omega) (hs.kept g2 (by omega)) (hr.kept g2 (by omega)) ((g2 50 (by omega)).trans h1) g1 (fun j hj => ?_) (fun h2 wb' c1 c2 c3 => K h2 wb' c1 c2 (g2.tr c3))
  obtain rfl : j = 0 := by omega
  rfl
set_option maxHeartbeats 2000000 in
theorem zlnD {b : Nat} (hb : b ≤ 24) : (if (1 : Int32) < nI b then nI b else 1) = nI (lnD b) := by
  unfold lnD
  by_cases g : b = 0
  · rw [if_pos g, g]; decide
  · rw [if_neg g]
    by_cases g2 : b = 1
    · rw [g2]; decide
    · rw [zc1, if_pos ((nI_ltI (by omega) (by omega)).mpr (by omega))]
set_option maxHeartbeats 2000000 in
theorem c80_54 {al jn a c n : Nat} {f : Nat → Nat} {wb : Nat → Int32} (ok : sK S) (hld : ld + 7 < 37) (ha : al ≤ 24) (hj : jn ≤ 6) (hf : ∀ j, j < al → f j < S.1.1) (hwb : ∀ j, j ≤ al → wb j = nI (wF S f j)) (hac : a + lnW al a c ≤ al) (hc : c ≤ 24) : ∀ (m b : Nat) (st : zSt) (h : zH) (l10 l11 l12 : Option Value), m + b = lnW al a c + 1 → pSh h ld S → pBo h st wb → stK st → (∀ h' l9 l10 l11 l12, pBo h' (lnI S f al jn a c m b st) wb → stK (lnI S f al jn a c m b st) → zfr (fun a => a = 50) h h' → zE X 80 131 [some (.ref 50), some (.ref ld), some (.ref 37), some (.int (nI jn)), some (.int (nI n)), some (.int (nI al)), some (.int (nI a)), some (.int (nI c)), some (.int (nI (lnW al a c))), l9, l10, l11, l12] [] (N, 0, 0) h' Q) → zE X 80 54 [some (.ref 50), some (.ref ld), some (.ref 37), some (.int (nI jn)), some (.int (nI n)), some (.int (nI al)), some (.int (nI a)), some (.int (nI c)), some (.int (nI (lnW al a c))), some (.int (nI b)), l10, l11, l12] [] (N, 0, 0) h Q := by
  intro m
  induction m with
  | zero =>
    intro b st h l10 l11 l12 hm hs hb hk K
    rw [e80_54]
    simp (disch := omega) only [e80_0, e80_1, e80_2, e80_3, e80_6, e80_7, e80_8z, e80_8o, e80_11, e80_12, e80_15, e80_17, e80_18, e80_22, e80_24, e80_27, e80_29, e80_31, e80_32, e80_34, e80_36, e80_39, e80_40, e80_43, e80_45, e80_47, e80_48, e80_50, e80_52, e80_56, e80_58, e80_61, e80_62, e80_64, e80_67, e80_69, e80_70, e80_72, e80_75, e80_77, e80_79, e80_81, e80_82, e80_84, e80_85, e80_87, e80_89, e80_90, e80_93, e80_95, e80_96, e80_97, e80_98, e80_100, e80_101, e80_103, e80_105, e80_107, e80_109, e80_110, e80_112, e80_114, e80_115, e80_118, e80_119, e80_120, e80_122, e80_125, e80_128, e80_134, e80_137, znI_lt, if_pos]
    exact K h _ _ _ _ hb hk zfr.rf
  | succ m ih =>
    intro b st h l10 l11 l12 hm hs hb hk K
    obtain ⟨x, y, z, v, i, h1⟩ := hb.at
    obtain ⟨v2, v3, v4, v5, v6, v7, v8, v9, v10, v11, v12, v13, v14, v15, q1, -⟩ := hs.wo
    have hbl : a + b ≤ al := by omega
    obtain ⟨u1, u2, u3, u4⟩ := lnU_bd (S := S) (f := f) (al := al) (jn := jn) (a := a) (b := b) (c := c) ok hf ha hbl hc hj
    have d1 : 1 ≤ lnD b ∧ lnD b ≤ 24 := by unfold lnD; split <;> omega
    have w1 := hwb a (by omega)
    have w2 := hwb (a + b) (by omega)
    have es : nI (wF S f (a + b)) - nI (wF S f a) = nI (nSum (fun k => sW S (f (a + k))) b) := by
      rw [pk_sub (by rw [wF_split]; omega), wF_split, Nat.add_sub_cancel_left]
    have eu : nI (wF S f a * lnD b + c * nSum (fun k => sW S (f (a + k))) b) - nI (lnD b * cst S al jn b) = iI (lnU S f al jn a b c) := by
      apply iI_of
      rw [pk_sub_toInt (by omega) (by omega)]
      rfl
    have E := fun Q' => c78 (X := X) (N := N) (Q := Q') (a := al) (b := jn) (c := b) hs (by omega)
    rw [e80_54]
    simp (disch := omega) only [e80_0, e80_1, e80_2, e80_3, e80_6, e80_7, e80_8z, e80_8o, e80_11, e80_12, e80_15, e80_17, e80_18, e80_22, e80_24, e80_27, e80_29, e80_31, e80_32, e80_34, e80_36, e80_39, e80_40, e80_43, e80_45, e80_47, e80_48, e80_50, e80_52, e80_56, e80_58, e80_61, e80_62, e80_64, e80_67, e80_69, e80_70, e80_72, e80_75, e80_77, e80_79, e80_81, e80_82, e80_84, e80_85, e80_87, e80_89, e80_90, e80_93, e80_95, e80_96, e80_97, e80_98, e80_100, e80_101, e80_103, e80_105, e80_107, e80_109, e80_110, e80_112, e80_114, e80_115, e80_118, e80_119, e80_120, e80_122, e80_125, e80_128, e80_134, e80_137, h1, q1, zrc_eq, zup_s, zup_n, zup_up, zal_i, zal_b, zal_z, zas_i, zas_b, zas_z, zan_eq, Option.toList_some, Option.toList_none, List.cons_append, List.nil_append, if_true, if_false, ite_true, ite_false, true_or, or_true, znI_lt, if_neg, c74, zlnD, c82 hb, w1, w2, es, pk_mul, nI_add, E, eu]
    refine c83 hb hk u3 u4 d1.2 (fun h' c1 c2 => ?_)
    simp (disch := omega) only [e80_0, e80_1, e80_2, e80_3, e80_6, e80_7, e80_8z, e80_8o, e80_11, e80_12, e80_15, e80_17, e80_18, e80_22, e80_24, e80_27, e80_29, e80_31, e80_32, e80_34, e80_36, e80_39, e80_40, e80_43, e80_45, e80_47, e80_48, e80_50, e80_52, e80_56, e80_58, e80_61, e80_62, e80_64, e80_67, e80_69, e80_70, e80_72, e80_75, e80_77, e80_79, e80_81, e80_82, e80_84, e80_85, e80_87, e80_89, e80_90, e80_93, e80_95, e80_96, e80_97, e80_98, e80_100, e80_101, e80_103, e80_105, e80_107, e80_109, e80_110, e80_112, e80_114, e80_115, e80_118, e80_119, e80_120, e80_122, e80_125, e80_128, e80_134, e80_137, Option.toList_none, List.nil_append, nI_1]
    exact ih (b + 1) _ h' _ _ _ (by omega) (hs.kept c2 (by omega)) c1 (lnF_k hk (by omega) (by omega) u3 u4 d1.1 d1.2) (fun h2 l9 l10 l11 l12 e1 e2 e3 => K h2 l9 l10 l11 l12 e1 e2 (c2.tr e3))
set_option maxHeartbeats 2000000 in
theorem c80_20 {al jn n : Nat} {f : Nat → Nat} {wb : Nat → Int32} (ok : sK S) (hld : ld + 7 < 37) (ha : al ≤ 24) (hn : n ≤ al) (hj : jn ≤ 6) (hf : ∀ j, j < al → f j < S.1.1) (hwb : ∀ j, j ≤ al → wb j = nI (wF S f j)) : ∀ (m a : Nat) (st : zSt) (h : zH) (l7 l8 l9 l10 l11 l12 : Option Value), m + a = n + 1 → pSh h ld S → pBo h st wb → stK st → (∀ h', pBo h' (lnO S f al jn n m a st) wb → stK (lnO S f al jn n m a st) → zfr (fun a => a = 50) h h' → Q none N h') → zE X 80 20 [some (.ref 50), some (.ref ld), some (.ref 37), some (.int (nI jn)), some (.int (nI n)), some (.int (nI al)), some (.int (nI a)), l7, l8, l9, l10, l11, l12] [] (N, 0, 0) h Q := by
  intro m
  induction m with
  | zero =>
    intro a st h l7 l8 l9 l10 l11 l12 hm hs hb hk K
    rw [e80_20]
    simp (disch := omega) only [e80_0, e80_1, e80_2, e80_3, e80_6, e80_7, e80_8z, e80_8o, e80_11, e80_12, e80_15, e80_17, e80_18, e80_22, e80_24, e80_27, e80_29, e80_31, e80_32, e80_34, e80_36, e80_39, e80_40, e80_43, e80_45, e80_47, e80_48, e80_50, e80_52, e80_56, e80_58, e80_61, e80_62, e80_64, e80_67, e80_69, e80_70, e80_72, e80_75, e80_77, e80_79, e80_81, e80_82, e80_84, e80_85, e80_87, e80_89, e80_90, e80_93, e80_95, e80_96, e80_97, e80_98, e80_100, e80_101, e80_103, e80_105, e80_107, e80_109, e80_110, e80_112, e80_114, e80_115, e80_118, e80_119, e80_120, e80_122, e80_125, e80_128, e80_131, e80_134, e80_137, znI_lt, if_pos]
    exact K h hb hk zfr.rf
  | succ m ih =>
    intro a st h l7 l8 l9 l10 l11 l12 hm hs hb hk K
    have hwd : a + lnW al a (n - a) ≤ al := by unfold lnW; split <;> omega
    have hwc : n - a ≤ lnW al a (n - a) + 1 := by unfold lnW; split <;> omega
    have step : zE X 80 54 [some (.ref 50), some (.ref ld), some (.ref 37), some (.int (nI jn)), some (.int (nI n)), some (.int (nI al)), some (.int (nI a)), some (.int (nI (n - a))), some (.int (nI (lnW al a (n - a)))), some (.int (nI (n - a))), l10, l11, l12] [] (N, 0, 0) h Q := by
      refine c80_54 ok hld ha hj hf hwb hwd (by omega) (lnW al a (n - a) + 1 - (n - a)) (n - a) st h _ _ _ (by omega) hs hb hk (fun h' l9 l10 l11 l12 e1 e2 e3 => ?_)
      simp (disch := omega) only [e80_0, e80_1, e80_2, e80_3, e80_6, e80_7, e80_8z, e80_8o, e80_11, e80_12, e80_15, e80_17, e80_18, e80_22, e80_24, e80_27, e80_29, e80_31, e80_32, e80_34, e80_36, e80_39, e80_40, e80_43, e80_45, e80_47, e80_48, e80_50, e80_52, e80_56, e80_58, e80_61, e80_62, e80_64, e80_67, e80_69, e80_70, e80_72, e80_75, e80_77, e80_79, e80_81, e80_82, e80_84, e80_85, e80_87, e80_89, e80_90, e80_93, e80_95, e80_96, e80_97, e80_98, e80_100, e80_101, e80_103, e80_105, e80_107, e80_109, e80_110, e80_112, e80_114, e80_115, e80_118, e80_119, e80_120, e80_122, e80_125, e80_128, e80_131, e80_134, e80_137, nI_1]
      exact ih (a + 1) _ h' _ _ _ _ _ _ (by omega) (hs.kept e3 (by omega)) e1 e2 (fun h2 x1 x2 x3 => K h2 x1 x2 (e3.tr x3))
    rw [e80_20]
    by_cases g : n - a = 0
    · have ew : lnW al a (n - a) = 0 := if_pos g
      rw [ew, g] at step
      have e0 : nI n - nI a = nI 0 := by rw [pk_sub (by omega), g]
      simp (disch := omega) only [e80_0, e80_1, e80_2, e80_3, e80_6, e80_7, e80_8z, e80_8o, e80_11, e80_12, e80_15, e80_17, e80_18, e80_22, e80_24, e80_27, e80_29, e80_31, e80_32, e80_34, e80_36, e80_39, e80_40, e80_43, e80_45, e80_47, e80_48, e80_50, e80_52, e80_56, e80_58, e80_61, e80_62, e80_64, e80_67, e80_69, e80_70, e80_72, e80_75, e80_77, e80_79, e80_81, e80_82, e80_84, e80_85, e80_87, e80_89, e80_90, e80_93, e80_95, e80_96, e80_97, e80_98, e80_100, e80_101, e80_103, e80_105, e80_107, e80_109, e80_110, e80_112, e80_114, e80_115, e80_118, e80_119, e80_120, e80_122, e80_125, e80_128, e80_134, e80_137, znI_lt, if_neg, e0, nI_0, ↓reduceIte]
      rw [nI_0] at step
      exact step
    · have ew : lnW al a (n - a) = al - a := if_neg g
      rw [ew] at step
      have e0 : (nI (n - a) = 0) = False := eq_false (nI_ne0 (by omega) (by omega))
      simp (disch := omega) only [e80_0, e80_1, e80_2, e80_3, e80_6, e80_7, e80_8z, e80_8o, e80_11, e80_12, e80_15, e80_17, e80_18, e80_22, e80_24, e80_27, e80_29, e80_31, e80_32, e80_34, e80_36, e80_39, e80_40, e80_43, e80_45, e80_47, e80_48, e80_50, e80_52, e80_56, e80_58, e80_61, e80_62, e80_64, e80_67, e80_69, e80_70, e80_72, e80_75, e80_77, e80_79, e80_81, e80_82, e80_84, e80_85, e80_87, e80_89, e80_90, e80_93, e80_95, e80_96, e80_97, e80_98, e80_100, e80_101, e80_103, e80_105, e80_107, e80_109, e80_110, e80_112, e80_114, e80_115, e80_118, e80_119, e80_120, e80_122, e80_125, e80_128, e80_134, e80_137, znI_lt, if_neg, pk_sub, e0, ↓reduceIte]
      exact step
set_option maxHeartbeats 2000000 in
theorem c80 {al jn n : Nat} {f : Nat → Nat} (ok : sK S) (hld : ld + 7 < 37) (hn : n ≤ al) (hj : jn ≤ 6) (hf : ∀ j, j < al → f j < S.1.1) (hs : pSh h ld S) (hr : pRn h 37 al f) (hq : qBo h) (K : ∀ h' wb, pBo h' (lnO S f al jn n (n + 1) 0 none) wb → stK (lnO S f al jn n (n + 1) 0 none) → zfr (fun a => 50 ≤ a ∧ a ≤ 51) h h' → Q none N h') : zE X 80 0 [some (.ref 50), some (.ref ld), some (.ref 37), some (.int (nI jn)), some (.int (nI n)), none, none, none, none, none, none, none, none] [] (N, 0, 0) h Q := by
  obtain ⟨a, b, c, e, i, wb, h1, h2⟩ := hq
  obtain ⟨o1, o2⟩ := hr.obj
  simp (disch := omega) only [e80_0, e80_1, e80_2, e80_3, e80_6, e80_7, e80_8z, e80_8o, e80_11, e80_12, e80_15, e80_17, e80_18, e80_22, e80_24, e80_27, e80_29, e80_31, e80_32, e80_34, e80_36, e80_39, e80_40, e80_43, e80_45, e80_47, e80_48, e80_50, e80_52, e80_56, e80_58, e80_61, e80_62, e80_64, e80_67, e80_69, e80_70, e80_72, e80_75, e80_77, e80_79, e80_81, e80_82, e80_84, e80_85, e80_87, e80_89, e80_90, e80_93, e80_95, e80_96, e80_97, e80_98, e80_100, e80_101, e80_103, e80_105, e80_107, e80_109, e80_110, e80_112, e80_114, e80_115, e80_118, e80_119, e80_120, e80_122, e80_125, e80_128, e80_131, e80_134, e80_137, h1, zrc_eq, zup_s, zup_n, zup_up, zal_i, zal_b, zal_z, zas_i, zas_b, zas_z, zan_eq, Option.toList_some, Option.toList_none, List.cons_append, List.nil_append, if_true, if_false, ite_true, ite_false, true_or, or_true]
  refine c81 ok hld hf hs hr h1 h2 (fun h' wb' c1 c2 c3 => ?_)
  have e50 := (c3 50 (by omega)).trans h1
  have e37 := (c3 37 (by omega)).trans o1
  simp (disch := omega) only [e80_0, e80_1, e80_2, e80_3, e80_6, e80_7, e80_8z, e80_8o, e80_11, e80_12, e80_15, e80_17, e80_18, e80_22, e80_24, e80_27, e80_29, e80_31, e80_32, e80_34, e80_36, e80_39, e80_40, e80_43, e80_45, e80_47, e80_48, e80_50, e80_52, e80_56, e80_58, e80_61, e80_62, e80_64, e80_67, e80_69, e80_70, e80_72, e80_75, e80_77, e80_79, e80_81, e80_82, e80_84, e80_85, e80_87, e80_89, e80_90, e80_93, e80_95, e80_96, e80_97, e80_98, e80_100, e80_101, e80_103, e80_105, e80_107, e80_109, e80_110, e80_112, e80_114, e80_115, e80_118, e80_119, e80_120, e80_122, e80_125, e80_128, e80_131, e80_134, e80_137, Option.toList_none, List.nil_append, e50, e37, zg0_0, zp0_0, zg0_1, zp0_1, zg0_2, zp0_2, zg0_3, zp0_3, zg0_4, zp0_4, zg0_5, zp0_5, zg2_0, zp2_0, zg2_1, zp2_1, zg2_2, zp2_2, zg2_3, zp2_3, zrc_eq, zup_s, zup_n, zup_up, zal_i, zal_b, zal_z, zas_i, zas_b, zas_z, zan_eq, Option.toList_some, Option.toList_none, List.cons_append, List.nil_append, if_true, if_false, ite_true, ite_false, true_or, or_true]
  have F1 : zfr (fun a => 50 ≤ a ∧ a ≤ 51) h (va_up h' 50 (.inr (0, [.int a, .int b, .int c, .int e, .int 0, .ref 51]))) := (c3.mono (fun a ha => by omega)).tr (zfr.up (by omega) zfr.rf)
  exact c80_20 ok hld o2 hn hj hf c2 (n + 1) 0 none _ _ _ _ _ _ _ (by omega) (hs.kept F1 (by omega)) ⟨⟨a, b, c, e, zup_s⟩, (zup_n (by omega)).trans c1⟩ (fun A B U D e => by cases e) (fun h2 d1 d2 d3 => K h2 wb' d1 d2 (F1.tr (d3.mono (fun a ha => by omega))))
def lnA (st : zSt) (w : Int32) : Int32 := match st with
  | none => 0
  | some (A, B, U, D) => if w = 0 then nI A else if w = 1 then nI B else if w = 2 then zsg (decide (U < 0)) (nI (U.natAbs / Nat.gcd U.natAbs D)) else nI (D / Nat.gcd U.natAbs D)
def aLine (S : zSh) (T : zTm) (p d n w : Int32) : Int32 := if isPan S.2.1.1 p ∧ isDr d ∧ (0 ≤ n ∧ n ≤ 24) ∧ (0 ≤ w ∧ w ≤ 3) then (if n.toNatClampNeg ≤ oN S T then lnA (lnO S (oF S T p d) (oN S T) (jCnt p S.2.1.1) n.toNatClampNeg (n.toNatClampNeg + 1) 0 none) w else -1000002) else -1000000
set_option maxHeartbeats 2000000 in
theorem c79 (hc : zCR h ld dd kp S T) (K : ∀ h', zCS h' → zcf h h' → Q (some (.int (aLine S T p d n w))) N h') : zE X 79 0 [some (.ref 0), some (.int p), some (.int d), some (.int n), some (.int w)] [] (N, 0, 0) h Q := by
  have hc' := hc
  obtain ⟨h0, hd, hs, ok, ht, cs⟩ := hc
  have h0' := h0
  unfold pObj at h0
  simp only [e79_0, e79_1, e79_2, e79_5, e79_8, e79_9, e79_12, e79_15, e79_16, e79_17, e79_19, e79_22, e79_25, e79_27, e79_28, e79_29, e79_32, e79_35, e79_37, e79_39, e79_42, e79_43, e79_46, e79_47, e79_50, e79_51, e79_52, e79_53, e79_56, e79_57, e79_58, e79_61, e79_64, e79_67, e79_69, e79_70, e79_71, e79_74, e79_75, e79_78, e79_79, e79_82, e79_83, e79_86, e79_87, e79_90, e79_92, e79_95, e79_96, e79_99, e79_102, e79_103, e79_105, e79_106, e79_109, e79_110, e79_113, e79_116, e79_117, e79_118, e79_121, e79_122, e79_125, e79_128, e79_129, e79_132, e79_135, e79_138, e79_140, e79_141, e79_144, e79_145, e79_148, e79_151, e79_154, e79_155, e79_158, e79_161, h0, c41 h0' hs, c37, c13, zrc_eq, zup_s, zup_n, zup_up, zal_i, zal_b, zal_z, zas_i, zas_b, zas_z, zan_eq, Option.toList_some, Option.toList_none, List.cons_append, List.nil_append, if_true, if_false, ite_true, ite_false, true_or, or_true, z10, z00]
  unfold aLine at K
  by_cases g1 : isPan S.2.1.1 p
  · rw [if_pos g1]
    by_cases g2 : isDr d
    · rw [if_pos g2]
      by_cases g3 : 0 ≤ n ∧ n ≤ 24
      · rw [if_pos g3]
        by_cases g4 : 0 ≤ w ∧ w ≤ 3
        · rw [if_pos g4]
          rw [if_pos ⟨g1, g2, g3, g4⟩] at K
          obtain ⟨m, -, hm2, rfl⟩ := zrange (lo := 0) (hi := 24) (by decide) g3.1 g3.2 (by decide)
          rw [nI_clamp (by omega)] at K
          obtain ⟨x, pl, po, ra, q1, -⟩ := cs.1
          simp (disch := omega) only [e79_0, e79_1, e79_2, e79_5, e79_8, e79_9, e79_12, e79_15, e79_16, e79_17, e79_19, e79_22, e79_25, e79_27, e79_28, e79_29, e79_32, e79_35, e79_37, e79_38, e79_39, e79_42, e79_43, e79_46, e79_47, e79_50, e79_51, e79_52, e79_53, e79_56, e79_57, e79_58, e79_61, e79_64, e79_67, e79_69, e79_70, e79_71, e79_74, e79_75, e79_78, e79_79, e79_82, e79_83, e79_86, e79_87, e79_90, e79_92, e79_95, e79_96, e79_99, e79_102, e79_103, e79_105, e79_106, e79_109, e79_110, e79_113, e79_116, e79_117, e79_118, e79_121, e79_122, e79_125, e79_128, e79_129, e79_132, e79_135, e79_138, e79_140, e79_141, e79_144, e79_145, e79_148, e79_151, e79_154, e79_155, e79_158, e79_161, h0, q1, zg9_0, zp9_0, zg9_1, zp9_1, zg9_2, zp9_2, zg9_3, zp9_3, zg9_4, zp9_4, zg9_5, zp9_5, zg9_6, zp9_6, zg9_7, zp9_7, zg9_8, zp9_8, zg9_9, zp9_9, zg9_10, zp9_10, zg9_11, zp9_11, zg9_12, zp9_12, zg9_13, zp9_13, zg9_14, zp9_14, zg9_15, zp9_15, zg9_16, zp9_16, zrc_eq, zup_s, zup_n, zup_up, zal_i, zal_b, zal_z, zas_i, zas_b, zas_z, zan_eq, Option.toList_some, Option.toList_none, List.cons_append, List.nil_append, if_true, if_false, ite_true, ite_false, true_or, or_true]
          refine c42n (Or.inl rfl) hc' cs.1 (fun h' a1 a2 => ?_)
          have F1 : zcf h h' := a2.mono (fun a ha => by omega)
          have C1 : zCS h' := cs.two (a2.mono (fun a ha => by omega)) a1.r0 (cs.2.1.kept a2 (by omega))
          have R1 := hc'.kept F1 C1
          have e0 := (F1 0 (by omega)).trans h0
          obtain ⟨o1, o2⟩ := a1.obj
          have hO := oOkN (S := S) (T := T) (p := p) (d := d)
          have hf : ∀ j, j < oN S T → oF S T p d j < S.1.1 := fun j hj => (hO.2.1 j hj).1
          have bc := g1.bc ok.2.1.1
          have jl := jCnt_le p S.2.1.1
          have j6 := ok.2.1.1
          obtain ⟨b1, b2, b3, b4, b5, b6, b7, b8⟩ := C1.2.2.2.2.2.1
          by_cases g5 : m ≤ oN S T
          · rw [if_pos g5] at K
            simp (disch := omega) only [e79_0, e79_1, e79_2, e79_5, e79_8, e79_9, e79_12, e79_15, e79_16, e79_17, e79_19, e79_22, e79_25, e79_27, e79_28, e79_29, e79_32, e79_35, e79_37, e79_38, e79_39, e79_42, e79_43, e79_46, e79_47, e79_50, e79_51, e79_52, e79_53, e79_56, e79_57, e79_58, e79_61, e79_64, e79_67, e79_69, e79_70, e79_71, e79_74, e79_75, e79_78, e79_79, e79_82, e79_83, e79_86, e79_87, e79_90, e79_92, e79_95, e79_96, e79_99, e79_102, e79_103, e79_105, e79_106, e79_109, e79_110, e79_113, e79_116, e79_117, e79_118, e79_121, e79_122, e79_125, e79_128, e79_129, e79_132, e79_135, e79_138, e79_140, e79_141, e79_144, e79_145, e79_148, e79_151, e79_154, e79_155, e79_158, e79_161, Option.toList_none, List.nil_append, e0, o1, b7, zg9_0, zp9_0, zg9_1, zp9_1, zg9_2, zp9_2, zg9_3, zp9_3, zg9_4, zp9_4, zg9_5, zp9_5, zg9_6, zp9_6, zg9_7, zp9_7, zg9_8, zp9_8, zg9_9, zp9_9, zg9_10, zp9_10, zg9_11, zp9_11, zg9_12, zp9_12, zg9_13, zp9_13, zg9_14, zp9_14, zg9_15, zp9_15, zg9_16, zp9_16, zg2_0, zp2_0, zg2_1, zp2_1, zg2_2, zp2_2, zg2_3, zp2_3, zrc_eq, zup_s, zup_n, zup_up, zal_i, zal_b, zal_z, zas_i, zas_b, zas_z, zan_eq, Option.toList_some, Option.toList_none, List.cons_append, List.nil_append, if_true, if_false, ite_true, ite_false, true_or, or_true, znI_le, if_pos, c77, bc]
            refine c80 ok (by omega) g5 (by omega) hf R1.2.2.1 a1 C1.2.2.2.2.2.1 (fun h2 wb d1 d2 d3 => ?_)
            have C2 : zCS h2 := C1.bo d3 d1.qq
            have F2 : zcf h h2 := F1.tr (d3.mono (fun a ha => by omega))
            have e02 := (d3 0 (by omega)).trans e0
            have so := lnO_s (S := S) (f := oF S T p d) (al := oN S T) (jn := jCnt p S.2.1.1) (n := m) g5 (m + 1) 0 none (Or.inr ⟨by omega, rfl⟩)
            generalize lnO S (oF S T p d) (oN S T) (jCnt p S.2.1.1) m (m + 1) 0 none = st at *
            rcases st with _ | ⟨A, B, U, D⟩
            · cases so
            · obtain ⟨k1, k2, k3, k4, k5, k6⟩ := d2 _ _ _ _ rfl
              obtain ⟨d5, d6⟩ := d1
              dsimp only at d5
              unfold lnA at K
              dsimp only at K
              by_cases g6 : w = 0
              · rw [if_pos g6] at K
                simp (disch := omega) only [e79_0, e79_1, e79_2, e79_5, e79_8, e79_9, e79_12, e79_15, e79_16, e79_17, e79_19, e79_22, e79_25, e79_27, e79_28, e79_29, e79_32, e79_35, e79_37, e79_38, e79_39, e79_42, e79_43, e79_46, e79_47, e79_50, e79_51, e79_52, e79_53, e79_56, e79_57, e79_58, e79_61, e79_64, e79_67, e79_69, e79_70, e79_71, e79_74, e79_75, e79_78, e79_79, e79_82, e79_83, e79_86, e79_87, e79_90, e79_92, e79_95, e79_96, e79_99, e79_102, e79_103, e79_105, e79_106, e79_109, e79_110, e79_113, e79_116, e79_117, e79_118, e79_121, e79_122, e79_125, e79_128, e79_129, e79_132, e79_135, e79_138, e79_140, e79_141, e79_144, e79_145, e79_148, e79_151, e79_154, e79_155, e79_158, e79_161, Option.toList_none, List.nil_append, e02, d5, zg9_0, zp9_0, zg9_1, zp9_1, zg9_2, zp9_2, zg9_3, zp9_3, zg9_4, zp9_4, zg9_5, zp9_5, zg9_6, zp9_6, zg9_7, zp9_7, zg9_8, zp9_8, zg9_9, zp9_9, zg9_10, zp9_10, zg9_11, zp9_11, zg9_12, zp9_12, zg9_13, zp9_13, zg9_14, zp9_14, zg9_15, zp9_15, zg9_16, zp9_16, zg0_0, zp0_0, zg0_1, zp0_1, zg0_2, zp0_2, zg0_3, zp0_3, zg0_4, zp0_4, zg0_5, zp0_5, zrc_eq, zup_s, zup_n, zup_up, zal_i, zal_b, zal_z, zas_i, zas_b, zas_z, zan_eq, Option.toList_some, Option.toList_none, List.cons_append, List.nil_append, if_true, if_false, ite_true, ite_false, true_or, or_true, g6, ↓reduceIte]
                exact K h2 C2 F2
              · rw [if_neg g6] at K
                by_cases g7 : w = 1
                · rw [if_pos g7] at K
                  simp (disch := omega) only [e79_0, e79_1, e79_2, e79_5, e79_8, e79_9, e79_12, e79_15, e79_16, e79_17, e79_19, e79_22, e79_25, e79_27, e79_28, e79_29, e79_32, e79_35, e79_37, e79_38, e79_39, e79_42, e79_43, e79_46, e79_47, e79_50, e79_51, e79_52, e79_53, e79_56, e79_57, e79_58, e79_61, e79_64, e79_67, e79_69, e79_70, e79_71, e79_74, e79_75, e79_78, e79_79, e79_82, e79_83, e79_86, e79_87, e79_90, e79_92, e79_95, e79_96, e79_99, e79_102, e79_103, e79_105, e79_106, e79_109, e79_110, e79_113, e79_116, e79_117, e79_118, e79_121, e79_122, e79_125, e79_128, e79_129, e79_132, e79_135, e79_138, e79_140, e79_141, e79_144, e79_145, e79_148, e79_151, e79_154, e79_155, e79_158, e79_161, Option.toList_none, List.nil_append, e02, d5, zg9_0, zp9_0, zg9_1, zp9_1, zg9_2, zp9_2, zg9_3, zp9_3, zg9_4, zp9_4, zg9_5, zp9_5, zg9_6, zp9_6, zg9_7, zp9_7, zg9_8, zp9_8, zg9_9, zp9_9, zg9_10, zp9_10, zg9_11, zp9_11, zg9_12, zp9_12, zg9_13, zp9_13, zg9_14, zp9_14, zg9_15, zp9_15, zg9_16, zp9_16, zg0_0, zp0_0, zg0_1, zp0_1, zg0_2, zp0_2, zg0_3, zp0_3, zg0_4, zp0_4, zg0_5, zp0_5, zrc_eq, zup_s, zup_n, zup_up, zal_i, zal_b, zal_z, zas_i, zas_b, zas_z, zan_eq, Option.toList_some, Option.toList_none, List.cons_append, List.nil_append, if_true, if_false, ite_true, ite_false, true_or, or_true, g7, z10, ↓reduceIte]
                  exact K h2 C2 F2
                · rw [if_neg g7] at K
                  obtain ⟨x, y, r3⟩ := C2.2.2.2.2.1
                  have E := fun Q' => c57 (X := X) (N := N) (Q := Q') (s := decide (U < 0)) (a := U.natAbs) (b := D) (by omega) (by omega) (by omega) r3
                  rw [← iI_sg k3 k4] at E
                  simp (disch := omega) only [e79_0, e79_1, e79_2, e79_5, e79_8, e79_9, e79_12, e79_15, e79_16, e79_17, e79_19, e79_22, e79_25, e79_27, e79_28, e79_29, e79_32, e79_35, e79_37, e79_38, e79_39, e79_42, e79_43, e79_46, e79_47, e79_50, e79_51, e79_52, e79_53, e79_56, e79_57, e79_58, e79_61, e79_64, e79_67, e79_69, e79_70, e79_71, e79_74, e79_75, e79_78, e79_79, e79_82, e79_83, e79_86, e79_87, e79_90, e79_92, e79_95, e79_96, e79_99, e79_102, e79_103, e79_105, e79_106, e79_109, e79_110, e79_113, e79_116, e79_117, e79_118, e79_121, e79_122, e79_125, e79_128, e79_129, e79_132, e79_135, e79_140, e79_141, e79_144, e79_145, e79_148, e79_151, e79_154, e79_155, e79_158, e79_161, Option.toList_none, List.nil_append, e02, d5, r3, zg9_0, zp9_0, zg9_1, zp9_1, zg9_2, zp9_2, zg9_3, zp9_3, zg9_4, zp9_4, zg9_5, zp9_5, zg9_6, zp9_6, zg9_7, zp9_7, zg9_8, zp9_8, zg9_9, zp9_9, zg9_10, zp9_10, zg9_11, zp9_11, zg9_12, zp9_12, zg9_13, zp9_13, zg9_14, zp9_14, zg9_15, zp9_15, zg9_16, zp9_16, zg0_0, zp0_0, zg0_1, zp0_1, zg0_2, zp0_2, zg0_3, zp0_3, zg0_4, zp0_4, zg0_5, zp0_5, zrc_eq, zup_s, zup_n, zup_up, zal_i, zal_b, zal_z, zas_i, zas_b, zas_z, zan_eq, Option.toList_some, Option.toList_none, List.cons_append, List.nil_append, if_true, if_false, ite_true, ite_false, true_or, or_true, g6, g7, ↓reduceIte, E]
                  have F3 : zfr (fun a => a = 49) h2 (va_up h2 49 (.inr (3, [.int (zsg (decide (U < 0)) (nI (U.natAbs / Nat.gcd U.natAbs D))), .int (nI (D / Nat.gcd U.natAbs D))]))) := zfr.up rfl zfr.rf
                  have e03 := (F3 0 (by omega)).trans e02
                  have k2 := K _ (C2.ra F3 ⟨_, _, zup_s⟩) (F2.tr (F3.mono (R := fun a => 37 ≤ a ∧ a ≤ 52) (fun a ha => by omega)))
                  by_cases g8 : w = 2
                  · rw [if_pos g8] at k2
                    simp (disch := omega) only [e79_0, e79_1, e79_2, e79_5, e79_8, e79_9, e79_12, e79_15, e79_16, e79_17, e79_19, e79_22, e79_25, e79_27, e79_28, e79_29, e79_32, e79_35, e79_37, e79_38, e79_39, e79_42, e79_43, e79_46, e79_47, e79_50, e79_51, e79_52, e79_53, e79_56, e79_57, e79_58, e79_61, e79_64, e79_67, e79_69, e79_70, e79_71, e79_74, e79_75, e79_78, e79_79, e79_82, e79_83, e79_86, e79_87, e79_90, e79_92, e79_95, e79_96, e79_99, e79_102, e79_103, e79_105, e79_106, e79_109, e79_110, e79_113, e79_116, e79_117, e79_118, e79_121, e79_122, e79_125, e79_128, e79_129, e79_132, e79_135, e79_138, e79_140, e79_141, e79_144, e79_145, e79_148, e79_151, e79_154, e79_155, e79_158, e79_161, Option.toList_none, List.nil_append, e03, zup_s, zg9_0, zp9_0, zg9_1, zp9_1, zg9_2, zp9_2, zg9_3, zp9_3, zg9_4, zp9_4, zg9_5, zp9_5, zg9_6, zp9_6, zg9_7, zp9_7, zg9_8, zp9_8, zg9_9, zp9_9, zg9_10, zp9_10, zg9_11, zp9_11, zg9_12, zp9_12, zg9_13, zp9_13, zg9_14, zp9_14, zg9_15, zp9_15, zg9_16, zp9_16, zg3_0, zp3_0, zg3_1, zp3_1, zrc_eq, zup_s, zup_n, zup_up, zal_i, zal_b, zal_z, zas_i, zas_b, zas_z, zan_eq, Option.toList_some, Option.toList_none, List.cons_append, List.nil_append, if_true, if_false, ite_true, ite_false, true_or, or_true, g8, ↓reduceIte]
                    exact k2
                  · rw [if_neg g8] at k2
                    simp (disch := omega) only [e79_0, e79_1, e79_2, e79_5, e79_8, e79_9, e79_12, e79_15, e79_16, e79_17, e79_19, e79_22, e79_25, e79_27, e79_28, e79_29, e79_32, e79_35, e79_37, e79_38, e79_39, e79_42, e79_43, e79_46, e79_47, e79_50, e79_51, e79_52, e79_53, e79_56, e79_57, e79_58, e79_61, e79_64, e79_67, e79_69, e79_70, e79_71, e79_74, e79_75, e79_78, e79_79, e79_82, e79_83, e79_86, e79_87, e79_90, e79_92, e79_95, e79_96, e79_99, e79_102, e79_103, e79_105, e79_106, e79_109, e79_110, e79_113, e79_116, e79_117, e79_118, e79_121, e79_122, e79_125, e79_128, e79_129, e79_132, e79_135, e79_138, e79_140, e79_141, e79_144, e79_145, e79_148, e79_151, e79_154, e79_155, e79_158, e79_161, Option.toList_none, List.nil_append, e03, zup_s, zg9_0, zp9_0, zg9_1, zp9_1, zg9_2, zp9_2, zg9_3, zp9_3, zg9_4, zp9_4, zg9_5, zp9_5, zg9_6, zp9_6, zg9_7, zp9_7, zg9_8, zp9_8, zg9_9, zp9_9, zg9_10, zp9_10, zg9_11, zp9_11, zg9_12, zp9_12, zg9_13, zp9_13, zg9_14, zp9_14, zg9_15, zp9_15, zg9_16, zp9_16, zg3_0, zp3_0, zg3_1, zp3_1, zrc_eq, zup_s, zup_n, zup_up, zal_i, zal_b, zal_z, zas_i, zas_b, zas_z, zan_eq, Option.toList_some, Option.toList_none, List.cons_append, List.nil_append, if_true, if_false, ite_true, ite_false, true_or, or_true, g8, ↓reduceIte]
                    exact k2
          · rw [if_neg g5] at K
            simp (disch := omega) only [e79_0, e79_1, e79_2, e79_5, e79_8, e79_9, e79_12, e79_15, e79_16, e79_17, e79_19, e79_22, e79_25, e79_27, e79_28, e79_29, e79_32, e79_35, e79_37, e79_38, e79_39, e79_42, e79_43, e79_46, e79_47, e79_50, e79_51, e79_52, e79_53, e79_56, e79_57, e79_58, e79_61, e79_64, e79_67, e79_69, e79_70, e79_71, e79_74, e79_75, e79_78, e79_79, e79_82, e79_83, e79_86, e79_87, e79_90, e79_92, e79_95, e79_96, e79_99, e79_102, e79_103, e79_105, e79_106, e79_109, e79_110, e79_113, e79_116, e79_117, e79_118, e79_121, e79_122, e79_125, e79_128, e79_129, e79_132, e79_135, e79_138, e79_140, e79_141, e79_144, e79_145, e79_148, e79_151, e79_154, e79_155, e79_158, e79_161, Option.toList_none, List.nil_append, e0, o1, zg9_0, zp9_0, zg9_1, zp9_1, zg9_2, zp9_2, zg9_3, zp9_3, zg9_4, zp9_4, zg9_5, zp9_5, zg9_6, zp9_6, zg9_7, zp9_7, zg9_8, zp9_8, zg9_9, zp9_9, zg9_10, zp9_10, zg9_11, zp9_11, zg9_12, zp9_12, zg9_13, zp9_13, zg9_14, zp9_14, zg9_15, zp9_15, zg9_16, zp9_16, zg2_0, zp2_0, zg2_1, zp2_1, zg2_2, zp2_2, zg2_3, zp2_3, zrc_eq, zup_s, zup_n, zup_up, zal_i, zal_b, zal_z, zas_i, zas_b, zas_z, zan_eq, Option.toList_some, Option.toList_none, List.cons_append, List.nil_append, if_true, if_false, ite_true, ite_false, true_or, or_true, znI_le, if_neg]
            exact K h' C1 F1
        · rw [if_neg g4]
          rw [if_neg (fun z => g4 z.2.2.2)] at K
          exact K h cs zfr.rf
      · rw [if_neg g3]
        rw [if_neg (fun z => g3 z.2.2.1)] at K
        exact K h cs zfr.rf
    · rw [if_neg g2]
      rw [if_neg (fun z => g2 z.2.1)] at K
      exact K h cs zfr.rf
  · rw [if_neg g1]
    rw [if_neg (fun z => g1 z.1)] at K
    exact K h cs zfr.rf
end C48
