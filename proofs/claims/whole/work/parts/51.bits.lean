-- bits: how many, sets of plans
section C51
set_option maxHeartbeats 2000000 in
theorem nx_and' (a b : Nat) : nI a &&& nI b = nI (a &&& b) := by
  apply Int32.toBitVec_inj.1
  show BitVec.ofNat 32 a &&& BitVec.ofNat 32 b = BitVec.ofNat 32 (a &&& b)
  apply BitVec.eq_of_getLsbD_eq
  intro i hi
  simp [hi]
set_option maxHeartbeats 2000000 in
theorem nx_or' (a b : Nat) : nI a ||| nI b = nI (a ||| b) := by
  apply Int32.toBitVec_inj.1
  show BitVec.ofNat 32 a ||| BitVec.ofNat 32 b = BitVec.ofNat 32 (a ||| b)
  apply BitVec.eq_of_getLsbD_eq
  intro i hi
  simp [hi]
set_option maxHeartbeats 2000000 in
theorem s_l' : ∀ n, n < 32 → ((nI n &&& 31).toBitVec.smod 32).toNat = n := by decide +kernel
set_option maxHeartbeats 2000000 in
theorem s_u' : ∀ n, n < 32 → (((nI n).toUInt32 &&& Int32.toUInt32 31).toBitVec % 32).toNat = n := by decide +kernel
set_option maxHeartbeats 2000000 in
theorem zush_n {x k : Nat} (hx : x < 2 ^ 32) (hk : k < 32) : zush (nI x) (nI k) = nI (x / 2 ^ k) := by
  unfold zush
  exact pk_ushrN hx _ k (s_u' k hk)
set_option maxHeartbeats 2000000 in
theorem tb_add {a b j : Nat} (hb : b < 256) : (256 * a + b).testBit j = if j < 8 then b.testBit j else a.testBit (j - 8) := by
  have := Nat.testBit_two_pow_mul_add (i := 8) a (b := b) (by simpa using hb) j
  simpa using this
set_option maxHeartbeats 2000000 in
theorem land256 {a b c e : Nat} (hb : b < 256) (he : e < 256) : (256 * a + b) &&& (256 * c + e) = 256 * (a &&& c) + (b &&& e) := by
  apply Nat.eq_of_testBit_eq
  intro j
  have hbe : b &&& e < 256 := Nat.lt_of_le_of_lt Nat.and_le_left hb
  rw [Nat.testBit_and, tb_add hb, tb_add he, tb_add hbe]
  split
  · rw [Nat.testBit_and]
  · rw [Nat.testBit_and]
set_option maxHeartbeats 2000000 in
theorem by1 : ∀ e, e < 2 → ∀ b, b < 256 → (128 * e + b / 2) &&& 85 = (b / 2) &&& 85 ∧ 128 * e + b / 2 < 256 := by decide +kernel
set_option maxHeartbeats 2000000 in
theorem by2 : ∀ e, e < 4 → ∀ b, b < 256 → (64 * e + b / 4) &&& 51 = (b / 4) &&& 51 ∧ 64 * e + b / 4 < 256 := by decide +kernel
set_option maxHeartbeats 2000000 in
theorem by3 : ∀ e, e < 5 → ∀ b, b < 69 → (b + b / 16 + 16 * e) &&& 15 = (b + b / 16) &&& 15 ∧ b + b / 16 + 16 * e < 256 := by decide +kernel
set_option maxHeartbeats 2000000 in
theorem st1 {y b A : Nat} (hb : b < 256) : ((256 * y + b) / 2) &&& (256 * A + 85) = 256 * ((y / 2) &&& A) + ((b / 2) &&& 85) := by
  have e : (256 * y + b) / 2 = 256 * (y / 2) + (128 * (y % 2) + b / 2) := by omega
  obtain ⟨h1, h2⟩ := by1 (y % 2) (by omega) b hb
  rw [e, land256 h2 (by omega), h1]
set_option maxHeartbeats 2000000 in
theorem st2 {y b A : Nat} (hb : b < 256) : ((256 * y + b) / 4) &&& (256 * A + 51) = 256 * ((y / 4) &&& A) + ((b / 4) &&& 51) := by
  have e : (256 * y + b) / 4 = 256 * (y / 4) + (64 * (y % 4) + b / 4) := by omega
  obtain ⟨h1, h2⟩ := by2 (y % 4) (by omega) b hb
  rw [e, land256 h2 (by omega), h1]
set_option maxHeartbeats 2000000 in
theorem st3 {y b A : Nat} (hb : b < 69) (hy : y % 16 < 5) : ((256 * y + b) + (256 * y + b) / 16) &&& (256 * A + 15) = 256 * ((y + y / 16) &&& A) + ((b + b / 16) &&& 15) := by
  have e : (256 * y + b) + (256 * y + b) / 16 = 256 * (y + y / 16) + (b + b / 16 + 16 * (y % 16)) := by omega
  obtain ⟨h1, h2⟩ := by3 (y % 16) hy b hb
  rw [e, land256 h2 (by omega), h1]
def b1 (b : Nat) : Nat := b - ((b / 2) &&& 85)
def b2 (b : Nat) : Nat := (b &&& 51) + ((b / 4) &&& 51)
def b3 (b : Nat) : Nat := (b + b / 16) &&& 15
def tb8 (b : Nat) : Nat := nSum (fun i => if b.testBit i = true then 1 else 0) 8
set_option maxHeartbeats 2000000 in
theorem byf : ∀ b, b < 256 → (b / 2) &&& 85 ≤ b ∧ b2 (b1 b) < 69 ∧ b2 (b1 b) % 16 < 5 ∧ b3 (b2 (b1 b)) = tb8 b ∧ tb8 b ≤ 8 := by decide +kernel
set_option maxHeartbeats 2000000 in
theorem zb1_eq {p q r : Nat} (hp : p < 256) (hq : q < 256) (hr : r < 256) : zb1 (nI (256 * (256 * r + q) + p)) = nI (256 * (256 * b1 r + b1 q) + b1 p) := by
  unfold zb1
  have s := st1 (y := 256 * r + q) (A := 5592405) hp
  have s2 := st1 (y := r) (A := 21845) hq
  have s3 := st1 (y := 0) (A := 85) hr
  have hz : (0 / 2) &&& 85 = 0 := by decide
  have e1 := (byf p hp).1
  have e2 := (byf q hq).1
  have e3 := (byf r hr).1
  rw [show (1 : Int32) = nI 1 from rfl, zush_n (by omega) (by omega), show (1431655765 : Int32) = nI (256 * 5592405 + 85) from by decide, nx_and', show 2 ^ 1 = 2 from rfl, s, show (5592405 : Nat) = 256 * 21845 + 85 from rfl, s2, show (21845 : Nat) = 256 * 85 + 85 from rfl]
  rw [Nat.mul_zero, Nat.zero_add, hz, Nat.mul_zero, Nat.zero_add] at s3
  rw [s3, pk_sub (by omega)]
  congr 1
  unfold b1
  omega
set_option maxHeartbeats 2000000 in
theorem zb2_eq {p q r : Nat} (hp : p < 256) (hq : q < 256) (hr : r < 256) : zb2 (nI (256 * (256 * r + q) + p)) = nI (256 * (256 * b2 r + b2 q) + b2 p) := by
  unfold zb2
  have s := st2 (y := 256 * r + q) (A := 3355443) hp
  have s2 := st2 (y := r) (A := 13107) hq
  have s3 := st2 (y := 0) (A := 51) hr
  have t := land256 (a := 256 * r + q) (b := p) (c := 3355443) (e := 51) hp (by omega)
  have t2 := land256 (a := r) (b := q) (c := 13107) (e := 51) hq (by omega)
  have t3 := land256 (a := 0) (b := r) (c := 51) (e := 51) hr (by omega)
  have hz : (0 / 4) &&& 51 = 0 := by decide
  have hz2 : 0 &&& 51 = 0 := by decide
  rw [show (2 : Int32) = nI 2 from rfl, zush_n (by omega) (by omega), show (858993459 : Int32) = nI (256 * 3355443 + 51) from by decide, nx_and', nx_and', show 2 ^ 2 = 4 from rfl, s, t, show (3355443 : Nat) = 256 * 13107 + 51 from rfl, s2, t2, show (13107 : Nat) = 256 * 51 + 51 from rfl]
  rw [Nat.mul_zero, Nat.zero_add, hz, Nat.mul_zero, Nat.zero_add] at s3
  rw [Nat.mul_zero, Nat.zero_add, hz2, Nat.mul_zero, Nat.zero_add] at t3
  rw [s3, t3, nI_add]
  congr 1
  unfold b2
  omega
set_option maxHeartbeats 2000000 in
theorem zb3_eq {p q r : Nat} (hp : p < 69) (hq : q < 69) (hr : r < 69) (hq5 : q % 16 < 5) (hr5 : r % 16 < 5) : zb3 (nI (256 * (256 * r + q) + p)) = nI (256 * (256 * b3 r + b3 q) + b3 p) := by
  unfold zb3
  have s := st3 (y := 256 * r + q) (A := 986895) hp (by omega)
  have s2 := st3 (y := r) (A := 3855) hq hr5
  have s3 := st3 (y := 0) (A := 15) hr (by omega)
  have hz : (0 + 0 / 16) &&& 15 = 0 := by decide
  rw [show (4 : Int32) = nI 4 from rfl, zush_n (by omega) (by omega), show (252645135 : Int32) = nI (256 * 986895 + 15) from by decide, nI_add, nx_and', show 2 ^ 4 = 16 from rfl, s, show (986895 : Nat) = 256 * 3855 + 15 from rfl, s2, show (3855 : Nat) = 256 * 15 + 15 from rfl]
  rw [Nat.mul_zero, Nat.zero_add, hz, Nat.mul_zero, Nat.zero_add] at s3
  rw [s3]
  rfl
set_option maxHeartbeats 2000000 in
theorem zbc_eq {p q r : Nat} (hp : p < 256) (hq : q < 256) (hr : r < 256) : zbc (nI (256 * (256 * r + q) + p)) = nI (tb8 p + tb8 q + tb8 r) := by
  obtain ⟨-, p2, p3, p4, p5⟩ := byf p hp
  obtain ⟨-, q2, q3, q4, q5⟩ := byf q hq
  obtain ⟨-, r2, r3, r4, r5⟩ := byf r hr
  have c1 : ∀ b, b < 256 → b1 b < 256 := fun b hb => Nat.lt_of_le_of_lt (Nat.sub_le _ _) hb
  unfold zbc
  rw [zb1_eq hp hq hr, zb2_eq (c1 p hp) (c1 q hq) (c1 r hr), zb3_eq p2 q2 r2 q3 r3, p4, q4, r4]
  unfold zb4 zb5
  rw [show (8 : Int32) = nI 8 from rfl, show (16 : Int32) = nI 16 from rfl, show (63 : Int32) = nI 63 from rfl, zush_n (by omega) (by omega), nI_add, zush_n (by omega) (by omega), nI_add, nx_and']
  congr 1
  generalize tb8 p = P at *
  generalize tb8 q = Q' at *
  generalize tb8 r = R at *
  have k1 : (256 * (256 * R + Q') + P) / 2 ^ 8 = 256 * R + Q' := by omega
  rw [k1]
  have k2 : (256 * (256 * R + Q') + P + (256 * R + Q')) / 2 ^ 16 = R := by omega
  rw [k2, show (63 : Nat) = 2 ^ 6 - 1 from rfl, Nat.and_two_pow_sub_one_eq_mod]
  omega
/-- how many of the first 24 bits are set -/
def tb24 (m : Nat) : Nat := nSum (fun i => if m.testBit i = true then 1 else 0) 24
set_option maxHeartbeats 2000000 in
theorem tb24_eq {p q r : Nat} (hp : p < 256) (hq : q < 256) : tb24 (256 * (256 * r + q) + p) = tb8 p + tb8 q + tb8 r := by
  unfold tb24
  rw [show 24 = 8 + (8 + 8) from rfl, nSum_split, nSum_split, ← Nat.add_assoc]
  congr 1
  · congr 1
    · apply nSum_congr
      intro i hi
      rw [tb_add hp, if_pos hi]
    · apply nSum_congr
      intro i hi
      have h1 : (256 * (256 * r + q) + p).testBit (8 + i) = (256 * r + q).testBit (8 + i - 8) := (tb_add hp).trans (if_neg (by omega))
      rw [Nat.add_sub_cancel_left] at h1
      have h2 : (256 * r + q).testBit i = q.testBit i := (tb_add hq).trans (if_pos hi)
      rw [h1, h2]
  · apply nSum_congr
    intro i hi
    have h1 : (256 * (256 * r + q) + p).testBit (8 + (8 + i)) = (256 * r + q).testBit (8 + (8 + i) - 8) := (tb_add hp).trans (if_neg (by omega))
    rw [Nat.add_sub_cancel_left] at h1
    have h2 : (256 * r + q).testBit (8 + i) = r.testBit (8 + i - 8) := (tb_add hq).trans (if_neg (by omega))
    rw [Nat.add_sub_cancel_left] at h2
    rw [h1, h2]
set_option maxHeartbeats 2000000 in
theorem zbc_24 {m : Nat} (hm : m < 2 ^ 24) : zbc (nI m) = nI (tb24 m) := by
  have e : 256 * (256 * (m / 65536) + m / 256 % 256) + m % 256 = m := by omega
  have h := zbc_eq (p := m % 256) (q := m / 256 % 256) (r := m / 65536) (by omega) (by omega) (by omega)
  rw [← tb24_eq (by omega) (by omega), e] at h
  exact h
/-- a set of plans, as bits -/
def pbt (x : Int32) (P : Nat → Bool) : Prop := ∃ m, m < 2 ^ 24 ∧ x = nI m ∧ ∀ i, i < 24 → m.testBit i = P i
set_option maxHeartbeats 2000000 in
theorem pbt.cnt {x : Int32} {P : Nat → Bool} (h : pbt x P) : zbc x = nI (nSum (fun i => if P i = true then 1 else 0) 24) := by
  obtain ⟨m, h1, rfl, h3⟩ := h
  rw [zbc_24 h1]
  congr 1
  apply nSum_congr
  intro i hi
  rw [h3 i hi]
set_option maxHeartbeats 2000000 in
theorem pbt.zero : pbt 0 (fun _ => false) := ⟨0, by omega, rfl, fun i _ => Nat.zero_testBit i⟩
set_option maxHeartbeats 2000000 in
theorem shl1 {i : Nat} (hi : i < 24) : (1 : Int32) <<< (nI i &&& 31) = nI (2 ^ i) := by
  have h : 2 ^ i ≤ 2 ^ 23 := Nat.pow_le_pow_right (by decide) (by omega)
  have := pk_shlN (n := 1) (nI i &&& 31) i (s_l' i (by omega)) (by omega)
  rw [Nat.one_mul] at this
  exact this
set_option maxHeartbeats 2000000 in
theorem pbt.or {x : Int32} {P : Nat → Bool} (h : pbt x P) {i : Nat} (hi : i < 24) : pbt (x ||| (1 <<< (nI i &&& 31))) (fun j => P j || decide (j = i)) := by
  obtain ⟨m, h1, rfl, h3⟩ := h
  have hp : 2 ^ i < 2 ^ 24 := Nat.pow_lt_pow_right (by decide) hi
  refine ⟨m ||| 2 ^ i, Nat.or_lt_two_pow h1 hp, by rw [shl1 hi, nx_or'], fun j hj => ?_⟩
  rw [Nat.testBit_or, h3 j hj, Nat.testBit_two_pow]
  congr 1
  by_cases e : i = j
  · simp [e]
  · simp [e, Ne.symm e]
set_option maxHeartbeats 2000000 in
theorem pbt.congr {x : Int32} {P R : Nat → Bool} (h : pbt x P) (e : ∀ i, i < 24 → P i = R i) : pbt x R := by
  obtain ⟨m, h1, h2, h3⟩ := h
  exact ⟨m, h1, h2, fun i hi => (h3 i hi).trans (e i hi)⟩
set_option maxHeartbeats 2000000 in
theorem pbt.and {x y : Int32} {P R : Nat → Bool} (h : pbt x P) (g : pbt y R) : pbt (x &&& y) (fun i => P i && R i) := by
  obtain ⟨m, h1, rfl, h3⟩ := h
  obtain ⟨k, g1, rfl, g3⟩ := g
  refine ⟨m &&& k, Nat.lt_of_le_of_lt Nat.and_le_left h1, nx_and' _ _, fun i hi => ?_⟩
  rw [Nat.testBit_and, h3 i hi, g3 i hi]
set_option maxHeartbeats 2000000 in
theorem pbt.diff {x y : Int32} {P R : Nat → Bool} (h : pbt x P) (g : pbt y R) : pbt (x &&& (y ^^^ (-1))) (fun i => P i && !R i) := by
  obtain ⟨m, h1, rfl, h3⟩ := h
  obtain ⟨k, g1, rfl, g3⟩ := g
  refine ⟨m &&& (k ^^^ (2 ^ 32 - 1)), Nat.lt_of_le_of_lt Nat.and_le_left h1, ?_, fun i hi => ?_⟩
  · rw [show (-1 : Int32) = nI (2 ^ 32 - 1) from by decide, nx_xor', nx_and']
  · rw [Nat.testBit_and, h3 i hi, Nat.testBit_xor, g3 i hi, Nat.testBit_two_pow_sub_one]
    have : i < 32 := by omega
    simp [this]
set_option maxHeartbeats 2000000 in
theorem pbt.has {x : Int32} {P : Nat → Bool} (h : pbt x P) {i : Nat} (hi : i < 24) : zhas x i ↔ P i = true := by
  obtain ⟨m, h1, rfl, h3⟩ := h
  rw [← h3 i hi]
  show (nI m >>> (nI i &&& 31)) &&& 1 = 1 ↔ _
  rw [pk_shrN (by omega) (nI i &&& 31) i (s_l' i (by omega)), show (1 : Int32) = nI 1 from rfl, nx_and', Nat.testBit_eq_decide_div_mod_eq, show (1 : Nat) = 2 ^ 1 - 1 from rfl, Nat.and_two_pow_sub_one_eq_mod]
  have hm : m / 2 ^ i % 2 ^ 1 < 2 := Nat.mod_lt _ (by decide)
  rw [nI_eq (by omega) (by omega)]
  simp
set_option maxHeartbeats 2000000 in
theorem pbt.ne {x : Int32} {P : Nat → Bool} (h : pbt x P) : (x = 0) = ∀ i, i < 24 → P i = false := by
  obtain ⟨m, h1, rfl, h3⟩ := h
  apply propext
  rw [show (0 : Int32) = nI 0 from rfl, nI_eq (by omega) (by omega)]
  constructor
  · intro e i hi
    rw [← h3 i hi, e, Nat.zero_testBit]
  · intro e
    apply Nat.eq_of_testBit_eq
    intro i
    rw [Nat.zero_testBit]
    by_cases hi : i < 24
    · rw [h3 i hi, e i hi]
    · exact Nat.testBit_lt_two_pow (Nat.lt_of_lt_of_le h1 (Nat.pow_le_pow_right (by decide) (by omega)))
end C51
