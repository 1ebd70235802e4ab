-- lowest terms
section C39
variable {X : Nat × (Nat → Int32)} {N : Nat} {h : zH} {Q : Option Value → Nat → zH → Prop}
variable {len at_ rp rj np_ nj_ kp su lo dr : Int32} {ab be : Int64}
def zsg (s : Bool) (x : Int32) : Int32 := if s = true then -x else x
def zsl (s : Bool) (x : Int64) : Int64 := if s = true then -x else x
set_option maxHeartbeats 1000000 in
theorem zbm32 {z : Int} (h1 : -2147483648 ≤ z) (h2 : z < 2147483648) : z.bmod (2 ^ 32) = z := by
  show z.bmod 4294967296 = z
  unfold Int.bmod
  dsimp only
  split <;> omega
set_option maxHeartbeats 1000000 in
theorem zbm64 {z : Int} (h1 : -9223372036854775808 ≤ z) (h2 : z < 9223372036854775808) : z.bmod (2 ^ 64) = z := by
  show z.bmod 18446744073709551616 = z
  unfold Int.bmod
  dsimp only
  split <;> omega
set_option maxHeartbeats 1000000 in
theorem zgcd {a b : Nat} : Nat.gcd b (a % b) = Nat.gcd a b := by
  rw [Nat.gcd_comm a b, Nat.gcd_rec b a, Nat.gcd_comm]
set_option maxHeartbeats 1000000 in
theorem zhalf {b r : Nat} (h0 : 0 < r) (h : r < b) : 2 * (b % r) < b := by
  have h1 := Nat.mod_lt b h0
  have h2 := Nat.div_add_mod b r
  have h3 : 1 ≤ b / r := (Nat.one_le_div_iff h0).mpr (by omega)
  have h4 : r * 1 ≤ r * (b / r) := Nat.mul_le_mul_left r h3
  omega
set_option maxHeartbeats 1000000 in
theorem c59_loop {l0 l1 : Option Value} : ∀ (k a b i : Nat) (l5 : Option Value), a < 2 ^ 31 → b < 2 ^ 31 → b < 2 ^ k → i + 2 * k + 1 ≤ 100 → zE X 59 7 [l0, l1, some (.int (nI a)), some (.int (nI b)), some (.int (nI i)), l5] [] (N, 0, 0) h Q = Q (some (.int (nI (Nat.gcd a b)))) N h := by
  intro k
  induction k with
  | zero =>
    intro a b i l5 ha hb hk hi
    obtain rfl : b = 0 := by omega
    rw [e59_7]
    simp (disch := omega) only [e59_0, e59_1, e59_2, e59_3, e59_4, e59_5, e59_9, e59_11, e59_14, e59_15, e59_18, e59_19, e59_20, e59_21, e59_23, e59_24, e59_25, e59_27, e59_28, e59_31, e59_34, e59_35, zc100, znI_le, if_neg, nI_0, if_true, Nat.gcd_zero_right]
  | succ k ih =>
    intro a b i l5 ha hb hk hi
    by_cases g : b = 0
    · subst g
      rw [e59_7]
      simp (disch := omega) only [e59_0, e59_1, e59_2, e59_3, e59_4, e59_5, e59_9, e59_11, e59_14, e59_15, e59_18, e59_19, e59_20, e59_21, e59_23, e59_24, e59_25, e59_27, e59_28, e59_31, e59_34, e59_35, zc100, znI_le, if_neg, nI_0, if_true, Nat.gcd_zero_right]
    · have g0 : (nI b = 0) = False := eq_false (nI_ne0 (by omega) hb)
      have hr := Nat.mod_lt a (show 0 < b by omega)
      rw [e59_7]
      simp (disch := omega) only [e59_0, e59_1, e59_2, e59_3, e59_4, e59_5, e59_9, e59_11, e59_14, e59_15, e59_18, e59_19, e59_20, e59_21, e59_23, e59_24, e59_25, e59_27, e59_28, e59_31, e59_34, e59_35, zc100, znI_le, if_neg, g0, if_false, pk_rem, nI_1]
      by_cases g2 : a % b = 0
      · rw [e59_7]
        simp (disch := omega) only [e59_0, e59_1, e59_2, e59_3, e59_4, e59_5, e59_9, e59_11, e59_14, e59_15, e59_18, e59_19, e59_20, e59_21, e59_23, e59_24, e59_25, e59_27, e59_28, e59_31, e59_34, e59_35, zc100, znI_le, if_neg, g2, nI_0, if_true]
        rw [← zgcd, g2, Nat.gcd_zero_right]
      · have g3 : (nI (a % b) = 0) = False := eq_false (nI_ne0 (by omega) (by omega))
        have hh := zhalf (b := b) (r := a % b) (by omega) hr
        have hp : 2 ^ (k + 1) = 2 * 2 ^ k := by rw [Nat.pow_succ, Nat.mul_comm]
        rw [e59_7]
        simp (disch := omega) only [e59_0, e59_1, e59_2, e59_3, e59_4, e59_5, e59_9, e59_11, e59_14, e59_15, e59_18, e59_19, e59_20, e59_21, e59_23, e59_24, e59_25, e59_27, e59_28, e59_31, e59_34, e59_35, zc100, znI_le, if_neg, g3, if_false, pk_rem, nI_1]
        rw [ih (a % b) (b % (a % b)) (i + 1 + 1) _ (by omega) (by omega) (by omega) (by omega), zgcd, zgcd]
set_option maxHeartbeats 1000000 in
theorem c59 {a b : Nat} (ha : a < 2 ^ 31) (hb : b < 2 ^ 31) : zE X 59 0 [some (.int (nI a)), some (.int (nI b)), none, none, none, none] [] (N, 0, 0) h Q = Q (some (.int (nI (Nat.gcd a b)))) N h := by
  simp (disch := omega) only [e59_0, e59_1, e59_2, e59_3, e59_4, e59_5, e59_9, e59_11, e59_14, e59_15, e59_18, e59_19, e59_20, e59_21, e59_23, e59_24, e59_25, e59_27, e59_28, e59_31, e59_34, e59_35, zc0]
  exact c59_loop 31 a b 0 none ha hb hb (by omega)
set_option maxHeartbeats 1000000 in
theorem zsg_abs {s : Bool} {a : Nat} (ha : a < 2 ^ 31) : (if 0 ≤ zsg s (nI a) then zsg s (nI a) else -zsg s (nI a)) = nI a := by
  unfold zsg
  cases s with
  | false =>
    show (if 0 ≤ nI a then nI a else -nI a) = nI a
    rw [if_pos (nI_pos' ha)]
  | true =>
    rw [if_pos rfl]
    by_cases g : a = 0
    · subst g; decide
    · rw [if_neg, Int32.neg_neg]
      rw [Int32.le_iff_toInt_le, sb_negT ha, show (0 : Int32).toInt = 0 from by decide]
      omega
set_option maxHeartbeats 1000000 in
theorem zsg_div {s : Bool} {a g : Nat} (ha : a < 2 ^ 31) (hg : 0 < g) (hg2 : g < 2 ^ 31) : zsg s (nI a) / nI g = zsg s (nI (a / g)) := by
  unfold zsg
  cases s with
  | false => rw [if_neg (by decide), if_neg (by decide), pk_div ha hg hg2]
  | true =>
    rw [if_pos rfl, if_pos rfl]
    have hq : a / g < 2 ^ 31 := Nat.lt_of_le_of_lt (Nat.div_le_self a g) ha
    have z1 : (-((a / g : Nat) : Int)).bmod (2 ^ 32) = -((a / g : Nat) : Int) := by
      generalize a / g = q at hq
      exact zbm32 (by omega) (by omega)
    apply Int32.toInt_inj.mp
    rw [Int32.toInt_div, sb_negT ha, sb_negT hq, nI_toInt hg2, Int.neg_tdiv, ← Int.ofNat_tdiv, z1]
set_option maxHeartbeats 1000000 in
theorem c57 {a b : Nat} {s : Bool} {x y : Int32} (ha : a < 2 ^ 31) (hb0 : 0 < b) (hb : b < 2 ^ 31) (h1 : h 49 = .inr (3, [.int x, .int y])) : zE X 57 0 [some (.ref 49), some (.int (zsg s (nI a))), some (.int (nI b)), none] [] (N, 0, 0) h Q = Q none N (va_up h 49 (.inr (3, [.int (zsg s (nI (a / Nat.gcd a b))), .int (nI (b / Nat.gcd a b))]))) := by
  have g1 : 0 < Nat.gcd a b := Nat.gcd_pos_of_pos_right a hb0
  have g2 : Nat.gcd a b ≤ b := Nat.gcd_le_right a hb0
  have e1 : 0 < nI b := by rw [zlt_le]; exact nI_nle hb0 hb
  have e2 : (nI (Nat.gcd a b) ≤ 0) = False := eq_false (nI_nle g1 (by omega))
  have e3 : (nI (Nat.gcd a b) = 0) = False := eq_false (nI_ne0 g1 (by omega))
  have e4 := zsg_div (s := s) ha g1 (by omega)
  simp (disch := omega) only [e57_0, e57_1, e57_4, e57_5, e57_6, e57_9, e57_10, e57_11, e57_14, e57_15, e57_16, e57_19, e57_20, e57_23, e57_24, e57_25, e57_26, e57_29, e57_30, e57_31, e57_32, e57_35, e57_36, e57_39, e57_40, e57_41, e57_44, e57_45, e57_46, e57_47, e57_50, e57_51, e57_54, h1, zg3_0, zp3_0, zg3_1, zp3_1, zrc_eq, zup_s, zup_n, zup_up, zal_i, zal_b, zal_z, zas_i, zas_b, zas_z, zan_eq, Option.toList_some, Option.toList_none, List.cons_append, List.nil_append, if_true, if_false, ite_true, ite_false, true_or, or_true, e1, c58, zsg_abs ha, c59 ha hb, e2, e3, e4, pk_div]
set_option maxHeartbeats 1000000 in
theorem c57z {a : Int32} {x y : Int32} (h1 : h 49 = .inr (3, [.int x, .int y])) : zE X 57 0 [some (.ref 49), some (.int a), some (.int (nI 0)), none] [] (N, 0, 0) h Q = Q none N (va_up h 49 (.inr (3, [.int 0, .int 1]))) := by
  simp (disch := omega) only [e57_0, e57_1, e57_4, e57_5, e57_6, e57_9, e57_10, e57_11, e57_14, e57_15, e57_16, e57_19, e57_20, e57_23, e57_24, e57_25, e57_26, e57_29, e57_30, e57_31, e57_32, e57_35, e57_36, e57_39, e57_40, e57_41, e57_44, e57_45, e57_46, e57_47, e57_50, e57_51, e57_54, h1, zg3_0, zp3_0, zg3_1, zp3_1, zrc_eq, zup_s, zup_n, zup_up, zal_i, zal_b, zal_z, zas_i, zas_b, zas_z, zan_eq, Option.toList_some, Option.toList_none, List.cons_append, List.nil_append, if_true, if_false, ite_true, ite_false, true_or, or_true, show (0 < nI 0) = False from by decide]
set_option maxHeartbeats 1000000 in
theorem zl0 : (0 : Int64) = lN 0 := by decide
set_option maxHeartbeats 1000000 in
theorem c134_17 {l1 l2 l3 l4 : Option Value} : ∀ (y x : Nat) (l9 l10 : Option Value), x < 2 ^ 63 → y < 2 ^ 63 → (∀ l9 l10, zE X 134 42 [some (.ref 53), l1, l2, l3, l4, some (.long (lN (Nat.gcd x y))), none, some (.long (lN 0)), none, l9, l10] [] (N, 0, 0) h Q) → zE X 134 17 [some (.ref 53), l1, l2, l3, l4, some (.long (lN x)), none, some (.long (lN y)), none, l9, l10] [] (N, 0, 0) h Q := by
  intro y
  induction y using Nat.strongRecOn with
  | ind y ih =>
    intro x l9 l10 hx hy K
    by_cases g : y = 0
    · subst g
      rw [e134_17]
      simp (disch := omega) only [e134_0, e134_1, e134_2, e134_3, e134_6, e134_7, e134_8, e134_11, e134_12, e134_14, e134_15, e134_19, e134_20, e134_21, e134_24, e134_26, e134_28, e134_29, e134_31, e134_33, e134_35, e134_37, e134_39, e134_43, e134_44, e134_46, e134_47, e134_50, e134_51, e134_52, e134_54, e134_55, e134_58, zlce, zl0, if_true]
      rw [Nat.gcd_zero_right] at K
      exact K _ _
    · have g1 : (lN y = lN 0) = False := eq_false (fun z => g ((pk_lEQ hy (by omega)).mp z))
      have hr := Nat.mod_lt x (show 0 < y by omega)
      rw [e134_17]
      simp (disch := omega) only [e134_0, e134_1, e134_2, e134_3, e134_6, e134_7, e134_8, e134_11, e134_12, e134_14, e134_15, e134_19, e134_20, e134_21, e134_24, e134_26, e134_28, e134_29, e134_31, e134_33, e134_35, e134_37, e134_39, e134_43, e134_44, e134_46, e134_47, e134_50, e134_51, e134_52, e134_54, e134_55, e134_58, zlce, zl0, g1, if_false, pk_lRem]
      refine ih (x % y) hr y _ _ hy (by omega) (fun l9 l10 => ?_)
      rw [zgcd]
      exact K _ _
set_option maxHeartbeats 1000000 in
theorem zsl_abs {s : Bool} {a : Nat} (ha : a < 2 ^ 63) : (if lN 0 ≤ zsl s (lN a) then zsl s (lN a) else -zsl s (lN a)) = lN a := by
  unfold zsl
  cases s with
  | false =>
    show (if lN 0 ≤ lN a then lN a else -lN a) = lN a
    rw [if_pos ((pk_lLE (by omega) ha).mpr (Nat.zero_le a))]
  | true =>
    rw [if_pos rfl]
    by_cases g : a = 0
    · subst g; decide
    · rw [if_neg, Int64.neg_neg]
      rw [Int64.le_iff_toInt_le, Int64.toInt_neg, pk_lT ha, pk_lT (by omega), zbm64 (by omega) (by omega)]
      omega
set_option maxHeartbeats 1000000 in
theorem zsl_div {s : Bool} {a g : Nat} (ha : a < 2 ^ 62) (hg : 0 < g) (hg2 : g < 2 ^ 62) : zsl s (lN a) / lN g = zsl s (lN (a / g)) := by
  unfold zsl
  cases s with
  | false => rw [if_neg (by decide), if_neg (by decide), pk_lDiv (by omega) hg (by omega)]
  | true =>
    rw [if_pos rfl, if_pos rfl]
    have hq : a / g < 2 ^ 62 := Nat.lt_of_le_of_lt (Nat.div_le_self a g) ha
    have n1 : (-lN a).toInt = -(a : Int) := by
      rw [Int64.toInt_neg, pk_lT (by omega), zbm64 (by omega) (by omega)]
    have z1 : (-((a / g : Nat) : Int)).bmod (2 ^ 64) = -((a / g : Nat) : Int) := by
      generalize a / g = q at hq
      exact zbm64 (by omega) (by omega)
    have n2 : (-lN (a / g)).toInt = -((a / g : Nat) : Int) := by
      rw [Int64.toInt_neg, pk_lT (by omega), z1]
    apply Int64.toInt_inj.mp
    rw [Int64.toInt_div, n1, n2, pk_lT (by omega), Int.neg_tdiv, ← Int.ofNat_tdiv, z1]
set_option maxHeartbeats 1000000 in
theorem zsl_i {s : Bool} {a : Nat} : (zsl s (lN a)).toInt32 = zsg s (nI a) := by
  unfold zsl zsg
  cases s with
  | false => rw [if_neg (by decide), if_neg (by decide), lN_i]
  | true => rw [if_pos rfl, if_pos rfl, Int64.toInt32_neg, lN_i]
set_option maxHeartbeats 1000000 in
theorem zE_ite {y pc : Nat} {L L' : zL} {st : List Value} {c : Prop} [Decidable c] {x x' : Int64} (f : Int64 → zL) : (if c then zE X y pc (f x) st (N, 0, 0) h Q else zE X y pc (f x') st (N, 0, 0) h Q) = zE X y pc (f (if c then x else x')) st (N, 0, 0) h Q := by
  split <;> rfl
set_option maxHeartbeats 1000000 in
theorem c134 {a b : Nat} {s : Bool} (ha : a < 2 ^ 62) (hb0 : 0 < b) (hb : b < 2 ^ 62) (h1 : h 53 = mObj len at_ rp rj np_ nj_ kp su lo dr ab be) (K : Q none N (va_up h 53 (mObj len at_ rp rj np_ nj_ kp su lo dr (zsl s (lN (a / Nat.gcd a b))) (lN (b / Nat.gcd a b))))) : zE X 134 0 [some (.ref 53), some (.long (zsl s (lN a))), none, some (.long (lN b)), none, none, none, none, none, none, none] [] (N, 0, 0) h Q := by
  have g1 : 0 < Nat.gcd a b := Nat.gcd_pos_of_pos_right a hb0
  have g2 : Nat.gcd a b ≤ b := Nat.gcd_le_right a hb0
  have e3 : (lN (Nat.gcd a b) = 0) = False := eq_false (fun z => by rw [zl0] at z; have := (pk_lEQ (by omega) (by omega)).mp z; omega)
  unfold mObj at h1 K
  have key : zE X 134 17 [some (.ref 53), some (.long (zsl s (lN a))), none, some (.long (lN b)), none, some (.long (lN a)), none, some (.long (lN b)), none, none, none] [] (N, 0, 0) h Q := by
    refine c134_17 b a none none (by omega) (by omega) (fun l9 l10 => ?_)
    have e4 := zsl_div (s := s) ha g1 (by omega)
    simp (disch := omega) only [e134_0, e134_1, e134_2, e134_3, e134_6, e134_7, e134_8, e134_11, e134_12, e134_14, e134_15, e134_19, e134_20, e134_21, e134_24, e134_26, e134_28, e134_29, e134_31, e134_33, e134_35, e134_37, e134_39, e134_42, e134_43, e134_44, e134_46, e134_47, e134_50, e134_51, e134_52, e134_54, e134_55, e134_58, h1, zg10_0, zp10_0, zg10_1, zp10_1, zg10_2, zp10_2, zg10_3, zp10_3, zg10_4, zp10_4, zg10_5, zp10_5, zg10_6, zp10_6, zg10_7, zp10_7, zg10_8, zp10_8, zg10_9, zp10_9, zg10_10, zp10_10, zg10_11, zp10_11, zg10_12, zp10_12, zg10_13, zp10_13, zg10_14, zp10_14, zg10_15, zp10_15, zg10_16, zp10_16, zg10_17, zp10_17, zg10_18, zp10_18, zg10_19, zp10_19, zg10_20, zp10_20, zg10_21, zp10_21, zg10_22, zp10_22, zg10_23, zp10_23, zg10_24, zp10_24, zg10_25, zp10_25, zg10_26, zp10_26, zg10_27, zp10_27, zg10_28, zp10_28, zg10_29, zp10_29, zg10_30, zp10_30, zg10_31, zp10_31, zg10_32, zp10_32, zrc_eq, zup_s, zup_n, zup_up, zal_i, zal_b, zal_z, zas_i, zas_b, zas_z, zan_eq, Option.toList_some, Option.toList_none, List.cons_append, List.nil_append, if_true, if_false, ite_true, ite_false, true_or, or_true, e3, if_false, e4, pk_lDiv]
    exact K
  have ab := zsl_abs (s := s) (a := a) (by omega)
  by_cases g : lN 0 ≤ zsl s (lN a)
  · rw [if_pos g] at ab
    have g' : ¬ zsl s (lN a) < 0 := by rw [zl0]; exact Int64.not_lt.mpr g
    simp (disch := omega) only [e134_0, e134_1, e134_2, e134_3, e134_6, e134_7, e134_8, e134_11, e134_12, e134_14, e134_15, e134_19, e134_20, e134_21, e134_24, e134_26, e134_28, e134_29, e134_31, e134_33, e134_35, e134_37, e134_39, e134_42, e134_43, e134_44, e134_46, e134_47, e134_50, e134_51, e134_52, e134_54, e134_55, e134_58, zlcl, g', Int32.not_lt, show ∀ x y : Int32, (x ≤ y) = ¬ (y < x) from fun x y => propext Int32.not_lt.symm, if_true, not_false_eq_true]
    rw [ab] at key ⊢
    exact key
  · rw [if_neg g] at ab
    have g' : zsl s (lN a) < 0 := by rw [zl0]; exact Int64.not_le.mp g
    simp (disch := omega) only [e134_0, e134_1, e134_2, e134_3, e134_6, e134_7, e134_8, e134_11, e134_12, e134_14, e134_15, e134_19, e134_20, e134_21, e134_24, e134_26, e134_28, e134_29, e134_31, e134_33, e134_35, e134_37, e134_39, e134_42, e134_43, e134_44, e134_46, e134_47, e134_50, e134_51, e134_52, e134_54, e134_55, e134_58, zlcl, g', show ∀ x y : Int32, (x ≤ y) = ¬ (y < x) from fun x y => propext Int32.not_lt.symm, if_false, not_true_eq_false]
    rw [ab]
    exact key
end C39
