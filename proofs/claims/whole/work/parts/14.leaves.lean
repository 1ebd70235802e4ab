-- leaves: the JDK's, small tests
theorem zrange {lo hi : Nat} (hh : hi < 2 ^ 31) {n : Int32} (h1 : nI lo ≤ n) (h2 : n ≤ nI hi) (hl : lo < 2 ^ 31) : ∃ j, lo ≤ j ∧ j ≤ hi ∧ n = nI j := by
  have a1 := Int32.le_iff_toInt_le.mp h1
  have a2 := Int32.le_iff_toInt_le.mp h2
  rw [nI_toInt hl] at a1
  rw [nI_toInt hh] at a2
  refine ⟨n.toInt.toNat, by omega, by omega, ?_⟩
  apply Int32.toInt_inj.mp
  rw [nI_toInt (by omega)]
  omega
theorem zl_le {a b : Int32} : (a.toInt64 ≤ b.toInt64) = (a ≤ b) := by
  rw [Int64.le_iff_toInt_le, Int32.le_iff_toInt_le, Int32.toInt_toInt64, Int32.toInt_toInt64]
theorem zl_lt {a b : Int32} : (a.toInt64 < b.toInt64) = (a < b) := by
  rw [Int64.lt_iff_toInt_lt, Int32.lt_iff_toInt_lt, Int32.toInt_toInt64, Int32.toInt_toInt64]
theorem zlcl {a b : Int64} : (lg_cmp a b < 0) = (a < b) := propext (lg_cmp_lt a b)
theorem zlcg {a b : Int64} : (0 < lg_cmp a b) = (b < a) := propext (lg_cmp_gt a b)
theorem zlce {a b : Int64} : (lg_cmp a b = 0) = (a = b) := propext (lg_cmp_eq a b)
theorem zll {a b : Int64} : (a < b) = ¬ (b ≤ a) := propext Int64.not_le.symm
section C14
variable {X : Nat × (Nat → Int32)} {N : Nat} {h : zH} {Q : Option Value → Nat → zH → Prop} {a b c : Int32}
theorem c55 : zE X 55 0 [some (.int a), some (.int b)] [] (N, 0, 0) h Q = Q (some (.int (if b < a then b else a))) N h := by
  simp only [e55_0, e55_1, e55_2, e55_5, e55_6, e55_9, e55_10]
  split <;> rfl
theorem c74 : zE X 74 0 [some (.int a), some (.int b)] [] (N, 0, 0) h Q = Q (some (.int (if a < b then b else a))) N h := by
  simp only [e74_0, e74_1, e74_2, e74_5, e74_6, e74_9, e74_10]
  split <;> rfl
theorem c58 : zE X 58 0 [some (.int a)] [] (N, 0, 0) h Q = Q (some (.int (if 0 ≤ a then a else -a))) N h := by
  simp only [e58_0, e58_1, e58_4, e58_5, e58_6, e58_9, e58_10]
  split <;> rfl
theorem c67 (hb : ¬ b = 0) : zE X 67 0 [some (.int a), some (.int b), none] [] (N, 0, 0) h Q = Q (some (.int (if 0 ≤ (a ^^^ b) then a - a / b * b else if a - a / b * b = 0 then a - a / b * b else a - a / b * b + b))) N h := by
  simp only [e67_0, e67_1, e67_2, e67_3, e67_4, e67_5, e67_6, e67_7, e67_10, e67_11, e67_14, e67_15, e67_16, e67_17, e67_18, e67_19, hb, if_false]
  split
  · rfl
  · split <;> rfl
theorem c13 : zE X 13 0 [some (.int a), some (.int b), some (.int c)] [] (N, 0, 0) h Q = if b ≤ a ∧ a ≤ c then Q (some (.int 1)) N h else Q (some (.int 0)) N h := by
  simp only [e13_0, e13_1, e13_2, e13_5, e13_6, e13_7, e13_10, e13_11, e13_14, e13_15, true_or, or_true, if_true, zite_and, zlt_le, ite_not]
theorem c37 : zE X 37 0 [some (.int a)] [] (N, 0, 0) h Q = if 0 ≤ a ∧ a < 100 then Q (some (.int 1)) N h else Q (some (.int 0)) N h := by
  simp only [e37_0, e37_1, e37_4, e37_5, e37_7, e37_10, e37_11, e37_14, e37_15, true_or, or_true, if_true, zite_and, zlt_le, ite_not]
theorem c128 : zE X 128 0 [some (.int a), some (.int b)] [] (N, 0, 0) h Q = Q (some (.int (if a < b then a else b))) N h := by
  simp only [e128_0, e128_1, e128_2, e128_5, e128_6, e128_9, e128_10, zlt_le, ite_not]
  split <;> rfl
theorem c108 {a b c : Int64} : zE X 108 0 [some (.long a), none, some (.long b), none, some (.long c), none] [] (N, 0, 0) h Q = if b ≤ a ∧ a ≤ c then Q (some (.int 1)) N h else Q (some (.int 0)) N h := by
  simp only [e108_0, e108_1, e108_2, e108_3, e108_6, e108_7, e108_9, e108_10, e108_13, e108_14, e108_17, e108_18, zlcl, zlcg, true_or, or_true, if_true, zite_and, zll, ite_not]
end C14
