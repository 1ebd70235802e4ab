-- the reader: numbers, items
section C20
variable {X : Nat × (Nat → Int32)} {N : Nat} {h : zH} {Q : Option Value → Nat → zH → Prop}
/-- the byte at a place as a number; 300 behind the end -/
def bt (tx : Nat → Int32) (len p : Nat) : Nat := if p < len then (tx p).toBitVec.toNat % 256 else 300
theorem bt_byte {tx : Nat → Int32} {len p : Nat} (hp : p < len) : zbyte tx len p = nI (bt tx len p) ∧ bt tx len p < 256 := by
  unfold zbyte bt
  rw [if_pos hp, if_pos hp]
  exact ⟨pk_and (tx p) (m := 255) 8 rfl, Nat.mod_lt _ (by decide)⟩
theorem bt_none {tx : Nat → Int32} {len p : Nat} (hp : ¬ p < len) : zbyte tx len p = -4 ∧ bt tx len p = 300 := by
  unfold zbyte bt
  rw [if_neg hp, if_neg hp]
  exact ⟨rfl, rfl⟩
/-- tests of the byte at a place -/
theorem bt_eq {tx : Nat → Int32} {len p c : Nat} (hc : c < 256) : (zbyte tx len p = nI c) = (bt tx len p = c) := by
  by_cases hp : p < len
  · obtain ⟨h1, h2⟩ := bt_byte (tx := tx) hp
    rw [h1]
    exact propext (nI_eq (by omega) (by omega))
  · obtain ⟨h1, h2⟩ := bt_none (tx := tx) hp
    rw [h1, h2]
    apply propext
    constructor
    · intro q
      have := congrArg Int32.toInt q
      rw [nI_toInt (by omega)] at this
      have e : ((-4 : Int32)).toInt = -4 := rfl
      omega
    · intro q; omega
theorem bt_rng {tx : Nat → Int32} {len p lo hi : Nat} (hl : lo < 256) (hh : hi < 256) : (nI lo ≤ zbyte tx len p ∧ zbyte tx len p ≤ nI hi) = (lo ≤ bt tx len p ∧ bt tx len p ≤ hi) := by
  by_cases hp : p < len
  · obtain ⟨h1, h2⟩ := bt_byte (tx := tx) hp
    rw [h1, znI_le (by omega) (by omega), znI_le (by omega) (by omega)]
  · obtain ⟨h1, h2⟩ := bt_none (tx := tx) hp
    rw [h1, h2]
    apply propext
    constructor
    · rintro ⟨q, -⟩
      have := Int32.le_iff_toInt_le.mp q
      rw [nI_toInt (by omega)] at this
      have e : ((-4 : Int32)).toInt = -4 := rfl
      omega
    · intro q; omega
/-- up to m more figures from a place on: the place behind them, the value -/
def sNum (B : Nat → Nat) : Nat → Nat → Nat → Nat × Nat
  | 0, p, v => (p, v)
  | m + 1, p, v => if 48 ≤ B p ∧ B p ≤ 57 then sNum B m (p + 1) (10 * v + B p - 48) else (p, v)
theorem sNum_le (B : Nat → Nat) : ∀ m p v, p ≤ (sNum B m p v).1 ∧ (sNum B m p v).1 ≤ p + m
  | 0, p, v => by simp [sNum]
  | m + 1, p, v => by
    rw [sNum]
    split
    · have := sNum_le B m (p + 1) (10 * v + B p - 48); omega
    · simp
theorem sNum_v (B : Nat → Nat) : ∀ m i p v, m + i = 3 → v < 10 ^ i → (sNum B m p v).2 ≤ 999
  | 0, i, p, v, hi, hv => by
    rw [show i = 3 by omega] at hv
    simp only [sNum]; omega
  | m + 1, i, p, v, hi, hv => by
    rw [sNum]
    split
    · refine sNum_v B m (i + 1) (p + 1) _ (by omega) ?_
      rw [Nat.pow_succ]; omega
    · have : 10 ^ i ≤ 10 ^ 3 := Nat.pow_le_pow_right (by omega) (by omega)
      simp only; omega
theorem c22_loop {r s len from_ : Nat} {tx : Nat → Int32} (hs : pScr h s len tx) : ∀ (m i p v : Nat) (l6 : Option Value), m + i = 3 → v < 10 ^ i → p < 1000 → (∀ l5 l6, zE X 22 57 [some (.ref r), some (.ref s), some (.int (nI from_)), some (.int (nI (sNum (bt tx len) m p v).2)), some (.int (nI (sNum (bt tx len) m p v).1)), l5, l6] [] (N, 0, 0) h Q) → zE X 22 8 [some (.ref r), some (.ref s), some (.int (nI from_)), some (.int (nI v)), some (.int (nI p)), some (.int (nI i)), l6] [] (N, 0, 0) h Q := by
  intro m
  induction m with
  | zero =>
    intro i p v l6 hi hv hp k
    rw [e22_8]
    simp (disch := omega) only [e22_0, e22_1, e22_2, e22_3, e22_5, e22_6, e22_10, e22_11, e22_14, e22_15, e22_17, e22_20, e22_22, e22_24, e22_26, e22_28, e22_31, e22_34, e22_37, e22_39, e22_40, e22_41, e22_43, e22_44, e22_46, e22_47, e22_48, e22_51, e22_54, e22_59, e22_60, e22_63, e22_65, e22_66, e22_67, e22_68, e22_71, e22_73, zc3, znI_le, if_pos]
    exact k _ _
  | succ m ih =>
    intro i p v l6 hi hv hp k
    have h1 := hs.1
    have h400 := hs.2.2
    rw [e22_8]
    simp (disch := omega) only [e22_0, e22_1, e22_2, e22_3, e22_5, e22_6, e22_10, e22_11, e22_14, e22_15, e22_17, e22_20, e22_22, e22_24, e22_26, e22_28, e22_31, e22_34, e22_37, e22_39, e22_40, e22_41, e22_43, e22_44, e22_46, e22_47, e22_48, e22_51, e22_54, e22_59, e22_60, e22_63, e22_65, e22_66, e22_67, e22_68, e22_71, e22_73, h1, c21 hs, c13, zc3, zc48, zc57, znI_le, if_neg, zrc_eq, zup_s, zup_n, zup_up, zal_i, zal_b, zal_z, zas_i, zas_b, zas_z, zan_eq, Option.toList_some, Option.toList_none, List.cons_append, List.nil_append, if_true, if_false, ite_true, ite_false, true_or, or_true, bt_rng]
    rw [sNum] at k
    by_cases g : 48 ≤ bt tx len p ∧ bt tx len p ≤ 57
    · rw [if_pos g] at k ⊢
      have hpl : p < len := by
        rcases Nat.lt_or_ge p len with q | q
        · exact q
        · have := (bt_none (tx := tx) (Nat.not_lt.mpr q)).2; omega
      obtain ⟨b1, b2⟩ := bt_byte (tx := tx) hpl
      have hv3 : v < 1000 := by
        have : 10 ^ i ≤ 10 ^ 3 := Nat.pow_le_pow_right (by omega) (by omega)
        omega
      simp (disch := omega) only [e22_0, e22_1, e22_2, e22_3, e22_5, e22_6, e22_10, e22_11, e22_14, e22_15, e22_17, e22_20, e22_22, e22_24, e22_26, e22_28, e22_31, e22_34, e22_37, e22_39, e22_40, e22_41, e22_43, e22_44, e22_46, e22_47, e22_48, e22_51, e22_54, e22_59, e22_60, e22_63, e22_65, e22_66, e22_67, e22_68, e22_71, e22_73, zrc_eq, zup_s, zup_n, zup_up, zal_i, zal_b, zal_z, zas_i, zas_b, zas_z, zan_eq, Option.toList_some, Option.toList_none, List.cons_append, List.nil_append, if_true, if_false, ite_true, ite_false, true_or, or_true, z10, b1, zc1, zc10, zc48, pk_mul, nI_add, zdsub, znI_eq, if_neg]
      refine ih (i + 1) (p + 1) _ _ (by omega) ?_ (by omega) k
      rw [Nat.pow_succ]; omega
    · rw [if_neg g] at k ⊢
      exact k _ _
/-- the reader's cell holds a letter and the numbers read so far -/
def pRd (h : zH) (r l : Nat) (vs : List Nat) : Prop := ∃ a b c : Nat, a ≤ 999 ∧ b ≤ 999 ∧ c ≤ 999 ∧ h r = .inr (1, [.int (nI l), .int (nI vs.length), .int (nI a), .int (nI b), .int (nI c)]) ∧ (∀ x, vs[0]? = some x → a = x) ∧ (∀ x, vs[1]? = some x → b = x) ∧ ∀ x, vs[2]? = some x → c = x
theorem c23 {r l v : Nat} {vs : List Nat} (hr : pRd h r l vs) (hv : v ≤ 999) (hn : vs.length ≤ 2) (k : ∀ h', pRd h' r l (vs ++ [v]) → zfr (fun a => a = r) h h' → Q none N h') : zE X 23 0 [some (.ref r), some (.int (nI v))] [] (N, 0, 0) h Q := by
  obtain ⟨a, b, c, ha, hb, hc, h1, g0, g1, g2⟩ := hr
  rcases vs with _ | ⟨x, _ | ⟨y, _ | ⟨z, vs⟩⟩⟩
  · simp (disch := omega) only [e23_0, e23_1, e23_4, e23_7, e23_8, e23_9, e23_12, e23_15, e23_16, e23_19, e23_20, e23_23, e23_24, e23_25, e23_28, e23_31, e23_32, e23_33, e23_36, e23_37, e23_38, e23_41, e23_42, e23_43, e23_46, h1, zg1_0, zp1_0, zg1_1, zp1_1, zg1_2, zp1_2, zg1_3, zp1_3, zg1_4, zp1_4, zrc_eq, zup_s, zup_n, zup_up, zal_i, zal_b, zal_z, zas_i, zas_b, zas_z, zan_eq, Option.toList_some, Option.toList_none, List.cons_append, List.nil_append, if_true, if_false, ite_true, ite_false, true_or, or_true, zc0, zc1, List.length_nil, znI_eq, if_pos, if_neg, nI_add]
    exact k _ ⟨v, b, c, hv, hb, hc, zup_s, fun x q => by simpa using q, fun x q => by simp at q, fun x q => by simp at q⟩ (zfr.up rfl zfr.rf)
  · simp (disch := omega) only [e23_0, e23_1, e23_4, e23_7, e23_8, e23_9, e23_12, e23_15, e23_16, e23_19, e23_20, e23_23, e23_24, e23_25, e23_28, e23_31, e23_32, e23_33, e23_36, e23_37, e23_38, e23_41, e23_42, e23_43, e23_46, h1, zg1_0, zp1_0, zg1_1, zp1_1, zg1_2, zp1_2, zg1_3, zp1_3, zg1_4, zp1_4, zrc_eq, zup_s, zup_n, zup_up, zal_i, zal_b, zal_z, zas_i, zas_b, zas_z, zan_eq, Option.toList_some, Option.toList_none, List.cons_append, List.nil_append, if_true, if_false, ite_true, ite_false, true_or, or_true, zc0, zc1, List.length_cons, List.length_nil, Nat.zero_add, znI_eq, if_pos, if_neg, nI_add]
    exact k _ ⟨a, v, c, ha, hv, hc, zup_s, fun x q => by simpa using g0 x (by simpa using q), fun x q => by simpa using q, fun x q => by simp at q⟩ (zfr.up rfl zfr.rf)
  · simp (disch := omega) only [e23_0, e23_1, e23_4, e23_7, e23_8, e23_9, e23_12, e23_15, e23_16, e23_19, e23_20, e23_23, e23_24, e23_25, e23_28, e23_31, e23_32, e23_33, e23_36, e23_37, e23_38, e23_41, e23_42, e23_43, e23_46, h1, zg1_0, zp1_0, zg1_1, zp1_1, zg1_2, zp1_2, zg1_3, zp1_3, zg1_4, zp1_4, zrc_eq, zup_s, zup_n, zup_up, zal_i, zal_b, zal_z, zas_i, zas_b, zas_z, zan_eq, Option.toList_some, Option.toList_none, List.cons_append, List.nil_append, if_true, if_false, ite_true, ite_false, true_or, or_true, zc0, zc1, List.length_cons, List.length_nil, Nat.zero_add, znI_eq, if_pos, if_neg, nI_add]
    exact k _ ⟨a, b, v, ha, hb, hv, zup_s, fun x q => by simpa using g0 x (by simpa using q), fun x q => by simpa using g1 x (by simpa using q), fun x q => by simpa using q⟩ (zfr.up rfl zfr.rf)
  · simp at hn
theorem c22 {r s l len p : Nat} {tx : Nat → Int32} {vs : List Nat} (hs : pScr h s len tx) (hr : pRd h r l vs) (hn : vs.length ≤ 2) (hp : p < 1000)
    (k0 : (sNum (bt tx len) 3 p 0).1 = p → Q (some (.int (-4))) N h)
    (k1 : (sNum (bt tx len) 3 p 0).1 ≠ p → ∀ h', pRd h' r l (vs ++ [(sNum (bt tx len) 3 p 0).2]) → zfr (fun a => a = r) h h' → Q (some (.int (nI (sNum (bt tx len) 3 p 0).1))) N h') : zE X 22 0 [some (.ref r), some (.ref s), some (.int (nI p)), none, none, none, none] [] (N, 0, 0) h Q := by
  simp only [e22_0, e22_1, e22_2, e22_3, e22_5, e22_6, e22_10, e22_11, e22_14, e22_15, e22_17, e22_20, e22_22, e22_24, e22_26, e22_28, e22_31, e22_34, e22_37, e22_39, e22_40, e22_41, e22_43, e22_44, e22_46, e22_47, e22_48, e22_51, e22_54, e22_57, e22_59, e22_60, e22_63, e22_65, e22_66, e22_67, e22_68, e22_71, e22_73]
  refine c22_loop hs 3 0 p 0 none (by omega) (by decide) hp (fun l5 l6 => ?_)
  have hq := sNum_le (bt tx len) 3 p 0
  have hv := sNum_v (bt tx len) 3 0 p 0 (by omega) (by decide)
  have h1 : ∃ fs, h r = .inr (1, fs) := by obtain ⟨a, b, c, -, -, -, h1, -⟩ := hr; exact ⟨_, h1⟩
  obtain ⟨fs, h1⟩ := h1
  by_cases g : (sNum (bt tx len) 3 p 0).1 = p
  · simp (disch := omega) only [e22_0, e22_1, e22_2, e22_3, e22_5, e22_6, e22_10, e22_11, e22_14, e22_15, e22_17, e22_20, e22_22, e22_24, e22_26, e22_28, e22_31, e22_34, e22_37, e22_39, e22_40, e22_41, e22_43, e22_44, e22_46, e22_47, e22_48, e22_51, e22_54, e22_57, e22_59, e22_60, e22_63, e22_65, e22_66, e22_67, e22_68, e22_71, e22_73, znI_eq, if_pos]
    exact k0 g
  · simp (disch := omega) only [e22_0, e22_1, e22_2, e22_3, e22_5, e22_6, e22_10, e22_11, e22_14, e22_15, e22_17, e22_20, e22_22, e22_24, e22_26, e22_28, e22_31, e22_34, e22_37, e22_39, e22_40, e22_41, e22_43, e22_44, e22_46, e22_47, e22_48, e22_51, e22_54, e22_57, e22_59, e22_60, e22_63, e22_65, e22_66, e22_67, e22_68, e22_71, e22_73, h1, zrc_eq, zup_s, zup_n, zup_up, zal_i, zal_b, zal_z, zas_i, zas_b, zas_z, zan_eq, Option.toList_some, Option.toList_none, List.cons_append, List.nil_append, if_true, if_false, ite_true, ite_false, true_or, or_true, znI_eq, if_neg]
    refine c23 hr hv hn (fun h' g1 g2 => ?_)
    simp (disch := omega) only [e22_0, e22_1, e22_2, e22_3, e22_5, e22_6, e22_10, e22_11, e22_14, e22_15, e22_17, e22_20, e22_22, e22_24, e22_26, e22_28, e22_31, e22_34, e22_37, e22_39, e22_40, e22_41, e22_43, e22_44, e22_46, e22_47, e22_48, e22_51, e22_54, e22_57, e22_59, e22_60, e22_63, e22_65, e22_66, e22_67, e22_68, e22_71, e22_73, zrc_eq, zup_s, zup_n, zup_up, zal_i, zal_b, zal_z, zas_i, zas_b, zas_z, zan_eq, Option.toList_some, Option.toList_none, List.cons_append, List.nil_append, if_true, if_false, ite_true, ite_false, true_or, or_true]
    exact k1 g h' g1 g2
end C20
