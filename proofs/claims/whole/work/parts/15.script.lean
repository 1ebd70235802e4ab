-- the script: bytes, append, write, wipe
section C15
variable {X : Nat × (Nat → Int32)} {N : Nat} {h : zH} {Q : Option Value → Nat → zH → Prop}
/-- a byte as 0 to 255, or -4 behind the end -/
def zbyte (tx : Nat → Int32) (len k : Nat) : Int32 := if k < len then tx k &&& 255 else -4
/-- the script's cells -/
def pScr (h : zH) (s len : Nat) (tx : Nat → Int32) : Prop := h s = .inr (4, [.ref (s + 1), .int (nI len)]) ∧ h (s + 1) = .inl (.byte, 400, tx) ∧ len ≤ 400
theorem c21 {s len k : Nat} {tx : Nat → Int32} (hs : pScr h s len tx) (hk : k < 2 ^ 31) : zE X 21 0 [some (.ref s), some (.int (nI k))] [] (N, 0, 0) h Q = Q (some (.int (zbyte tx len k))) N h := by
  obtain ⟨h1, h2, h3⟩ := hs
  by_cases hl : k < len
  · simp (disch := omega) only [e21_0, e21_1, e21_4, e21_5, e21_6, e21_9, e21_12, e21_13, e21_16, e21_17, e21_18, e21_21, e21_22, e21_25, e21_27, h1, h2, zg4_0, zp4_0, zg4_1, zp4_1, zrc_eq, zup_s, zup_n, zup_up, zal_i, zal_b, zal_z, zas_i, zas_b, zas_z, zan_eq, Option.toList_some, Option.toList_none, List.cons_append, List.nil_append, if_true, if_false, ite_true, ite_false, true_or, or_true, zc0, znI_lt, znI_le, zbyte, if_pos, if_neg]
  · simp (disch := omega) only [e21_0, e21_1, e21_4, e21_5, e21_6, e21_9, e21_12, e21_13, e21_16, e21_17, e21_18, e21_21, e21_22, e21_25, e21_27, h1, h2, zg4_0, zp4_0, zg4_1, zp4_1, zrc_eq, zup_s, zup_n, zup_up, zal_i, zal_b, zal_z, zas_i, zas_b, zas_z, zan_eq, Option.toList_some, Option.toList_none, List.cons_append, List.nil_append, if_true, if_false, ite_true, ite_false, true_or, or_true, zc0, znI_lt, znI_le, zbyte, if_pos, if_neg]
/-- n bytes of v behind, the highest first -/
def zapp (v : Int64) : Nat → Nat → (Nat → Int32) → (Nat → Int32)
  | 0, _, tx => tx
  | n + 1, len, tx => zapp v n (len + 1) (upd tx len ((v >>> ((nI 8 * nI n).toInt64 &&& 63)).toInt32.toInt8.toInt32))
theorem c14_loop {s : Nat} {v : Int64} {l1 : Option Value} : ∀ (n len : Nat) (tx : Nat → Int32) (h : zH), pScr h s len tx → len + n ≤ 400 → n ≤ 8 → (∀ h', pScr h' s (len + n) (zapp v n len tx) → zfr (fun a => a = s ∨ a = s + 1) h h' → Q none N h') → zE X 14 5 [some (.ref s), l1, some (.long v), none, some (.int (nI n - 1))] [] (N, 0, 0) h Q := by
  intro n
  induction n with
  | zero =>
    intro len tx h hs _ _ k
    rw [show (nI 0 - 1 : Int32) = -1 from by decide, e14_5]
    simp only [e14_0, e14_1, e14_2, e14_3, e14_7, e14_10, e14_11, e14_14, e14_17, e14_20, e14_21, e14_24, e14_25, e14_28, e14_29, e14_31, e14_33, e14_34, e14_35, e14_36, e14_37, e14_38, e14_39, e14_40, e14_43, e14_44, e14_45, e14_48, e14_51, e14_54, show (-1 : Int32) < 0 from by decide, if_true]
    exact k h hs zfr.rf
  | succ n ih =>
    intro len tx h hs hl hn k
    obtain ⟨h1, h2, h3⟩ := hs
    rw [nI_pred, e14_5]
    simp (disch := omega) only [e14_0, e14_1, e14_2, e14_3, e14_7, e14_10, e14_11, e14_14, e14_17, e14_20, e14_21, e14_24, e14_25, e14_28, e14_29, e14_31, e14_33, e14_34, e14_35, e14_36, e14_37, e14_38, e14_39, e14_40, e14_43, e14_44, e14_45, e14_48, e14_51, e14_54, h1, h2, zg4_0, zp4_0, zg4_1, zp4_1, zrc_eq, zup_s, zup_n, zup_up, zal_i, zal_b, zal_z, zas_i, zas_b, zas_z, zan_eq, Option.toList_some, Option.toList_none, List.cons_append, List.nil_append, if_true, if_false, ite_true, ite_false, true_or, or_true, zc0, zc8, zc400, znI_lt, znI_le, if_neg]
    sorry
end C15
