-- the script: bytes, append, write, wipe
section C15
variable {X : Nat × (Nat → Int32)} {N : Nat} {h : zH} {Q : Option Value → Nat → zH → Prop}
theorem zb8 (z : Int32) : z.toInt8.toInt32.toInt8.toInt32 = z.toInt8.toInt32 := by
  have := pk_vb z
  rwa [vp_nar_byte] at this
/-- a byte as 0 to 255, or -4 behind the end -/
def zbyte (tx : Nat → Int32) (len k : Nat) : Int32 := if k < len then tx k &&& 255 else -4
/-- the script's cells -/
def pScr (h : zH) (s len : Nat) (tx : Nat → Int32) : Prop := h s = .inr (4, [.ref (s + 1), .int (nI len)]) ∧ h (s + 1) = .inl (.byte, 400, tx) ∧ len ≤ 400
theorem c21 {s len k : Nat} {tx : Nat → Int32} (hs : pScr h s len tx) (hk : k < 2 ^ 31) : zE X 21 0 [some (.ref s), some (.int (nI k))] [] (N, 0, 0) h Q = Q (some (.int (zbyte tx len k))) N h := by
  obtain ⟨h1, h2, h3⟩ := hs
  by_cases hl : k < len
  · simp (disch := omega) only [e21_0, e21_1, e21_4, e21_5, e21_6, e21_9, e21_12, e21_13, e21_16, e21_17, e21_18, e21_21, e21_22, e21_25, e21_27, h1, h2, zg4_0, zp4_0, zg4_1, zp4_1, zrc_eq, zup_s, zup_n, zup_up, zal_i, zal_b, zal_z, zas_i, zas_b, zas_z, zan_eq, Option.toList_some, Option.toList_none, List.cons_append, List.nil_append, if_true, if_false, ite_true, ite_false, true_or, or_true, zc0, znI_lt, znI_le, zbyte, if_pos, if_neg]
  · simp (disch := omega) only [e21_0, e21_1, e21_4, e21_5, e21_6, e21_9, e21_12, e21_13, e21_16, e21_17, e21_18, e21_21, e21_22, e21_25, e21_27, h1, h2, zg4_0, zp4_0, zg4_1, zp4_1, zrc_eq, zup_s, zup_n, zup_up, zal_i, zal_b, zal_z, zas_i, zas_b, zas_z, zan_eq, Option.toList_some, Option.toList_none, List.cons_append, List.nil_append, if_true, if_false, ite_true, ite_false, true_or, or_true, zc0, znI_lt, znI_le, zbyte, if_pos, if_neg]
/-- n bytes of v behind, the highest first -/
def zapp (v : Int64) : Nat → Nat → (Nat → Int32) → (Nat → Int32)
  | 0, _, tx => tx
  | n + 1, len, tx => zapp v n (len + 1) (upd tx len ((v >>> ((nI 8 * nI n).toInt64 &&& 63)).toInt32.toInt8.toInt32))
theorem c14_loop {s : Nat} {v : Int64} {l1 : Option Value} : ∀ (n len : Nat) (tx : Nat → Int32) (h : zH), pScr h s len tx → len + n ≤ 400 → n ≤ 8 → (∀ h', pScr h' s (len + n) (zapp v n len tx) → zfr (fun a => a = s ∨ a = s + 1) h h' → Q none N h') → zE X 14 5 [some (.ref s), l1, some (.long v), none, some (.int (nI n - 1))] [] (N, 0, 0) h Q := by
  intro n
  induction n with
  | zero =>
    intro len tx h hs _ _ k
    rw [show (nI 0 - 1 : Int32) = -1 from by decide, e14_5]
    simp only [e14_0, e14_1, e14_2, e14_3, e14_7, e14_10, e14_11, e14_14, e14_17, e14_20, e14_21, e14_24, e14_25, e14_28, e14_29, e14_31, e14_33, e14_34, e14_35, e14_36, e14_37, e14_38, e14_39, e14_40, e14_43, e14_44, e14_45, e14_48, e14_51, e14_54, show (-1 : Int32) < 0 from by decide, if_true]
    exact k h hs zfr.rf
  | succ n ih =>
    intro len tx h hs hl hn k
    obtain ⟨h1, h2, h3⟩ := hs
    rw [nI_pred, e14_5]
    simp (disch := omega) only [e14_0, e14_1, e14_2, e14_3, e14_7, e14_10, e14_11, e14_14, e14_17, e14_20, e14_21, e14_24, e14_25, e14_28, e14_29, e14_31, e14_33, e14_34, e14_35, e14_36, e14_37, e14_38, e14_39, e14_40, e14_43, e14_44, e14_45, e14_48, e14_51, e14_54, h1, h2, zg4_0, zp4_0, zg4_1, zp4_1, zrc_eq, zup_s, zup_n, zup_up, zal_i, zal_b, zal_z, zas_i, zas_b, zas_z, zan_eq, Option.toList_some, Option.toList_none, List.cons_append, List.nil_append, if_true, if_false, ite_true, ite_false, true_or, or_true, zc0, zc8, zc400, znI_lt, znI_le, if_neg]
    rw [zb8, nI_1, show nI n + -1 = nI n - 1 from (Int32.sub_eq_add_neg ..).symm]
    refine ih (len + 1) _ _ ⟨zup_s, by rw [zup_n (by omega), zup_s], by omega⟩ (by omega) (by omega) (fun h' hp hf => k h' ?_ (zfr.up (Or.inr rfl) (zfr.up (Or.inl rfl) hf)))
    rw [show len + (n + 1) = len + 1 + n by omega]
    exact hp
theorem c14 {s n len : Nat} {v : Int64} {tx : Nat → Int32} (hs : pScr h s len tx) (hl : len + n ≤ 400) (hn : n ≤ 8) (k : ∀ h', pScr h' s (len + n) (zapp v n len tx) → zfr (fun a => a = s ∨ a = s + 1) h h' → Q none N h') : zE X 14 0 [some (.ref s), some (.int (nI n)), some (.long v), none, none] [] (N, 0, 0) h Q := by
  simp only [e14_0, e14_1, e14_2, e14_3, e14_7, e14_10, e14_11, e14_14, e14_17, e14_20, e14_21, e14_24, e14_25, e14_28, e14_29, e14_31, e14_33, e14_34, e14_35, e14_36, e14_37, e14_38, e14_39, e14_40, e14_43, e14_44, e14_45, e14_48, e14_51, e14_54]
  exact c14_loop n len tx h hs hl hn k
/-- the object of the class -/
def pObj (ld dr : Nat) (kp : Int32) : zC := .inr (9, [.ref 1, .ref 3, .ref ld, .ref dr, .ref 20, .ref 21, .ref 25, .ref 29, .ref 33, .int kp, .ref 37, .ref 41, .ref 45, .ref 48, .ref 49, .ref 50, .ref 52])
theorem c12 {ld dr len : Nat} {kp n : Int32} {v : Int64} {tx : Nat → Int32} (h0 : h 0 = pObj ld dr kp) (hs : pScr h 1 len tx)
    (k1 : ∀ r, (r = -1 ∧ ¬ (1 ≤ n ∧ n ≤ 8)) ∨ (r = -3 ∧ (1 ≤ n ∧ n ≤ 8) ∧ 400 < len + n.toNatClampNeg) → Q (some (.int r)) N h)
    (k2 : ∀ (j : Nat) h', 1 ≤ j → j ≤ 8 → n = nI j → len + j ≤ 400 → pScr h' 1 (len + j) (zapp v j len tx) → zfr (fun a => a = 1 ∨ a = 2) h h' → Q (some (.int (nI (len + j)))) N h') : zE X 12 0 [some (.ref 0), some (.int n), some (.long v), none] [] (N, 0, 0) h Q := by
  have hs0 := hs
  obtain ⟨h1, h2, h3⟩ := hs
  unfold pObj at h0
  by_cases hn : 1 ≤ n ∧ n ≤ 8
  · obtain ⟨j, hj1, hj8, rfl⟩ := zrange (lo := 1) (hi := 8) (by decide) hn.1 hn.2 (by decide)
    simp (disch := omega) only [e12_0, e12_1, e12_2, e12_4, e12_7, e12_10, e12_11, e12_12, e12_13, e12_16, e12_19, e12_20, e12_21, e12_24, e12_27, e12_29, e12_30, e12_31, e12_34, e12_35, e12_36, e12_39, e12_40, e12_43, e12_46, c13, hn, h0, h1, zg9_0, zp9_0, zg9_1, zp9_1, zg9_2, zp9_2, zg9_3, zp9_3, zg9_4, zp9_4, zg9_5, zp9_5, zg9_6, zp9_6, zg9_7, zp9_7, zg9_8, zp9_8, zg9_9, zp9_9, zg9_10, zp9_10, zg9_11, zp9_11, zg9_12, zp9_12, zg9_13, zp9_13, zg9_14, zp9_14, zg9_15, zp9_15, zg9_16, zp9_16, zg4_0, zp4_0, zg4_1, zp4_1, zrc_eq, zup_s, zup_n, zup_up, zal_i, zal_b, zal_z, zas_i, zas_b, zas_z, zan_eq, Option.toList_some, Option.toList_none, List.cons_append, List.nil_append, if_true, if_false, ite_true, ite_false, true_or, or_true, zc400, and_self, nI_add, znI_le, z10]
    by_cases hl : len + j ≤ 400
    · rw [if_pos hl]
      refine c14 hs0 hl hj8 (fun h' hp hf => ?_)
      have e0 : h' 0 = h 0 := hf 0 (by omega)
      obtain ⟨g1, g2, g3⟩ := hp
      simp (disch := omega) only [e12_0, e12_1, e12_2, e12_4, e12_7, e12_10, e12_11, e12_12, e12_13, e12_16, e12_19, e12_20, e12_21, e12_24, e12_27, e12_29, e12_30, e12_31, e12_34, e12_35, e12_36, e12_39, e12_40, e12_43, e12_46, e0, h0, g1, zg9_0, zp9_0, zg9_1, zp9_1, zg9_2, zp9_2, zg9_3, zp9_3, zg9_4, zp9_4, zg9_5, zp9_5, zg9_6, zp9_6, zg9_7, zp9_7, zg9_8, zp9_8, zg9_9, zp9_9, zg9_10, zp9_10, zg9_11, zp9_11, zg9_12, zp9_12, zg9_13, zp9_13, zg9_14, zp9_14, zg9_15, zp9_15, zg9_16, zp9_16, zg4_0, zp4_0, zg4_1, zp4_1, zrc_eq, zup_s, zup_n, zup_up, zal_i, zal_b, zal_z, zas_i, zas_b, zas_z, zan_eq, Option.toList_some, Option.toList_none, List.cons_append, List.nil_append, if_true, if_false, ite_true, ite_false, true_or, or_true]
      exact k2 j h' hj1 hj8 rfl hl ⟨g1, g2, g3⟩ hf
    · rw [if_neg hl]
      exact k1 _ (Or.inr ⟨rfl, hn, by rw [nI_clamp (by omega)]; omega⟩)
  · simp only [e12_0, e12_1, e12_2, e12_4, e12_7, e12_10, e12_11, e12_12, e12_13, e12_16, e12_19, e12_20, e12_21, e12_24, e12_27, e12_29, e12_30, e12_31, e12_34, e12_35, e12_36, e12_39, e12_40, e12_43, e12_46, c13, hn, zrc_eq, zup_s, zup_n, zup_up, zal_i, zal_b, zal_z, zas_i, zas_b, zas_z, zan_eq, Option.toList_some, Option.toList_none, List.cons_append, List.nil_append, if_true, if_false, ite_true, ite_false, true_or, or_true, z00]
    exact k1 _ (Or.inl ⟨rfl, hn⟩)
theorem c15 {ld dr len : Nat} {kp : Int32} {tx : Nat → Int32} (h0 : h 0 = pObj ld dr kp) (hs : pScr h 1 len tx) (k : ∀ h', pScr h' 1 0 tx → zfr (fun a => a = 1) h h' → Q (some (.int (nI len))) N h') : zE X 15 0 [some (.ref 0), none] [] (N, 0, 0) h Q := by
  obtain ⟨h1, h2, h3⟩ := hs
  unfold pObj at h0
  simp (disch := omega) only [e15_0, e15_1, e15_4, e15_7, e15_8, e15_9, e15_12, e15_13, e15_16, e15_17, h0, h1, zg9_0, zp9_0, zg9_1, zp9_1, zg9_2, zp9_2, zg9_3, zp9_3, zg9_4, zp9_4, zg9_5, zp9_5, zg9_6, zp9_6, zg9_7, zp9_7, zg9_8, zp9_8, zg9_9, zp9_9, zg9_10, zp9_10, zg9_11, zp9_11, zg9_12, zp9_12, zg9_13, zp9_13, zg9_14, zp9_14, zg9_15, zp9_15, zg9_16, zp9_16, zg4_0, zp4_0, zg4_1, zp4_1, zrc_eq, zup_s, zup_n, zup_up, zal_i, zal_b, zal_z, zas_i, zas_b, zas_z, zan_eq, Option.toList_some, Option.toList_none, List.cons_append, List.nil_append, if_true, if_false, ite_true, ite_false, true_or, or_true]
  exact k _ ⟨zup_s, by rw [zup_n (by omega)]; exact h2, by omega⟩ (zfr.up rfl zfr.rf)
end C15
