-- the reader: items, the whole text
section C21
variable {X : Nat × (Nat → Int32)} {N : Nat} {h : zH} {Q : Option Value → Nat → zH → Prop}
/-- an item's numbers from a place on, m at most: the place behind the item, the numbers -/
def sItem (B : Nat → Nat) : Nat → Nat → List Nat → Option (Nat × List Nat)
  | 0, _, _ => none
  | m + 1, p, vs => if (sNum B 3 p 0).1 = p then none else if B (sNum B 3 p 0).1 = 59 then some ((sNum B 3 p 0).1 + 1, vs ++ [(sNum B 3 p 0).2]) else if B (sNum B 3 p 0).1 = 44 then sItem B m ((sNum B 3 p 0).1 + 1) (vs ++ [(sNum B 3 p 0).2]) else none
theorem pScr.kept {h h' : zH} {s len : Nat} {tx : Nat → Int32} (hs : pScr h s len tx) {P : Nat → Prop} (hf : zfr P h h') (h1 : ¬ P s) (h2 : ¬ P (s + 1)) : pScr h' s len tx := ⟨(hf s h1).trans hs.1, (hf (s + 1) h2).trans hs.2.1, hs.2.2⟩
theorem c20_loop {r s l len from_ : Nat} {tx : Nat → Int32} (hrs : r ≠ s ∧ r ≠ s + 1) : ∀ (m i p : Nat) (vs : List Nat) (h : zH) (l5 : Option Value), m + i = 3 → vs.length = i → pScr h s len tx → pRd h r l vs → p + 5 * m < 1000 →
    (sItem (bt tx len) m p vs = none → ∀ h' vs', pRd h' r l vs' → zfr (fun a => a = r) h h' → Q (some (.int (-4))) N h') →
    (∀ nx vs', sItem (bt tx len) m p vs = some (nx, vs') → ∀ h', pRd h' r l vs' → zfr (fun a => a = r) h h' → Q (some (.int (nI nx))) N h') →
    zE X 20 21 [some (.ref r), some (.ref s), some (.int (nI from_)), some (.int (nI p)), some (.int (nI i)), l5] [] (N, 0, 0) h Q := by
  intro m
  induction m with
  | zero =>
    intro i p vs h l5 hi hvs hs hr hp k0 k1
    rw [e20_21]
    simp (disch := omega) only [e20_0, e20_1, e20_2, e20_3, e20_6, e20_9, e20_10, e20_11, e20_14, e20_15, e20_16, e20_17, e20_18, e20_19, e20_23, e20_24, e20_27, e20_28, e20_29, e20_30, e20_33, e20_34, e20_35, e20_37, e20_40, e20_42, e20_43, e20_44, e20_45, e20_48, e20_50, e20_53, e20_55, e20_57, e20_60, e20_61, e20_62, e20_64, e20_66, e20_69, e20_71, e20_72, e20_75, e20_78, e20_80, zc3, znI_le, if_pos]
    exact k0 rfl h vs hr zfr.rf
  | succ m ih =>
    intro i p vs h l5 hi hvs hs hr hp k0 k1
    have hq := sNum_le (bt tx len) 3 p 0
    have h1 : ∃ fs, h r = .inr (1, fs) := by obtain ⟨a, b, c, -, -, -, h1, -⟩ := hr; exact ⟨_, h1⟩
    obtain ⟨fs, h1⟩ := h1
    rw [e20_21]
    simp (disch := omega) only [e20_0, e20_1, e20_2, e20_3, e20_6, e20_9, e20_10, e20_11, e20_14, e20_15, e20_16, e20_17, e20_18, e20_19, e20_23, e20_24, e20_27, e20_28, e20_29, e20_30, e20_33, e20_34, e20_35, e20_37, e20_40, e20_42, e20_43, e20_44, e20_45, e20_48, e20_50, e20_53, e20_55, e20_57, e20_60, e20_61, e20_62, e20_64, e20_66, e20_69, e20_71, e20_72, e20_75, e20_78, e20_80, zc3, znI_le, if_neg, h1, zrc_eq, zup_s, zup_n, zup_up, zal_i, zal_b, zal_z, zas_i, zas_b, zas_z, zan_eq, Option.toList_some, Option.toList_none, List.cons_append, List.nil_append, if_true, if_false, ite_true, ite_false, true_or, or_true]
    rw [sItem] at k0 k1
    refine c22 hs hr (by omega) (by omega) (fun g => ?_) (fun g h' hr' hf => ?_)
    · rw [if_pos g] at k0
      simp (disch := omega) only [e20_0, e20_1, e20_2, e20_3, e20_6, e20_9, e20_10, e20_11, e20_14, e20_15, e20_16, e20_17, e20_18, e20_19, e20_23, e20_24, e20_27, e20_28, e20_29, e20_30, e20_33, e20_34, e20_35, e20_37, e20_40, e20_42, e20_43, e20_44, e20_45, e20_48, e20_50, e20_53, e20_55, e20_57, e20_60, e20_61, e20_62, e20_64, e20_66, e20_69, e20_71, e20_72, e20_75, e20_78, e20_80, zrc_eq, zup_s, zup_n, zup_up, zal_i, zal_b, zal_z, zas_i, zas_b, zas_z, zan_eq, Option.toList_some, Option.toList_none, List.cons_append, List.nil_append, if_true, if_false, ite_true, ite_false, true_or, or_true]
      exact k0 rfl h vs hr zfr.rf
    · rw [if_neg g] at k0 k1
      have hs' := hs.kept hf (by omega) (by omega)
      have ne4 : (nI (sNum (bt tx len) 3 p 0).1 = -4) = False := by
        apply eq_false
        intro q
        have := congrArg Int32.toInt q
        rw [nI_toInt (by omega)] at this
        have e : ((-4 : Int32)).toInt = -4 := rfl
        omega
      have h1' := hs'.1
      simp (disch := omega) only [e20_0, e20_1, e20_2, e20_3, e20_6, e20_9, e20_10, e20_11, e20_14, e20_15, e20_16, e20_17, e20_18, e20_19, e20_23, e20_24, e20_27, e20_28, e20_29, e20_30, e20_33, e20_34, e20_35, e20_37, e20_40, e20_42, e20_43, e20_44, e20_45, e20_48, e20_50, e20_53, e20_55, e20_57, e20_60, e20_61, e20_62, e20_64, e20_66, e20_69, e20_71, e20_72, e20_75, e20_78, e20_80, zrc_eq, zup_s, zup_n, zup_up, zal_i, zal_b, zal_z, zas_i, zas_b, zas_z, zan_eq, Option.toList_some, Option.toList_none, List.cons_append, List.nil_append, if_true, if_false, ite_true, ite_false, true_or, or_true, ne4, h1', c21 hs', zc1, zc44, zc59, bt_eq, nI_add]
      by_cases g1 : bt tx len (sNum (bt tx len) 3 p 0).1 = 59
      · rw [if_pos g1] at k1 ⊢
        exact k1 _ _ rfl h' hr' hf
      · rw [if_neg g1] at k0 k1 ⊢
        by_cases g2 : bt tx len (sNum (bt tx len) 3 p 0).1 = 44
        · rw [if_pos g2] at k0 k1 ⊢
          exact ih (i + 1) _ _ h' _ (by omega) (by simp [hvs]) hs' hr' (by omega) (fun q h2 vs2 a1 a2 => k0 q h2 vs2 a1 (hf.tr a2)) (fun nx vs2 q h2 a1 a2 => k1 nx vs2 q h2 a1 (hf.tr a2))
        · rw [if_neg g2] at k0 k1 ⊢
          exact k0 rfl h' _ hr' hf
theorem c20 {r s l len p : Nat} {tx : Nat → Int32} {vs : List Nat} (hrs : r ≠ s ∧ r ≠ s + 1) (hs : pScr h s len tx) (hr : pRd h r l vs) (hp : p < len)
    (k0 : sItem (bt tx len) 3 (p + 1) [] = none → ∀ h' vs', pRd h' r (bt tx len p) vs' → zfr (fun a => a = r) h h' → Q (some (.int (-4))) N h')
    (k1 : ∀ nx vs', sItem (bt tx len) 3 (p + 1) [] = some (nx, vs') → ∀ h', pRd h' r (bt tx len p) vs' → zfr (fun a => a = r) h h' → Q (some (.int (nI nx))) N h') : zE X 20 0 [some (.ref r), some (.ref s), some (.int (nI p)), none, none, none] [] (N, 0, 0) h Q := by
  have hs0 := hs
  obtain ⟨a, b, c, ha, hb, hc, h1, -⟩ := hr
  have h400 := hs.2.2
  have hsc := hs.1
  obtain ⟨b1, b2⟩ := bt_byte (tx := tx) hp
  simp (disch := omega) only [e20_0, e20_1, e20_2, e20_3, e20_6, e20_9, e20_10, e20_11, e20_14, e20_15, e20_16, e20_17, e20_18, e20_19, e20_23, e20_24, e20_27, e20_28, e20_29, e20_30, e20_33, e20_34, e20_35, e20_37, e20_40, e20_42, e20_43, e20_44, e20_45, e20_48, e20_50, e20_53, e20_55, e20_57, e20_60, e20_61, e20_62, e20_64, e20_66, e20_69, e20_71, e20_72, e20_75, e20_78, e20_80, hsc, h1, c21 hs, b1, zg1_0, zp1_0, zg1_1, zp1_1, zg1_2, zp1_2, zg1_3, zp1_3, zg1_4, zp1_4, zrc_eq, zup_s, zup_n, zup_up, zal_i, zal_b, zal_z, zas_i, zas_b, zas_z, zan_eq, Option.toList_some, Option.toList_none, List.cons_append, List.nil_append, if_true, if_false, ite_true, ite_false, true_or, or_true, zc0, zc1, nI_add]
  refine c20_loop hrs 3 0 (p + 1) [] _ none (by omega) rfl (hs0.kept (P := fun a => a = r) (zfr.up rfl zfr.rf) (by omega) (by omega)) ⟨a, b, c, ha, hb, hc, zup_s, fun x q => by simp at q, fun x q => by simp at q, fun x q => by simp at q⟩ (by omega) (fun q h' vs' a1 a2 => k0 q h' vs' a1 (zfr.up rfl a2)) (fun nx vs' q h' a1 a2 => k1 nx vs' q h' a1 (zfr.up rfl a2))
end C21
