-- lay, of the class
section C30
variable {X : Nat × (Nat → Int32)} {N : Nat} {h : zH} {Q : Option Value → Nat → zH → Prop}
theorem sAll_lt {B : Nat → Nat} {len : Nat} : ∀ (f p : Nat) (S : zSh) (q : Nat), (sAll B len f p S).1 = some q → q < len
  | 0, p, S, q, h => by cases h
  | f + 1, p, S, q, h => by
    rw [sAll_mIt] at h
    split at h
    · next hp =>
      split at h
      · cases h; exact hp
      · exact sAll_lt f _ _ q h
    · cases h
theorem sFl_eq {o : Option Nat} (ho : ∀ q, o = some q → q < 2 ^ 31) : (sFl o = -4) = (o = none) := by
  cases o with
  | none => simp [sFl]
  | some q =>
    apply propext
    constructor
    · intro e
      have := congrArg Int32.toInt e
      rw [sFl, nI_toInt (ho q rfl)] at this
      have e : ((-4 : Int32)).toInt = -4 := rfl
      omega
    · intro e; cases e
theorem c32 {ld dr len l : Nat} {vs : List Nat} {Sd : zSh} {kp : Int32} {tx la : Nat → Int32} {T : zTm} (h0 : h 0 = pObj ld dr kp) (hd : (ld = 4 ∧ dr = 12) ∨ (ld = 12 ∧ dr = 4)) (hs : pScr h 1 len tx) (hr : pRd h 3 l vs) (hl : l < 256) (hsh : pSh h dr Sd) (ht : pTm h 21 T) (hla : h 20 = .inl (.int, 24, la))
    (k0 : (sAll (bt tx len) len 400 0 (sClr Sd)).1 ≠ none → ∀ h' l' vs', l' < 256 → pRd h' 3 l' vs' → pSh h' dr (sAll (bt tx len) len 400 0 (sClr Sd)).2 → zfr (fun a => a = 3 ∨ (dr ≤ a ∧ a ≤ dr + 7)) h h' → Q (some (.int (-2))) N h')
    (k1 : (sAll (bt tx len) len 400 0 (sClr Sd)).1 = none → ∀ h' l' vs' la', l' < 256 → pRd h' 3 l' vs' → h' 0 = pObj dr ld 0 → pSh h' dr (sAll (bt tx len) len 400 0 (sClr Sd)).2 → pTm h' 21 ((sAll (bt tx len) len 400 0 (sClr Sd)).2.2.2.2.2.1, fun _ => 0, fun _ => 0, 0, 0) → h' 20 = .inl (.int, 24, la') → (∀ j, j < 24 → la' j = 0) → zfr (fun a => a = 0 ∨ a = 3 ∨ (20 ≤ a ∧ a ≤ 24) ∨ (dr ≤ a ∧ a ≤ dr + 7)) h h' → Q (some (.int (nI (sAll (bt tx len) len 400 0 (sClr Sd)).2.1.1))) N h') :
    zE X 32 0 [some (.ref 0), none] [] (N, 0, 0) h Q := by
  have h2 : ∃ fs, h 3 = .inr (1, fs) := by obtain ⟨a, b, c, -, -, -, h1, -⟩ := hr; exact ⟨_, h1⟩
  obtain ⟨fs, h2⟩ := h2
  have h0' := h0
  unfold pObj at h0
  have hlen := hs.2.2
  simp (disch := omega) only [e32_0, e32_1, e32_4, e32_5, e32_8, e32_9, e32_12, e32_15, e32_17, e32_20, e32_22, e32_23, e32_24, e32_27, e32_28, e32_29, e32_30, e32_33, e32_36, e32_37, e32_38, e32_41, e32_42, e32_45, e32_46, e32_49, e32_52, e32_53, e32_56, e32_57, e32_60, e32_61, e32_62, e32_65, e32_66, e32_69, e32_72, h0, h2, zg9_0, zp9_0, zg9_1, zp9_1, zg9_2, zp9_2, zg9_3, zp9_3, zg9_4, zp9_4, zg9_5, zp9_5, zg9_6, zp9_6, zg9_7, zp9_7, zg9_8, zp9_8, zg9_9, zp9_9, zg9_10, zp9_10, zg9_11, zp9_11, zg9_12, zp9_12, zg9_13, zp9_13, zg9_14, zp9_14, zg9_15, zp9_15, zg9_16, zp9_16, zrc_eq, zup_s, zup_n, zup_up, zal_i, zal_b, zal_z, zas_i, zas_b, zas_z, zan_eq, Option.toList_some, Option.toList_none, List.cons_append, List.nil_append, if_true, if_false, ite_true, ite_false, true_or, or_true]
  refine c17 (by omega) (by omega) (by omega) hs hr hl hsh (fun h' l' vs' g1 g2 g3 g4 => ?_)
  have e0 := (g4 0 (by omega)).trans h0
  have et : pTm h' 21 T := ht.kept g4 (by omega)
  have ela := (g4 20 (by omega)).trans hla
  have eq4 := sFl_eq (o := (sAll (bt tx len) len 400 0 (sClr Sd)).1) (fun q hq => by have := sAll_lt _ _ _ _ hq; omega)
  simp (disch := omega) only [e32_0, e32_1, e32_4, e32_5, e32_8, e32_9, e32_12, e32_15, e32_17, e32_20, e32_22, e32_24, e32_27, e32_28, e32_29, e32_30, e32_33, e32_36, e32_37, e32_38, e32_41, e32_42, e32_45, e32_46, e32_49, e32_52, e32_53, e32_56, e32_57, e32_60, e32_61, e32_62, e32_65, e32_66, e32_69, e32_72, zrc_eq, zup_s, zup_n, zup_up, zal_i, zal_b, zal_z, zas_i, zas_b, zas_z, zan_eq, Option.toList_some, Option.toList_none, List.cons_append, List.nil_append, if_true, if_false, ite_true, ite_false, true_or, or_true, eq4]
  by_cases g : (sAll (bt tx len) len 400 0 (sClr Sd)).1 = none
  · rw [if_pos g]
    have et1 : ∃ fs, h' 21 = .inr (8, fs) := by obtain ⟨f, g, e, h1, -⟩ := et; exact ⟨_, h1⟩
    obtain ⟨fs1, et1⟩ := et1
    simp (disch := omega) only [e32_0, e32_1, e32_4, e32_5, e32_8, e32_9, e32_12, e32_15, e32_17, e32_20, e32_22, e32_23, e32_24, e32_27, e32_28, e32_29, e32_30, e32_33, e32_36, e32_37, e32_38, e32_41, e32_42, e32_45, e32_46, e32_49, e32_52, e32_53, e32_56, e32_57, e32_60, e32_61, e32_62, e32_65, e32_66, e32_69, e32_72, e0, et1, zg9_0, zp9_0, zg9_1, zp9_1, zg9_2, zp9_2, zg9_3, zp9_3, zg9_4, zp9_4, zg9_5, zp9_5, zg9_6, zp9_6, zg9_7, zp9_7, zg9_8, zp9_8, zg9_9, zp9_9, zg9_10, zp9_10, zg9_11, zp9_11, zg9_12, zp9_12, zg9_13, zp9_13, zg9_14, zp9_14, zg9_15, zp9_15, zg9_16, zp9_16, zrc_eq, zup_s, zup_n, zup_up, zal_i, zal_b, zal_z, zas_i, zas_b, zas_z, zan_eq, Option.toList_some, Option.toList_none, List.cons_append, List.nil_append, if_true, if_false, ite_true, ite_false, true_or, or_true]
    have f1 : zfr (fun a => a = 0) h' (va_up h' 0 (.inr (9, [.ref 1, .ref 3, .ref dr, .ref ld, .ref 20, .ref 21, .ref 25, .ref 29, .ref 33, .int kp, .ref 37, .ref 41, .ref 45, .ref 48, .ref 49, .ref 50, .ref 52]))) := zfr.up rfl zfr.rf
    refine c33 (by omega) (g3.kept f1 (by omega)) (et.kept f1 (by omega)) (fun h5 a1 a2 => ?_)
    have e5 := (a2 0 (by omega)).trans zup_s
    have ela5 := (a2 20 (by omega)).trans ((f1 20 (by omega)).trans ela)
    simp (disch := omega) only [e32_0, e32_1, e32_4, e32_5, e32_8, e32_9, e32_12, e32_15, e32_17, e32_20, e32_22, e32_23, e32_24, e32_27, e32_28, e32_29, e32_30, e32_33, e32_36, e32_37, e32_38, e32_41, e32_42, e32_45, e32_46, e32_49, e32_52, e32_53, e32_56, e32_57, e32_60, e32_61, e32_62, e32_65, e32_66, e32_69, e32_72, e5, zg9_0, zp9_0, zg9_1, zp9_1, zg9_2, zp9_2, zg9_3, zp9_3, zg9_4, zp9_4, zg9_5, zp9_5, zg9_6, zp9_6, zg9_7, zp9_7, zg9_8, zp9_8, zg9_9, zp9_9, zg9_10, zp9_10, zg9_11, zp9_11, zg9_12, zp9_12, zg9_13, zp9_13, zg9_14, zp9_14, zg9_15, zp9_15, zg9_16, zp9_16, zrc_eq, zup_s, zup_n, zup_up, zal_i, zal_b, zal_z, zas_i, zas_b, zas_z, zan_eq, Option.toList_some, Option.toList_none, List.cons_append, List.nil_append, if_true, if_false, ite_true, ite_false, true_or, or_true]
    refine c19 (n := 24) (by decide) ela5 (fun h6 b1 b2 => ?_)
    have e6 := (b2 0 (by omega)).trans e5
    have g36 : pSh h6 dr (sAll (bt tx len) len 400 0 (sClr Sd)).2 := ((g3.kept f1 (by omega)).kept a2 (by omega)).kept b2 (by omega)
    have f7 : zfr (fun a => a = 0) h6 (va_up h6 0 (.inr (9, [.ref 1, .ref 3, .ref dr, .ref ld, .ref 20, .ref 21, .ref 25, .ref 29, .ref 33, .int 0, .ref 37, .ref 41, .ref 45, .ref 48, .ref 49, .ref 50, .ref 52]))) := zfr.up rfl zfr.rf
    have s1 : ∃ v1 v2 v3 v4 v5 v6 v7 v8 v9 v10 v11 v12 v13 v14 v15, h6 dr = .inr (5, [.int (nI (sAll (bt tx len) len 400 0 (sClr Sd)).2.1.1), v1, v2, v3, v4, v5, v6, v7, v8, v9, v10, v11, v12, v13, v14, v15]) := by
      generalize (sAll (bt tx len) len 400 0 (sClr Sd)).2 = S at g36
      obtain ⟨⟨np, wo, sa, au⟩, ⟨nj, le, fo, ro⟩, ⟨pa, pb, pc⟩, ⟨co, hx, hy⟩, hf, pt⟩ := S
      exact ⟨_, _, _, _, _, _, _, _, _, _, _, _, _, _, _, g36.1⟩
    obtain ⟨v1, v2, v3, v4, v5, v6, v7, v8, v9, v10, v11, v12, v13, v14, v15, s1⟩ := s1
    simp (disch := omega) only [e32_0, e32_1, e32_4, e32_5, e32_8, e32_9, e32_12, e32_15, e32_17, e32_20, e32_22, e32_23, e32_24, e32_27, e32_28, e32_29, e32_30, e32_33, e32_36, e32_37, e32_38, e32_41, e32_42, e32_45, e32_46, e32_49, e32_52, e32_53, e32_56, e32_57, e32_60, e32_61, e32_62, e32_65, e32_66, e32_69, e32_72, e6, s1, zg9_0, zp9_0, zg9_1, zp9_1, zg9_2, zp9_2, zg9_3, zp9_3, zg9_4, zp9_4, zg9_5, zp9_5, zg9_6, zp9_6, zg9_7, zp9_7, zg9_8, zp9_8, zg9_9, zp9_9, zg9_10, zp9_10, zg9_11, zp9_11, zg9_12, zp9_12, zg9_13, zp9_13, zg9_14, zp9_14, zg9_15, zp9_15, zg9_16, zp9_16, zg5_0, zp5_0, zg5_1, zp5_1, zg5_2, zp5_2, zg5_3, zp5_3, zg5_4, zp5_4, zg5_5, zp5_5, zg5_6, zp5_6, zg5_7, zp5_7, zg5_8, zp5_8, zg5_9, zp5_9, zg5_10, zp5_10, zg5_11, zp5_11, zg5_12, zp5_12, zg5_13, zp5_13, zg5_14, zp5_14, zg5_15, zp5_15, zrc_eq, zup_s, zup_n, zup_up, zal_i, zal_b, zal_z, zas_i, zas_b, zas_z, zan_eq, Option.toList_some, Option.toList_none, List.cons_append, List.nil_append, if_true, if_false, ite_true, ite_false, true_or, or_true]
    refine k1 g _ l' vs' _ g1 ((((g2.kept f1 (by omega)).kept a2 (by omega)).kept b2 (by omega)).kept f7 (by omega)) zup_s (g36.kept f7 (by omega)) ((a1.kept b2 (by omega)).kept f7 (by omega)) ((f7 20 (by omega)).trans b1) (fun j hj => if_pos hj) ?_
    exact ((((g4.mono (fun a ha => by omega)).tr (f1.mono (fun a ha => by omega))).tr (a2.mono (fun a ha => by omega))).tr (b2.mono (fun a ha => by omega))).tr (f7.mono (fun a ha => by omega))
  · rw [if_neg g]
    exact k0 g h' l' vs' g1 g2 g3 g4
end C30
