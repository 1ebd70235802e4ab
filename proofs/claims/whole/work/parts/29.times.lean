-- what years change
section C29
variable {X : Nat × (Nat → Int32)} {N : Nat} {h : zH} {Q : Option Value → Nat → zH → Prop}
/-- had, running, gone (0 or 1), the year, brought -/
abbrev zTm : Type := (Nat → Int32) × (Nat → Int32) × (Nat → Int32) × Int32 × Int32
def pTm (h : zH) (t : Nat) (T : zTm) : Prop := ∃ f g e : Nat → Int32, h t = .inr (8, [.ref (t + 1), .ref (t + 2), .ref (t + 3), .int T.2.2.2.1, .int T.2.2.2.2]) ∧ h (t + 1) = .inl (.int, 8, f) ∧ h (t + 2) = .inl (.int, 8, g) ∧ h (t + 3) = .inl (.boolean, 8, e) ∧ ∀ w, w < 8 → f w = T.1 w ∧ g w = T.2.1 w ∧ e w = T.2.2.1 w ∧ (T.2.2.1 w = 0 ∨ T.2.2.1 w = 1)
theorem pTm.kept {h h' : zH} {t : Nat} {T : zTm} (ht : pTm h t T) {P : Nat → Prop} (hf : zfr P h h') (hP : ∀ a, t ≤ a → a ≤ t + 3 → ¬ P a) : pTm h' t T := by
  obtain ⟨f, g, e, h1, h2, h3, h4, h5⟩ := ht
  exact ⟨f, g, e, (hf _ (hP _ (by omega) (by omega))).trans h1, (hf _ (hP _ (by omega) (by omega))).trans h2, (hf _ (hP _ (by omega) (by omega))).trans h3, (hf _ (hP _ (by omega) (by omega))).trans h4, h5⟩
theorem c38 {t w : Nat} {T : zTm} (ht : pTm h t T) (hw : w < 8) : zE X 38 0 [some (.ref t), some (.int (nI w))] [] (N, 0, 0) h Q = Q (some (.int (T.1 w))) N h := by
  obtain ⟨f, g, e, h1, h2, h3, h4, h5⟩ := ht
  rw [← (h5 w hw).1]
  simp (disch := omega) only [e38_0, e38_1, e38_4, e38_5, e38_7, e38_10, e38_11, e38_14, e38_15, e38_16, e38_19, e38_20, h1, h2, zg8_0, zp8_0, zg8_1, zp8_1, zg8_2, zp8_2, zg8_3, zp8_3, zg8_4, zp8_4, zrc_eq, zup_s, zup_n, zup_up, zal_i, zal_b, zal_z, zas_i, zas_b, zas_z, zan_eq, Option.toList_some, Option.toList_none, List.cons_append, List.nil_append, if_true, if_false, ite_true, ite_false, true_or, or_true, zc0, zc8, znI_lt, znI_le, if_neg]
theorem c43 {t w : Nat} {T : zTm} (ht : pTm h t T) (hw : w < 8) : zE X 43 0 [some (.ref t), some (.int (nI w))] [] (N, 0, 0) h Q = if T.2.2.1 w = 0 then Q (some (.int 1)) N h else Q (some (.int 0)) N h := by
  obtain ⟨f, g, e, h1, h2, h3, h4, h5⟩ := ht
  rw [← (h5 w hw).2.2.1, e43_0]
  have e0 : (nI w < 0) = False := eq_false (nI_pos (by omega))
  simp (disch := omega) only [e43_0, e43_1, e43_4, e43_5, e43_7, e43_10, e43_11, e43_14, e43_15, e43_16, e43_19, e43_20, e43_23, e43_24, h1, h4, zg8_0, zp8_0, zg8_1, zp8_1, zg8_2, zp8_2, zg8_3, zp8_3, zg8_4, zp8_4, zrc_eq, zup_s, zup_n, zup_up, zal_i, zal_b, zal_z, zas_i, zas_b, zas_z, zan_eq, Option.toList_some, Option.toList_none, List.cons_append, List.nil_append, if_true, if_false, ite_true, ite_false, true_or, or_true, zc8, znI_le, if_neg, e0]
theorem z01 {x : Int32} (h : x = 0 ∨ x = 1) : x &&& 1 = x := by rcases h with rfl | rfl <;> rfl
theorem c33_loop {t sh : Nat} {S : zSh} {l2 : Option Value} {y b : Int32} (hst : t + 3 < sh ∨ sh + 7 < t) : ∀ (m i : Nat) (f g e : Nat → Int32) (h : zH), m + i = 8 → pSh h sh S → h t = .inr (8, [.ref (t + 1), .ref (t + 2), .ref (t + 3), .int y, .int b]) → h (t + 1) = .inl (.int, 8, f) → h (t + 2) = .inl (.int, 8, g) → h (t + 3) = .inl (.boolean, 8, e) → (∀ w, w < i → f w = S.2.2.2.2.1 w ∧ g w = 0 ∧ e w = 0) →
    (∀ h', pTm h' t (S.2.2.2.2.1, fun _ => 0, fun _ => 0, 0, 0) → zfr (fun a => t ≤ a ∧ a ≤ t + 3) h h' → Q none N h') → zE X 33 2 [some (.ref t), some (.ref sh), some (.int (nI i))] [] (N, 0, 0) h Q := by
  intro m
  induction m with
  | zero =>
    intro i f g e h hi hs h1 h2 h3 h4 h5 k
    obtain rfl : i = 8 := by omega
    rw [e33_2]
    simp (disch := omega) only [e33_0, e33_1, e33_3, e33_5, e33_8, e33_9, e33_12, e33_13, e33_14, e33_17, e33_18, e33_19, e33_20, e33_21, e33_24, e33_25, e33_26, e33_27, e33_28, e33_31, e33_32, e33_33, e33_34, e33_37, e33_40, e33_41, e33_42, e33_45, e33_46, e33_47, e33_50, h1, zg8_0, zp8_0, zg8_1, zp8_1, zg8_2, zp8_2, zg8_3, zp8_3, zg8_4, zp8_4, zrc_eq, zup_s, zup_n, zup_up, zal_i, zal_b, zal_z, zas_i, zas_b, zas_z, zan_eq, Option.toList_some, Option.toList_none, List.cons_append, List.nil_append, if_true, if_false, ite_true, ite_false, true_or, or_true, zc8, znI_le, if_pos]
    exact k _ ⟨f, g, e, zup_s, by rw [zup_n (by omega)]; exact h2, by rw [zup_n (by omega)]; exact h3, by rw [zup_n (by omega)]; exact h4, fun w hw => ⟨(h5 w hw).1, (h5 w hw).2.1, (h5 w hw).2.2, Or.inl rfl⟩⟩ (zfr.up (by omega) zfr.rf)
  | succ m ih =>
    intro i f g e h hi hs h1 h2 h3 h4 h5 k
    have hs0 := hs
    obtain ⟨⟨np, wo, sa, au⟩, ⟨nj, le, fo, ro⟩, ⟨pa, pb, pc⟩, ⟨co, hx, hy⟩, hf0, pt⟩ := S
    obtain ⟨s1, s2, s3, s4, s5, s6, s7, s8, s9, s10⟩ := hs
    rw [e33_2]
    simp (disch := omega) only [e33_0, e33_1, e33_3, e33_5, e33_8, e33_9, e33_12, e33_13, e33_14, e33_17, e33_18, e33_19, e33_20, e33_21, e33_24, e33_25, e33_26, e33_27, e33_28, e33_31, e33_32, e33_33, e33_34, e33_37, e33_40, e33_41, e33_42, e33_45, e33_46, e33_47, e33_50, h1, h2, h3, h4, s1, s8, zg8_0, zp8_0, zg8_1, zp8_1, zg8_2, zp8_2, zg8_3, zp8_3, zg8_4, zp8_4, zg5_0, zp5_0, zg5_1, zp5_1, zg5_2, zp5_2, zg5_3, zp5_3, zg5_4, zp5_4, zg5_5, zp5_5, zg5_6, zp5_6, zg5_7, zp5_7, zg5_8, zp5_8, zg5_9, zp5_9, zg5_10, zp5_10, zg5_11, zp5_11, zg5_12, zp5_12, zg5_13, zp5_13, zg5_14, zp5_14, zg5_15, zp5_15, zrc_eq, zup_s, zup_n, zup_up, zal_i, zal_b, zal_z, zas_i, zas_b, zas_z, zan_eq, Option.toList_some, Option.toList_none, List.cons_append, List.nil_append, if_true, if_false, ite_true, ite_false, true_or, or_true, zc8, znI_le, if_neg, nI_1]
    refine ih (i + 1) (upd f i (hf0 i)) (upd g i 0) (upd e i (0 &&& 1)) _ (by omega) (hs0.kept (P := fun a => t ≤ a ∧ a ≤ t + 3) (zfr.up (by omega) (zfr.up (by omega) (zfr.up (by omega) zfr.rf))) (by omega)) ?_ ?_ ?_ ?_ (fun w hw => ?_) (fun h' a1 a2 => k h' a1 (zfr.up (by omega) (zfr.up (by omega) (zfr.up (by omega) a2))))
    · simp (disch := omega) only [zup_s, zup_n, h1]
    · simp (disch := omega) only [zup_s, zup_n, h2]
    · simp (disch := omega) only [zup_s, zup_n, h3]
    · simp (disch := omega) only [zup_s, zup_n, h4]
    · by_cases q : w = i
      · subst q
        rw [upd_s, upd_s, upd_s]
        exact ⟨rfl, rfl, rfl⟩
      · rw [upd_n q, upd_n q, upd_n q]
        exact h5 w (by omega)
theorem c33 {t sh : Nat} {S : zSh} {T : zTm} (hst : t + 3 < sh ∨ sh + 7 < t) (hs : pSh h sh S) (ht : pTm h t T) (k : ∀ h', pTm h' t (S.2.2.2.2.1, fun _ => 0, fun _ => 0, 0, 0) → zfr (fun a => t ≤ a ∧ a ≤ t + 3) h h' → Q none N h') : zE X 33 0 [some (.ref t), some (.ref sh), none] [] (N, 0, 0) h Q := by
  obtain ⟨f, g, e, h1, h2, h3, h4, h5⟩ := ht
  simp (disch := omega) only [e33_0, e33_1, e33_3, e33_5, e33_8, e33_9, e33_12, e33_13, e33_14, e33_17, e33_18, e33_19, e33_20, e33_21, e33_24, e33_25, e33_26, e33_27, e33_28, e33_31, e33_32, e33_33, e33_34, e33_37, e33_40, e33_41, e33_42, e33_45, e33_46, e33_47, e33_50, zc0]
  exact c33_loop (l2 := none) hst 8 0 f g e h (by omega) hs h1 h2 h3 h4 (fun w hw => by omega) k
end C29
