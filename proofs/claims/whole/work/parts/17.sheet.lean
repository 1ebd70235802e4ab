-- the sheet: clear, take
section C17
variable {X : Nat × (Nat → Int32)} {N : Nat} {h : zH} {Q : Option Value → Nat → zH → Prop}
theorem c19_loop {a n : Nat} {v : Int32} {f : Nat → Int32} (hn : n < 2 ^ 31) : ∀ (m i : Nat) (h : zH), m + i = n → h a = .inl (.int, n, fun j => if j < i then v else f j) → (∀ h', h' a = .inl (.int, n, fun j => if j < n then v else f j) → zfr (fun b => b = a) h h' → Q none N h') → zE X 19 5 [some (.ref a), some (.int v), some (.int (nI i)), some (.int (nI n))] [] (N, 0, 0) h Q := by
  intro m
  induction m with
  | zero =>
    intro i h hi h1 k
    rw [e19_5]
    simp (disch := omega) only [e19_0, e19_1, e19_2, e19_3, e19_4, e19_6, e19_7, e19_10, e19_11, e19_12, e19_13, e19_14, e19_17, e19_20, znI_le, if_pos]
    rw [show i = n by omega] at h1
    exact k h h1 zfr.rf
  | succ m ih =>
    intro i h hi h1 k
    rw [e19_5]
    simp (disch := omega) only [e19_0, e19_1, e19_2, e19_3, e19_4, e19_6, e19_7, e19_10, e19_11, e19_12, e19_13, e19_14, e19_17, e19_20, h1, zrc_eq, zup_s, zup_n, zup_up, zal_i, zal_b, zal_z, zas_i, zas_b, zas_z, zan_eq, Option.toList_some, Option.toList_none, List.cons_append, List.nil_append, if_true, if_false, ite_true, ite_false, true_or, or_true, znI_le, if_neg, nI_1]
    refine ih (i + 1) _ (by omega) ?_ (fun h' g hf => k h' g (zfr.up rfl hf))
    rw [zup_s]
    congr 3
    funext j
    unfold upd
    dsimp only
    by_cases e1 : j = i
    · rw [if_pos e1, if_pos (by omega)]
    · rw [if_neg e1]
      by_cases e2 : j < i
      · rw [if_pos e2, if_pos (by omega)]
      · rw [if_neg e2, if_neg (by omega)]
theorem c19 {a n : Nat} {v : Int32} {f : Nat → Int32} (hn : n < 2 ^ 31) (h1 : h a = .inl (.int, n, f)) (k : ∀ h', h' a = .inl (.int, n, fun j => if j < n then v else f j) → zfr (fun b => b = a) h h' → Q none N h') : zE X 19 0 [some (.ref a), some (.int v), none, none] [] (N, 0, 0) h Q := by
  simp only [e19_0, e19_1, e19_2, e19_3, e19_4, e19_6, e19_7, e19_10, e19_11, e19_12, e19_13, e19_14, e19_17, e19_20, h1, zrc_eq, zup_s, zup_n, zup_up, zal_i, zal_b, zal_z, zas_i, zas_b, zas_z, zan_eq, Option.toList_some, Option.toList_none, List.cons_append, List.nil_append, if_true, if_false, ite_true, ite_false, true_or, or_true]
  exact c19_loop hn n 0 h (by omega) (by simpa using h1) k
/-- a sheet: plans (how many, worth, safe, writer), judges (how many, leans to safe, to who has had, rough), the purse, coin and hours, had at first, patience -/
abbrev zSh : Type := (Nat × (Nat → Int32) × (Nat → Int32) × (Nat → Int32)) × (Nat × (Nat → Int32) × (Nat → Int32) × (Nat → Int32)) × (Nat × Nat × Nat) × (Nat × Nat × Nat) × (Nat → Int32) × Nat
def pSh (h : zH) (t : Nat) (S : zSh) : Prop := match S with
  | ((np, wo, sa, au), (nj, le, fo, ro), (pa, pb, pc), (co, hx, hy), hf, pt) => h t = .inr (5, [.int (nI np), .ref (t + 1), .ref (t + 2), .ref (t + 3), .int (nI nj), .ref (t + 4), .ref (t + 5), .ref (t + 6), .int (nI pa), .int (nI pb), .int (nI pc), .int (nI co), .int (nI hx), .int (nI hy), .ref (t + 7), .int (nI pt)]) ∧
    h (t + 1) = .inl (.int, 24, wo) ∧ h (t + 2) = .inl (.int, 24, sa) ∧ h (t + 3) = .inl (.int, 24, au) ∧ h (t + 4) = .inl (.int, 6, le) ∧ h (t + 5) = .inl (.int, 6, fo) ∧ h (t + 6) = .inl (.int, 6, ro) ∧ h (t + 7) = .inl (.int, 8, hf) ∧ np ≤ 24 ∧ nj ≤ 6
/-- the sheet without anything (the arrays of plans and judges keep what they had) -/
def sClr (S : zSh) : zSh := match S with
  | ((_, wo, sa, au), (_, le, fo, ro), _, _, hf, _) => ((0, wo, sa, au), (0, le, fo, ro), (0, 0, 0), (100, 0, 0), (fun j => if j < 8 then 0 else hf j), 0)
theorem c18 {t : Nat} {S : zSh} (hs : pSh h t S) (k : ∀ h', pSh h' t (sClr S) → zfr (fun a => t ≤ a ∧ a ≤ t + 7) h h' → Q none N h') : zE X 18 0 [some (.ref t)] [] (N, 0, 0) h Q := by
  obtain ⟨⟨np, wo, sa, au⟩, ⟨nj, le, fo, ro⟩, ⟨pa, pb, pc⟩, ⟨co, hx, hy⟩, hf, pt⟩ := S
  obtain ⟨h1, h2, h3, h4, h5, h6, h7, h8, h9, h10⟩ := hs
  simp (disch := omega) only [e18_0, e18_1, e18_2, e18_5, e18_6, e18_7, e18_10, e18_11, e18_12, e18_15, e18_16, e18_17, e18_20, e18_21, e18_22, e18_25, e18_26, e18_28, e18_31, e18_32, e18_33, e18_36, e18_37, e18_38, e18_41, e18_42, e18_45, e18_46, e18_49, e18_50, e18_51, e18_54, h1, zg5_0, zp5_0, zg5_1, zp5_1, zg5_2, zp5_2, zg5_3, zp5_3, zg5_4, zp5_4, zg5_5, zp5_5, zg5_6, zp5_6, zg5_7, zp5_7, zg5_8, zp5_8, zg5_9, zp5_9, zg5_10, zp5_10, zg5_11, zp5_11, zg5_12, zp5_12, zg5_13, zp5_13, zg5_14, zp5_14, zg5_15, zp5_15, zrc_eq, zup_s, zup_n, zup_up, zal_i, zal_b, zal_z, zas_i, zas_b, zas_z, zan_eq, Option.toList_some, Option.toList_none, List.cons_append, List.nil_append, if_true, if_false, ite_true, ite_false, true_or, or_true]
  refine c19 (n := 8) (f := hf) (by decide) (by rw [zup_n (by omega)]; exact h8) (fun h' g hf' => ?_)
  have e0 : h' t = _ := hf' t (by omega)
  rw [zup_s] at e0
  simp (disch := omega) only [e18_0, e18_1, e18_2, e18_5, e18_6, e18_7, e18_10, e18_11, e18_12, e18_15, e18_16, e18_17, e18_20, e18_21, e18_22, e18_25, e18_26, e18_28, e18_31, e18_32, e18_33, e18_36, e18_37, e18_38, e18_41, e18_42, e18_45, e18_46, e18_49, e18_50, e18_51, e18_54, e0, zg5_0, zp5_0, zg5_1, zp5_1, zg5_2, zp5_2, zg5_3, zp5_3, zg5_4, zp5_4, zg5_5, zp5_5, zg5_6, zp5_6, zg5_7, zp5_7, zg5_8, zp5_8, zg5_9, zp5_9, zg5_10, zp5_10, zg5_11, zp5_11, zg5_12, zp5_12, zg5_13, zp5_13, zg5_14, zp5_14, zg5_15, zp5_15, zrc_eq, zup_s, zup_n, zup_up, zal_i, zal_b, zal_z, zas_i, zas_b, zas_z, zan_eq, Option.toList_some, Option.toList_none, List.cons_append, List.nil_append, if_true, if_false, ite_true, ite_false, true_or, or_true]
  have ee : ∀ a, a ≠ t → a ≠ t + 7 → h' a = h a := fun a e1 e2 => (hf' a e2).trans (zup_n e1)
  refine k _ ⟨by rw [zup_s]; rfl, ?_, ?_, ?_, ?_, ?_, ?_, ?_, by omega, by omega⟩ (fun a ha => ?_)
  · rw [zup_n (by omega), ee _ (by omega) (by omega)]; exact h2
  · rw [zup_n (by omega), ee _ (by omega) (by omega)]; exact h3
  · rw [zup_n (by omega), ee _ (by omega) (by omega)]; exact h4
  · rw [zup_n (by omega), ee _ (by omega) (by omega)]; exact h5
  · rw [zup_n (by omega), ee _ (by omega) (by omega)]; exact h6
  · rw [zup_n (by omega), ee _ (by omega) (by omega)]; exact h7
  · rw [zup_n (by omega)]; exact g
  · rw [zup_n (by omega), ee _ (by omega) (by omega)]
end C17
