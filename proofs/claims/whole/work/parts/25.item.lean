-- an item, as both read it
section C25
/-- an item at a place: the place behind it, the sheet with it -/
def mIt (B : Nat → Nat) (p : Nat) (S : zSh) : Option (Nat × zSh) := match sItem B 3 (p + 1) [] with
  | none => none
  | some (nx, vs) => (sTakeL (B p) vs S).map (fun S' => (nx, S'))
variable {B : Nat → Nat} {p : Nat} {S : zSh}
abbrev n1 (B : Nat → Nat) (p : Nat) : Nat × Nat := sNum B 3 (p + 1) 0
abbrev n2 (B : Nat → Nat) (p : Nat) : Nat × Nat := sNum B 3 ((n1 B p).1 + 1) 0
abbrev n3 (B : Nat → Nat) (p : Nat) : Nat × Nat := sNum B 3 ((n2 B p).1 + 1) 0
theorem sItem3 : sItem B 3 (p + 1) [] = if (n1 B p).1 = p + 1 then none else if B (n1 B p).1 = 59 then some ((n1 B p).1 + 1, [(n1 B p).2]) else if B (n1 B p).1 = 44 then (if (n2 B p).1 = (n1 B p).1 + 1 then none else if B (n2 B p).1 = 59 then some ((n2 B p).1 + 1, [(n1 B p).2, (n2 B p).2]) else if B (n2 B p).1 = 44 then (if (n3 B p).1 = (n2 B p).1 + 1 then none else if B (n3 B p).1 = 59 then some ((n3 B p).1 + 1, [(n1 B p).2, (n2 B p).2, (n3 B p).2]) else none) else none) else none := by
  simp only [sItem, List.nil_append, List.cons_append, ite_self]
theorem mIt_none1 (hk : ∀ k a b c, k ≠ 1 → sTake (B p) k a b c S = none) (hc : ¬ ((n1 B p).1 ≠ p + 1 ∧ B (n1 B p).1 = 59) ∨ sTake (B p) 1 (n1 B p).2 0 0 S = none) : mIt B p S = none := by
  unfold mIt
  rw [sItem3]
  split
  · rfl
  · next nx vs he =>
    repeat' split at he
    all_goals cases he
    all_goals simp only [sTakeL, List.length_cons, List.length_nil, Nat.zero_add, List.getD_cons_zero, List.getD_cons_succ, List.getD_nil, Nat.reduceAdd]
    all_goals first | (rw [hk _ _ _ _ (by decide)]; rfl) | (rcases hc with hc | hc; (exfalso; omega); (rw [hc]; rfl))
theorem mIt_some1 {S' : zSh} (h1 : (n1 B p).1 ≠ p + 1) (h2 : B (n1 B p).1 = 59) (ht : sTake (B p) 1 (n1 B p).2 0 0 S = some S') : mIt B p S = some ((n1 B p).1 + 1, S') := by
  unfold mIt
  rw [sItem3, if_neg h1, if_pos h2]
  simp only [sTakeL, List.length_cons, List.length_nil, Nat.zero_add, List.getD_cons_zero, List.getD_cons_succ, List.getD_nil]
  rw [ht]; rfl
theorem mIt_none2 (hk : ∀ k a b c, k ≠ 2 → sTake (B p) k a b c S = none) (hc : ¬ ((n1 B p).1 ≠ p + 1 ∧ B (n1 B p).1 = 44 ∧ (n2 B p).1 ≠ (n1 B p).1 + 1 ∧ B (n2 B p).1 = 59) ∨ sTake (B p) 2 (n1 B p).2 (n2 B p).2 0 S = none) : mIt B p S = none := by
  unfold mIt
  rw [sItem3]
  split
  · rfl
  · next nx vs he =>
    repeat' split at he
    all_goals cases he
    all_goals simp only [sTakeL, List.length_cons, List.length_nil, Nat.zero_add, List.getD_cons_zero, List.getD_cons_succ, List.getD_nil, Nat.reduceAdd]
    all_goals first | (rw [hk _ _ _ _ (by decide)]; rfl) | (rcases hc with hc | hc; (exfalso; omega); (rw [hc]; rfl))
theorem mIt_some2 {S' : zSh} (h1 : (n1 B p).1 ≠ p + 1) (h2 : B (n1 B p).1 = 44) (h3 : (n2 B p).1 ≠ (n1 B p).1 + 1) (h4 : B (n2 B p).1 = 59) (ht : sTake (B p) 2 (n1 B p).2 (n2 B p).2 0 S = some S') : mIt B p S = some ((n2 B p).1 + 1, S') := by
  unfold mIt
  rw [sItem3, if_neg h1, if_neg (by omega), if_pos h2, if_neg h3, if_pos h4]
  simp only [sTakeL, List.length_cons, List.length_nil, Nat.zero_add, List.getD_cons_zero, List.getD_cons_succ, List.getD_nil, Nat.reduceAdd]
  rw [ht]; rfl
theorem mIt_none3 (hk : ∀ k a b c, k ≠ 3 → sTake (B p) k a b c S = none) (hc : ¬ ((n1 B p).1 ≠ p + 1 ∧ B (n1 B p).1 = 44 ∧ (n2 B p).1 ≠ (n1 B p).1 + 1 ∧ B (n2 B p).1 = 44 ∧ (n3 B p).1 ≠ (n2 B p).1 + 1 ∧ B (n3 B p).1 = 59) ∨ sTake (B p) 3 (n1 B p).2 (n2 B p).2 (n3 B p).2 S = none) : mIt B p S = none := by
  unfold mIt
  rw [sItem3]
  split
  · rfl
  · next nx vs he =>
    repeat' split at he
    all_goals cases he
    all_goals simp only [sTakeL, List.length_cons, List.length_nil, Nat.zero_add, List.getD_cons_zero, List.getD_cons_succ, List.getD_nil, Nat.reduceAdd]
    all_goals first | (rw [hk _ _ _ _ (by decide)]; rfl) | (rcases hc with hc | hc; (exfalso; omega); (rw [hc]; rfl))
theorem mIt_some3 {S' : zSh} (h1 : (n1 B p).1 ≠ p + 1) (h2 : B (n1 B p).1 = 44) (h3 : (n2 B p).1 ≠ (n1 B p).1 + 1) (h4 : B (n2 B p).1 = 44) (h5 : (n3 B p).1 ≠ (n2 B p).1 + 1) (h6 : B (n3 B p).1 = 59) (ht : sTake (B p) 3 (n1 B p).2 (n2 B p).2 (n3 B p).2 S = some S') : mIt B p S = some ((n3 B p).1 + 1, S') := by
  unfold mIt
  rw [sItem3, if_neg h1, if_neg (by omega), if_pos h2, if_neg h3, if_neg (by omega), if_pos h4, if_neg h5, if_pos h6]
  simp only [sTakeL, List.length_cons, List.length_nil, Nat.zero_add, List.getD_cons_zero, List.getD_cons_succ, List.getD_nil, Nat.reduceAdd]
  rw [ht]; rfl
theorem mIt_other (hl : B p ≠ 119 ∧ B p ≠ 106 ∧ B p ≠ 112 ∧ B p ≠ 99 ∧ B p ≠ 104 ∧ B p ≠ 102 ∧ B p ≠ 108) : mIt B p S = none := by
  have hk : ∀ k a b c, sTake (B p) k a b c S = none := by
    intro k a b c
    obtain ⟨a1, a2, a3, a4, a5, a6, a7⟩ := hl
    unfold sTake
    rw [if_neg a1, if_neg a2, if_neg a3, if_neg a4, if_neg a5, if_neg a6, if_neg a7]
  exact mIt_none1 (fun k a b c _ => hk k a b c) (Or.inr (hk _ _ _ _))
end C25
