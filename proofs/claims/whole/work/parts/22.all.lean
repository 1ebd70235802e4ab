-- the whole text is read
section C22
variable {X : Nat × (Nat → Int32)} {N : Nat} {h : zH} {Q : Option Value → Nat → zH → Prop}
def sTakeL (l : Nat) (vs : List Nat) (S : zSh) : Option zSh := sTake l vs.length (vs.getD 0 0) (vs.getD 1 0) (vs.getD 2 0) S
theorem sTake_vs {l a b c : Nat} {vs : List Nat} {S : zSh} (h0 : ∀ x, vs[0]? = some x → a = x) (h1 : ∀ x, vs[1]? = some x → b = x) (h2 : ∀ x, vs[2]? = some x → c = x) : sTake l vs.length a b c S = sTakeL l vs S := by
  rcases vs with _ | ⟨x, _ | ⟨y, _ | ⟨z, vs⟩⟩⟩
  · simp [sTakeL, sTake]
  · obtain rfl := h0 x rfl
    simp [sTakeL, sTake]
  · obtain rfl := h0 x rfl
    obtain rfl := h1 y rfl
    simp [sTakeL, sTake]
  · obtain rfl := h0 x rfl
    obtain rfl := h1 y rfl
    obtain rfl := h2 z rfl
    simp [sTakeL]
theorem sItem_ge (B : Nat → Nat) : ∀ m p vs nx vs', sItem B m p vs = some (nx, vs') → p < nx
  | 0, _, _, _, _, h => by cases h
  | m + 1, p, vs, nx, vs', h => by
    have hq := sNum_le B 3 p 0
    rw [sItem] at h
    split at h
    · cases h
    · split at h
      · cases h; omega
      · split at h
        · have := sItem_ge B m _ _ _ _ h; omega
        · cases h
theorem sItem_bd (B : Nat → Nat) : ∀ m p vs nx vs', sItem B m p vs = some (nx, vs') → nx ≤ p + 4 * m ∧ vs'.length ≤ vs.length + m
  | 0, _, _, _, _, h => by cases h
  | m + 1, p, vs, nx, vs', h => by
    have hq := sNum_le B 3 p 0
    rw [sItem] at h
    split at h
    · cases h
    · split at h
      · cases h; simp; omega
      · split at h
        · have := sItem_bd B m _ _ _ _ h
          simp at this
          omega
        · cases h
/-- the text from a place on, f items at most: the first fault, the sheet as far as it goes -/
def sAll (B : Nat → Nat) (len : Nat) : Nat → Nat → zSh → Option Nat × zSh
  | 0, _, S => (none, S)
  | f + 1, p, S => if p < len then (match sItem B 3 (p + 1) [] with
    | none => (some p, S)
    | some (nx, vs) => match sTakeL (B p) vs S with
      | none => (some p, S)
      | some S' => sAll B len f nx S') else (none, S)
theorem pSh.kept {h h' : zH} {t : Nat} {S : zSh} (hs : pSh h t S) {P : Nat → Prop} (hf : zfr P h h') (hP : ∀ a, t ≤ a → a ≤ t + 7 → ¬ P a) : pSh h' t S := by
  obtain ⟨⟨np, wo, sa, au⟩, ⟨nj, le, fo, ro⟩, ⟨pa, pb, pc⟩, ⟨co, hx, hy⟩, hf0, pt⟩ := S
  obtain ⟨h1, h2, h3, h4, h5, h6, h7, h8, h9, h10⟩ := hs
  have e : ∀ k, k ≤ 7 → h' (t + k) = h (t + k) := fun k hk => hf _ (hP _ (by omega) (by omega))
  exact ⟨(e 0 (by omega)).trans h1, (e 1 (by omega)).trans h2, (e 2 (by omega)).trans h3, (e 3 (by omega)).trans h4, (e 4 (by omega)).trans h5, (e 5 (by omega)).trans h6, (e 6 (by omega)).trans h7, (e 7 (by omega)).trans h8, h9, h10⟩
theorem pRd.kept {h h' : zH} {r l : Nat} {vs : List Nat} (hr : pRd h r l vs) {P : Nat → Prop} (hf : zfr P h h') (hP : ¬ P r) : pRd h' r l vs := by
  obtain ⟨a, b, c, ha, hb, hc, h1, g⟩ := hr
  exact ⟨a, b, c, ha, hb, hc, (hf r hP).trans h1, g⟩
/-- sAll's end: -4 or the place of the fault -/
def sFl (o : Option Nat) : Int32 := match o with
  | none => -4
  | some p => nI p
theorem c17_loop {r s t len : Nat} {tx : Nat → Int32} (hrs : r ≠ s ∧ r ≠ s + 1) (hst : s + 1 < t ∨ t + 7 < s) (hrt : r < t ∨ t + 7 < r) : ∀ (f i p : Nat) (S : zSh) (l : Nat) (vs : List Nat) (h : zH) (l5 : Option Value), f + i = 400 → i ≤ p → p < 1000 → pScr h s len tx → pRd h r l vs → l < 256 → pSh h t S →
    (∀ h' l' vs', l' < 256 → pRd h' r l' vs' → pSh h' t (sAll (bt tx len) len f p S).2 → zfr (fun a => a = r ∨ (t ≤ a ∧ a ≤ t + 7)) h h' → Q (some (.int (sFl (sAll (bt tx len) len f p S).1))) N h') →
    zE X 17 9 [some (.ref r), some (.ref s), some (.ref t), some (.int (nI p)), some (.int (nI i)), l5] [] (N, 0, 0) h Q := by
  intro f
  induction f with
  | zero =>
    intro i p S l vs h l5 hi hip hp hs hr hl hsh k
    rw [e17_9]
    simp (disch := omega) only [e17_0, e17_1, e17_4, e17_5, e17_6, e17_7, e17_11, e17_14, e17_17, e17_18, e17_19, e17_22, e17_25, e17_26, e17_27, e17_28, e17_31, e17_33, e17_35, e17_37, e17_40, e17_41, e17_42, e17_45, e17_48, e17_49, e17_50, e17_52, e17_53, e17_56, e17_59, e17_61, zc400, znI_le, if_pos]
    exact k h l vs hl hr hsh zfr.rf
  | succ f ih =>
    intro i p S l vs h l5 hi hip hp hs hr hl hsh k
    have h400 := hs.2.2
    have h1 := hs.1
    have h2 : ∃ fs, h r = .inr (1, fs) := by obtain ⟨a, b, c, -, -, -, h1, -⟩ := hr; exact ⟨_, h1⟩
    obtain ⟨fs, h2⟩ := h2
    rw [e17_9]
    rw [sAll] at k
    by_cases hpl : p < len
    · simp (disch := omega) only [e17_0, e17_1, e17_4, e17_5, e17_6, e17_7, e17_11, e17_14, e17_17, e17_18, e17_19, e17_22, e17_25, e17_26, e17_27, e17_28, e17_31, e17_33, e17_35, e17_37, e17_40, e17_41, e17_42, e17_45, e17_48, e17_49, e17_50, e17_52, e17_53, e17_56, e17_59, e17_61, zc400, znI_le, if_neg, h1, h2, zg4_0, zp4_0, zg4_1, zp4_1, zrc_eq, zup_s, zup_n, zup_up, zal_i, zal_b, zal_z, zas_i, zas_b, zas_z, zan_eq, Option.toList_some, Option.toList_none, List.cons_append, List.nil_append, if_true, if_false, ite_true, ite_false, true_or, or_true]
      rw [if_pos hpl] at k
      obtain ⟨b1, b2⟩ := bt_byte (tx := tx) hpl
      refine c20 hrs hs hr hpl (fun q h' vs' g1 g2 => ?_) (fun nx vs' q h' g1 g2 => ?_)
      · rw [q] at k
        simp (disch := omega) only [e17_0, e17_1, e17_4, e17_5, e17_6, e17_7, e17_11, e17_14, e17_17, e17_18, e17_19, e17_22, e17_25, e17_26, e17_27, e17_28, e17_31, e17_33, e17_35, e17_37, e17_40, e17_41, e17_42, e17_45, e17_48, e17_49, e17_50, e17_52, e17_53, e17_56, e17_59, e17_61, zrc_eq, zup_s, zup_n, zup_up, zal_i, zal_b, zal_z, zas_i, zas_b, zas_z, zan_eq, Option.toList_some, Option.toList_none, List.cons_append, List.nil_append, if_true, if_false, ite_true, ite_false, true_or, or_true]
        exact k h' _ _ b2 g1 (hsh.kept g2 (by omega)) (g2.mono (fun a ha => Or.inl ha))
      · rw [q] at k
        dsimp only at k
        have hnx := sItem_ge _ _ _ _ _ _ q
        have hsh' := hsh.kept g2 (by omega)
        have hs' := hs.kept g2 (by omega) (by omega)
        have g1' := g1
        have hbd := sItem_bd _ _ _ _ _ _ q
        have hnx2 : nx ≤ 420 := by omega
        obtain ⟨a, b, c, ha, hb, hc, g3, g4, g5, g6⟩ := g1
        have ne4 : (nI nx = -4) = False := by
          apply eq_false
          intro q
          have := congrArg Int32.toInt q
          rw [nI_toInt (by omega)] at this
          have e : ((-4 : Int32)).toInt = -4 := rfl
          omega
        have h3 : ∃ fs, h' t = .inr (5, fs) := by
          obtain ⟨⟨np, wo, sa, au⟩, ⟨nj, le, fo, ro⟩, ⟨pa, pb, pc⟩, ⟨co, hx, hy⟩, hf, pt⟩ := S
          exact ⟨_, hsh'.1⟩
        obtain ⟨fs3, h3⟩ := h3
        simp (disch := omega) only [e17_0, e17_1, e17_4, e17_5, e17_6, e17_7, e17_11, e17_14, e17_17, e17_18, e17_19, e17_22, e17_25, e17_26, e17_27, e17_28, e17_31, e17_33, e17_35, e17_37, e17_40, e17_41, e17_42, e17_45, e17_48, e17_49, e17_50, e17_52, e17_53, e17_56, e17_59, e17_61, zrc_eq, zup_s, zup_n, zup_up, zal_i, zal_b, zal_z, zas_i, zas_b, zas_z, zan_eq, Option.toList_some, Option.toList_none, List.cons_append, List.nil_append, if_true, if_false, ite_true, ite_false, true_or, or_true, ne4, h3]
        have hvl : vs'.length ≤ 3 := by simp at hbd; omega
        refine c24 hsh' g3 b2 hvl ha hb hc ?_
        rw [sTake_vs g4 g5 g6]
        rcases ho : sTakeL (bt tx len p) vs' S with _ | S'
        · rw [ho] at k
          show zE X 17 45 _ _ _ _ _
          simp (disch := omega) only [e17_0, e17_1, e17_4, e17_5, e17_6, e17_7, e17_11, e17_14, e17_17, e17_18, e17_19, e17_22, e17_25, e17_26, e17_27, e17_28, e17_31, e17_33, e17_35, e17_37, e17_40, e17_41, e17_42, e17_45, e17_48, e17_49, e17_50, e17_52, e17_53, e17_56, e17_59, e17_61, zrc_eq, zup_s, zup_n, zup_up, zal_i, zal_b, zal_z, zas_i, zas_b, zas_z, zan_eq, Option.toList_some, Option.toList_none, List.cons_append, List.nil_append, if_true, if_false, ite_true, ite_false, true_or, or_true, z00]
          exact k h' _ _ b2 g1' hsh' (g2.mono (fun a ha => Or.inl ha))
        · rw [ho] at k
          intro h4 k1 k2
          show zE X 17 45 _ _ _ _ _
          simp (disch := omega) only [e17_0, e17_1, e17_4, e17_5, e17_6, e17_7, e17_11, e17_14, e17_17, e17_18, e17_19, e17_22, e17_25, e17_26, e17_27, e17_28, e17_31, e17_33, e17_35, e17_37, e17_40, e17_41, e17_42, e17_45, e17_48, e17_49, e17_50, e17_52, e17_53, e17_56, e17_59, e17_61, zrc_eq, zup_s, zup_n, zup_up, zal_i, zal_b, zal_z, zas_i, zas_b, zas_z, zan_eq, Option.toList_some, Option.toList_none, List.cons_append, List.nil_append, if_true, if_false, ite_true, ite_false, true_or, or_true, z10, nI_1]
          exact ih (i + 1) nx S' _ vs' h4 _ (by omega) (by omega) (by omega) (hs'.kept k2 (by omega) (by omega)) (g1'.kept k2 (by omega)) b2 k1 (fun h5 l' vs5 m1 m2 m3 m4 => k h5 l' vs5 m1 m2 m3 (((g2.mono (fun a ha => Or.inl ha)).tr (k2.mono (fun a ha => Or.inr ha))).tr m4))
    · simp (disch := omega) only [e17_0, e17_1, e17_4, e17_5, e17_6, e17_7, e17_11, e17_14, e17_17, e17_18, e17_19, e17_22, e17_25, e17_26, e17_27, e17_28, e17_31, e17_33, e17_35, e17_37, e17_40, e17_41, e17_42, e17_45, e17_48, e17_49, e17_50, e17_52, e17_53, e17_56, e17_59, e17_61, zc400, znI_le, if_neg, if_pos, h1, h2, zg4_0, zp4_0, zg4_1, zp4_1, zrc_eq, zup_s, zup_n, zup_up, zal_i, zal_b, zal_z, zas_i, zas_b, zas_z, zan_eq, Option.toList_some, Option.toList_none, List.cons_append, List.nil_append, if_true, if_false, ite_true, ite_false, true_or, or_true]
      rw [if_neg hpl] at k
      exact k h l vs hl hr hsh zfr.rf
theorem c17 {r s t len l : Nat} {vs : List Nat} {S : zSh} {tx : Nat → Int32} (hrs : r ≠ s ∧ r ≠ s + 1) (hst : s + 1 < t ∨ t + 7 < s) (hrt : r < t ∨ t + 7 < r) (hs : pScr h s len tx) (hr : pRd h r l vs) (hl : l < 256) (hsh : pSh h t S)
    (k : ∀ h' l' vs', l' < 256 → pRd h' r l' vs' → pSh h' t (sAll (bt tx len) len 400 0 (sClr S)).2 → zfr (fun a => a = r ∨ (t ≤ a ∧ a ≤ t + 7)) h h' → Q (some (.int (sFl (sAll (bt tx len) len 400 0 (sClr S)).1))) N h') :
    zE X 17 0 [some (.ref r), some (.ref s), some (.ref t), none, none, none] [] (N, 0, 0) h Q := by
  have h3 : ∃ fs, h t = .inr (5, fs) := by
    obtain ⟨⟨np, wo, sa, au⟩, ⟨nj, le, fo, ro⟩, ⟨pa, pb, pc⟩, ⟨co, hx, hy⟩, hf, pt⟩ := S
    exact ⟨_, hsh.1⟩
  obtain ⟨fs, h3⟩ := h3
  simp (disch := omega) only [e17_0, e17_1, e17_4, e17_5, e17_6, e17_7, e17_11, e17_14, e17_17, e17_18, e17_19, e17_22, e17_25, e17_26, e17_27, e17_28, e17_31, e17_33, e17_35, e17_37, e17_40, e17_41, e17_42, e17_45, e17_48, e17_49, e17_50, e17_52, e17_53, e17_56, e17_59, e17_61, h3, zrc_eq, zup_s, zup_n, zup_up, zal_i, zal_b, zal_z, zas_i, zas_b, zas_z, zan_eq, Option.toList_some, Option.toList_none, List.cons_append, List.nil_append, if_true, if_false, ite_true, ite_false, true_or, or_true]
  refine c18 hsh (fun h' g1 g2 => ?_)
  simp (disch := omega) only [e17_0, e17_1, e17_4, e17_5, e17_6, e17_7, e17_11, e17_14, e17_17, e17_18, e17_19, e17_22, e17_25, e17_26, e17_27, e17_28, e17_31, e17_33, e17_35, e17_37, e17_40, e17_41, e17_42, e17_45, e17_48, e17_49, e17_50, e17_52, e17_53, e17_56, e17_59, e17_61, zrc_eq, zup_s, zup_n, zup_up, zal_i, zal_b, zal_z, zas_i, zas_b, zas_z, zan_eq, Option.toList_some, Option.toList_none, List.cons_append, List.nil_append, if_true, if_false, ite_true, ite_false, true_or, or_true]
  exact c17_loop hrs hst hrt 400 0 0 (sClr S) l vs h' none rfl (Nat.le_refl _) (by omega) (hs.kept g2 (by omega) (by omega)) (hr.kept g2 (by omega)) hl g1 (fun h5 l' vs5 m1 m2 m3 m4 => k h5 l' vs5 m1 m2 m3 ((g2.mono (fun a ha => Or.inr ha)).tr m4))
/-- fault, of the class -/
theorem c16 {ld dr len l : Nat} {vs : List Nat} {S : zSh} {kp : Int32} {tx : Nat → Int32} (h0 : h 0 = pObj ld dr kp) (hd : dr = 4 ∨ dr = 12) (hs : pScr h 1 len tx) (hr : pRd h 3 l vs) (hl : l < 256) (hsh : pSh h dr S)
    (k : ∀ h' l' vs', l' < 256 → pRd h' 3 l' vs' → pSh h' dr (sAll (bt tx len) len 400 0 (sClr S)).2 → zfr (fun a => a = 3 ∨ (dr ≤ a ∧ a ≤ dr + 7)) h h' → Q (some (.int (sFl (sAll (bt tx len) len 400 0 (sClr S)).1))) N h') :
    zE X 16 0 [some (.ref 0)] [] (N, 0, 0) h Q := by
  have h2 : ∃ fs, h 3 = .inr (1, fs) := by obtain ⟨a, b, c, -, -, -, h1, -⟩ := hr; exact ⟨_, h1⟩
  obtain ⟨fs, h2⟩ := h2
  unfold pObj at h0
  simp (disch := omega) only [e16_0, e16_1, e16_4, e16_5, e16_8, e16_9, e16_12, e16_15, h0, h2, zg9_0, zp9_0, zg9_1, zp9_1, zg9_2, zp9_2, zg9_3, zp9_3, zg9_4, zp9_4, zg9_5, zp9_5, zg9_6, zp9_6, zg9_7, zp9_7, zg9_8, zp9_8, zg9_9, zp9_9, zg9_10, zp9_10, zg9_11, zp9_11, zg9_12, zp9_12, zg9_13, zp9_13, zg9_14, zp9_14, zg9_15, zp9_15, zg9_16, zp9_16, zrc_eq, zup_s, zup_n, zup_up, zal_i, zal_b, zal_z, zas_i, zas_b, zas_z, zan_eq, Option.toList_some, Option.toList_none, List.cons_append, List.nil_append, if_true, if_false, ite_true, ite_false, true_or, or_true]
  refine c17 (by omega) (by omega) (by omega) hs hr hl hsh (fun h' l' vs' g1 g2 g3 g4 => ?_)
  simp (disch := omega) only [e16_0, e16_1, e16_4, e16_5, e16_8, e16_9, e16_12, e16_15, zrc_eq, zup_s, zup_n, zup_up, zal_i, zal_b, zal_z, zas_i, zas_b, zas_z, zan_eq, Option.toList_some, Option.toList_none, List.cons_append, List.nil_append, if_true, if_false, ite_true, ite_false, true_or, or_true]
  exact k h' l' vs' g1 g2 g3 g4
end C22
