-- brings of the class
section C46
variable {X : Nat × (Nat → Int32)} {N : Nat} {h : zH} {Q : Option Value → Nat → zH → Prop} {S : zSh} {T : zTm} {ld dd : Nat} {p d w kp : Int32}
/-- WORTH of a plan -/
def sW (S : zSh) (i : Nat) : Nat := (S.1.2.1 i).toNatClampNeg
set_option maxHeartbeats 2000000 in
theorem sK.wo {S : zSh} (h : sK S) {i : Nat} (hi : i < S.1.1) : S.1.2.1 i = nI (sW S i) ∧ sW S i ≤ 999 := by
  obtain ⟨a, b, c, ha, -, -, e, -, -⟩ := h.1.2 i hi
  have : sW S i = a := by unfold sW; rw [e, nI_clamp (by omega)]
  rw [this]
  exact ⟨e, ha⟩
set_option maxHeartbeats 2000000 in
theorem pSh.wo {h : zH} {t : Nat} (hs : pSh h t S) : ∃ v2 v3 v4 v5 v6 v7 v8 v9 v10 v11 v12 v13 v14 v15, h t = .inr (5, [.int (nI S.1.1), .ref (t + 1), v2, v3, v4, v5, v6, v7, v8, v9, v10, v11, v12, v13, v14, v15]) ∧ h (t + 1) = .inl (.int, 24, S.1.2.1) ∧ S.1.1 ≤ 24 := by
  obtain ⟨⟨np, wo, sa, au⟩, ⟨nj, le, fo, ro⟩, ⟨pa, pb, pc⟩, ⟨co, hx, hy⟩, hf, pt⟩ := S
  exact ⟨_, _, _, _, _, _, _, _, _, _, _, _, _, _, hs.1, hs.2.1, hs.2.2.2.2.2.2.2.2.1⟩
set_option maxHeartbeats 2000000 in
theorem c72 {i : Nat} (hs : pSh h ld S) (ok : sK S) (hi : i < S.1.1) : zE X 72 0 [some (.ref ld), some (.int (nI i))] [] (N, 0, 0) h Q = Q (some (.int (nI (sW S i)))) N h := by
  obtain ⟨v2, v3, v4, v5, v6, v7, v8, v9, v10, v11, v12, v13, v14, v15, h1, h2, b1⟩ := hs.wo
  have e1 : (nI i < 0) = False := eq_false (nI_pos (by omega))
  simp (disch := omega) only [e72_0, e72_1, e72_4, e72_5, e72_6, e72_9, e72_12, e72_13, e72_16, e72_17, e72_18, e72_21, e72_22, h1, h2, zg5_0, zp5_0, zg5_1, zp5_1, zg5_2, zp5_2, zg5_3, zp5_3, zg5_4, zp5_4, zg5_5, zp5_5, zg5_6, zp5_6, zg5_7, zp5_7, zg5_8, zp5_8, zg5_9, zp5_9, zg5_10, zp5_10, zg5_11, zp5_11, zg5_12, zp5_12, zg5_13, zp5_13, zg5_14, zp5_14, zg5_15, zp5_15, zrc_eq, zup_s, zup_n, zup_up, zal_i, zal_b, zal_z, zas_i, zas_b, zas_z, zan_eq, Option.toList_some, Option.toList_none, List.cons_append, List.nil_append, if_true, if_false, ite_true, ite_false, true_or, or_true, e1, znI_le, if_neg, (ok.wo hi).1]
set_option maxHeartbeats 2000000 in
theorem c71_115 {n i k v : Nat} {y : Nat → Nat} {g : Nat → Int32} {a b c s u : Int32} {l1 l2 l4 : Option Value} (hi : i < 24) (hk : k ≤ i) (h1 : h 45 = .inr (6, [.int a, .int b, .int c, .int s, .int u, .ref 46, .ref 47])) (h2 : h 47 = .inl (.int, 24, g)) (a1 : ∀ j, j < k → g j = nI (y j)) (a2 : ∀ j, k < j → j ≤ i → g j = nI (y (j - 1)))
    (K : ∀ h' g', h' 47 = .inl (.int, 24, g') → (∀ j, j < i + 1 → g' j = nI (insAt y k v j)) → zfr (fun a => a = 47) h h' → ∀ l5, zE X 71 41 [some (.ref 45), l1, l2, some (.int (nI (i + 1))), some (.int (nI v)), l5] [] (N, 0, 0) h' Q) : zE X 71 115 [some (.ref 45), l1, l2, some (.int (nI i)), some (.int (nI v)), some (.int (nI k))] [] (N, 0, 0) h Q := by
  simp (disch := omega) only [e71_0, e71_1, e71_2, e71_5, e71_6, e71_8, e71_9, e71_12, e71_15, e71_16, e71_17, e71_20, e71_21, e71_22, e71_23, e71_26, e71_29, e71_30, e71_33, e71_36, e71_39, e71_40, e71_42, e71_43, e71_46, e71_49, e71_50, e71_52, e71_55, e71_56, e71_57, e71_58, e71_61, e71_62, e71_63, e71_66, e71_69, e71_71, e71_72, e71_76, e71_79, e71_80, e71_83, e71_85, e71_86, e71_87, e71_88, e71_90, e71_93, e71_94, e71_97, e71_99, e71_100, e71_103, e71_105, e71_106, e71_107, e71_108, e71_109, e71_112, e71_115, e71_116, e71_119, e71_121, e71_123, e71_124, e71_127, e71_130, h1, h2, zg6_0, zp6_0, zg6_1, zp6_1, zg6_2, zp6_2, zg6_3, zp6_3, zg6_4, zp6_4, zg6_5, zp6_5, zg6_6, zp6_6, zrc_eq, zup_s, zup_n, zup_up, zal_i, zal_b, zal_z, zas_i, zas_b, zas_z, zan_eq, Option.toList_some, Option.toList_none, List.cons_append, List.nil_append, if_true, if_false, ite_true, ite_false, true_or, or_true, nI_1]
  refine K _ _ zup_s (fun j hj => ?_) (zfr.up rfl zfr.rf) _
  rcases Nat.lt_trichotomy j k with g | g | g
  · rw [upd_n (by omega), insAt_lt g]; exact a1 j g
  · subst g; rw [upd_s, insAt_eq]
  · rw [upd_n (by omega), insAt_gt g]; exact a2 j g (by omega)
set_option maxHeartbeats 2000000 in
theorem c71_74 {n i v : Nat} {y : Nat → Nat} {a b c s u : Int32} {l1 l2 : Option Value} (hi : i < 24) (hv : v ≤ 999) (hy : ∀ j, j < i → y j ≤ 999) : ∀ (k : Nat) (g : Nat → Int32) (h : zH), k ≤ i → h 45 = .inr (6, [.int a, .int b, .int c, .int s, .int u, .ref 46, .ref 47]) → h 47 = .inl (.int, 24, g) → (∀ j, j < k → g j = nI (y j)) → (∀ j, k < j → j ≤ i → g j = nI (y (j - 1))) →
    (∀ h' g', h' 47 = .inl (.int, 24, g') → (∀ j, j < i + 1 → g' j = nI (insAt y (wPos y v k) v j)) → zfr (fun a => a = 47) h h' → ∀ l5, zE X 71 41 [some (.ref 45), l1, l2, some (.int (nI (i + 1))), some (.int (nI v)), l5] [] (N, 0, 0) h' Q) → zE X 71 74 [some (.ref 45), l1, l2, some (.int (nI i)), some (.int (nI v)), some (.int (nI k))] [] (N, 0, 0) h Q := by
  intro k
  induction k with
  | zero =>
    intro g h hk h1 h2 a1 a2 K
    rw [e71_74]
    simp (disch := omega) only [e71_0, e71_1, e71_2, e71_5, e71_6, e71_8, e71_9, e71_12, e71_15, e71_16, e71_17, e71_20, e71_21, e71_22, e71_23, e71_26, e71_29, e71_30, e71_33, e71_36, e71_39, e71_40, e71_42, e71_43, e71_46, e71_49, e71_50, e71_52, e71_55, e71_56, e71_57, e71_58, e71_61, e71_62, e71_63, e71_66, e71_69, e71_71, e71_72, e71_76, e71_79, e71_80, e71_83, e71_85, e71_86, e71_87, e71_88, e71_90, e71_93, e71_94, e71_97, e71_99, e71_100, e71_103, e71_105, e71_106, e71_107, e71_108, e71_109, e71_112, e71_116, e71_119, e71_121, e71_123, e71_124, e71_127, e71_130, zc0, znI_le, if_pos]
    exact c71_115 (n := n) (l4 := none) hi hk h1 h2 a1 a2 K
  | succ k ih =>
    intro g h hk h1 h2 a1 a2 K
    rw [wPos] at K
    have e0 : (nI (k + 1) ≤ 0) = False := eq_false (nI_nle (by omega) (by omega))
    have hyk := hy k (by omega)
    rw [e71_74]
    simp (disch := omega) only [e71_0, e71_1, e71_2, e71_5, e71_6, e71_8, e71_9, e71_12, e71_15, e71_16, e71_17, e71_20, e71_21, e71_22, e71_23, e71_26, e71_29, e71_30, e71_33, e71_36, e71_39, e71_40, e71_42, e71_43, e71_46, e71_49, e71_50, e71_52, e71_55, e71_56, e71_57, e71_58, e71_61, e71_62, e71_63, e71_66, e71_69, e71_71, e71_72, e71_76, e71_79, e71_80, e71_83, e71_85, e71_86, e71_87, e71_88, e71_93, e71_94, e71_97, e71_99, e71_100, e71_103, e71_105, e71_106, e71_107, e71_108, e71_109, e71_112, e71_116, e71_119, e71_121, e71_123, e71_124, e71_127, e71_130, h1, h2, zg6_0, zp6_0, zg6_1, zp6_1, zg6_2, zp6_2, zg6_3, zp6_3, zg6_4, zp6_4, zg6_5, zp6_5, zg6_6, zp6_6, zrc_eq, zup_s, zup_n, zup_up, zal_i, zal_b, zal_z, zas_i, zas_b, zas_z, zan_eq, Option.toList_some, Option.toList_none, List.cons_append, List.nil_append, if_true, if_false, ite_true, ite_false, true_or, or_true, e0, nI_pred, a1 k (Nat.lt_succ_self k)]
    rw [e71_90]
    simp (disch := omega) only [znI_le]
    by_cases g1 : v < y k
    · rw [if_pos g1] at K
      rw [if_neg (by omega)]
      simp (disch := omega) only [e71_0, e71_1, e71_2, e71_5, e71_6, e71_8, e71_9, e71_12, e71_15, e71_16, e71_17, e71_20, e71_21, e71_22, e71_23, e71_26, e71_29, e71_30, e71_33, e71_36, e71_39, e71_40, e71_42, e71_43, e71_46, e71_49, e71_50, e71_52, e71_55, e71_56, e71_57, e71_58, e71_61, e71_62, e71_63, e71_66, e71_69, e71_71, e71_72, e71_76, e71_79, e71_80, e71_83, e71_85, e71_86, e71_87, e71_88, e71_90, e71_93, e71_94, e71_97, e71_99, e71_100, e71_103, e71_105, e71_106, e71_107, e71_108, e71_109, e71_112, e71_116, e71_119, e71_121, e71_123, e71_124, e71_127, e71_130, h1, h2, zg6_0, zp6_0, zg6_1, zp6_1, zg6_2, zp6_2, zg6_3, zp6_3, zg6_4, zp6_4, zg6_5, zp6_5, zg6_6, zp6_6, zrc_eq, zup_s, zup_n, zup_up, zal_i, zal_b, zal_z, zas_i, zas_b, zas_z, zan_eq, Option.toList_some, Option.toList_none, List.cons_append, List.nil_append, if_true, if_false, ite_true, ite_false, true_or, or_true, nI_pred, pk_m1, a1 k (Nat.lt_succ_self k)]
      refine ih _ _ (by omega) ((zup_n (by omega)).trans h1) zup_s (fun j hj => ?_) (fun j hj hj2 => ?_) (fun h' g' b1 b2 b3 => K h' g' b1 b2 (zfr.up rfl b3))
      · rw [upd_n (by omega)]; exact a1 j (by omega)
      · by_cases q : j = k + 1
        · subst q; rw [upd_s]; rfl
        · rw [upd_n q]; exact a2 j (by omega) hj2
    · rw [if_neg g1] at K
      rw [if_pos (by omega)]
      exact c71_115 (n := n) (l4 := none) hi hk h1 h2 a1 a2 K
/-- the split, weighed: worth of those paid surely, of those in the lot, the least first -/
def pWe (h : zH) (S : zSh) (n s : Nat) (y : Nat → Nat) : Prop := ∃ (u : Int32) (f g : Nat → Int32), h 45 = .inr (6, [.int (nI (pSu S n)), .int (nI (pLo S n)), .int (nI (pDr S n)), .int (nI s), .int u, .ref 46, .ref 47]) ∧ h 46 = .inl (.int, 24, f) ∧ h 47 = .inl (.int, 24, g) ∧ ∀ j, j < pLo S n → g j = nI (y j)
set_option maxHeartbeats 2000000 in
theorem pWe.qq {n s : Nat} {y : Nat → Nat} (hp : pWe h S n s y) : qSp h := by
  obtain ⟨u, f, g, h1, h2, h3, -⟩ := hp
  exact ⟨_, _, _, _, u, f, g, h1, h2, h3⟩
set_option maxHeartbeats 2000000 in
theorem c71_41 {n s : Nat} {f : Nat → Nat} {u : Int32} (ok : sK S) (hn : n ≤ 24) (hld : ld + 7 < 37) (hf : ∀ j, j < n → f j < S.1.1) : ∀ (m i : Nat) (g46 g : Nat → Int32) (h : zH) (l4 l5 : Option Value), m + i = pLo S n → pSh h ld S → pRn h 37 n f → h 45 = .inr (6, [.int (nI (pSu S n)), .int (nI (pLo S n)), .int (nI (pDr S n)), .int (nI s), .int u, .ref 46, .ref 47]) → h 46 = .inl (.int, 24, g46) → h 47 = .inl (.int, 24, g) → (∀ j, j < i → g j = nI (wSort (fun k => sW S (f (pSu S n + k))) i j)) → (∀ h', pWe h' S n s (wSort (fun k => sW S (f (pSu S n + k))) (pLo S n)) → zfr (fun a => 45 ≤ a ∧ a ≤ 47) h h' → Q none N h') → zE X 71 41 [some (.ref 45), some (.ref ld), some (.ref 37), some (.int (nI i)), l4, l5] [] (N, 0, 0) h Q := by
  have b1 : pSu S n ≤ n := Nat.min_le_right _ _
  have b2 : pLo S n ≤ n - pSu S n := Nat.min_le_right _ _
  intro m
  induction m with
  | zero =>
    intro i g46 g h l4 l5 hm hs hr h1 h46 h2 a1 K
    obtain rfl : i = pLo S n := by omega
    rw [e71_41]
    simp (disch := omega) only [e71_0, e71_1, e71_2, e71_5, e71_6, e71_8, e71_9, e71_12, e71_15, e71_16, e71_17, e71_20, e71_21, e71_22, e71_23, e71_26, e71_29, e71_30, e71_33, e71_36, e71_39, e71_40, e71_42, e71_43, e71_46, e71_49, e71_50, e71_52, e71_55, e71_56, e71_57, e71_58, e71_61, e71_62, e71_63, e71_66, e71_69, e71_71, e71_72, e71_76, e71_79, e71_80, e71_83, e71_85, e71_86, e71_87, e71_88, e71_90, e71_93, e71_94, e71_97, e71_99, e71_100, e71_103, e71_105, e71_106, e71_107, e71_108, e71_109, e71_112, e71_115, e71_116, e71_119, e71_121, e71_123, e71_124, e71_127, e71_130, h1, zg6_0, zp6_0, zg6_1, zp6_1, zg6_2, zp6_2, zg6_3, zp6_3, zg6_4, zp6_4, zg6_5, zp6_5, zg6_6, zp6_6, zrc_eq, zup_s, zup_n, zup_up, zal_i, zal_b, zal_z, zas_i, zas_b, zas_z, zan_eq, Option.toList_some, Option.toList_none, List.cons_append, List.nil_append, if_true, if_false, ite_true, ite_false, true_or, or_true, znI_le, if_pos]
    exact K h ⟨u, g46, g, h1, h46, h2, a1⟩ zfr.rf
  | succ m ih =>
    intro i g46 g h l4 l5 hm hs hr h1 h46 h2 a1 K
    have hfi := hf (pSu S n + i) (by omega)
    obtain ⟨o1, -⟩ := hr.obj
    obtain ⟨v2, v3, v4, v5, v6, v7, v8, v9, v10, v11, v12, v13, v14, v15, q1, -⟩ := hs.wo
    rw [e71_41]
    simp (disch := omega) only [e71_0, e71_1, e71_2, e71_5, e71_6, e71_8, e71_9, e71_12, e71_15, e71_16, e71_17, e71_20, e71_21, e71_22, e71_23, e71_26, e71_29, e71_30, e71_33, e71_36, e71_39, e71_40, e71_42, e71_43, e71_46, e71_49, e71_50, e71_52, e71_55, e71_56, e71_57, e71_58, e71_61, e71_62, e71_63, e71_66, e71_69, e71_71, e71_72, e71_76, e71_79, e71_80, e71_83, e71_85, e71_86, e71_87, e71_88, e71_90, e71_93, e71_94, e71_97, e71_99, e71_100, e71_103, e71_105, e71_106, e71_107, e71_108, e71_109, e71_112, e71_115, e71_116, e71_119, e71_121, e71_123, e71_124, e71_127, e71_130, h1, o1, q1, zg6_0, zp6_0, zg6_1, zp6_1, zg6_2, zp6_2, zg6_3, zp6_3, zg6_4, zp6_4, zg6_5, zp6_5, zg6_6, zp6_6, zrc_eq, zup_s, zup_n, zup_up, zal_i, zal_b, zal_z, zas_i, zas_b, zas_z, zan_eq, Option.toList_some, Option.toList_none, List.cons_append, List.nil_append, if_true, if_false, ite_true, ite_false, true_or, or_true, zc24, znI_le, if_neg, nI_add, c46 hr, c72 hs ok hfi]
    refine c71_74 (n := n) (y := wSort (fun k => sW S (f (pSu S n + k))) i) (by omega) (ok.wo hfi).2 (fun j hj => wSort_le i (fun k hk => (ok.wo (hf _ (by omega))).2) j hj) i g h (Nat.le_refl _) h1 h2 a1 (fun j x y => by omega) (fun h' g' c1 c2 c3 l5 => ?_)
    refine ih (i + 1) g46 g' h' _ _ (by omega) (hs.kept c3 (by omega)) (hr.kept c3 (by omega)) ((c3 45 (by omega)).trans h1) ((c3 46 (by omega)).trans h46) c1 (fun j hj => ?_) (fun h2 d1 d2 => K h2 d1 ((c3.mono (fun a ha => by omega)).tr d2))
    rw [wSort]
    exact c2 j hj
set_option maxHeartbeats 2000000 in
theorem c71_7 {n : Nat} {f : Nat → Nat} {u : Int32} {l4 l5 : Option Value} (ok : sK S) (hn : n ≤ 24) (hld : ld + 7 < 37) (hf : ∀ j, j < n → f j < S.1.1) : ∀ (m r : Nat) (g46 g47 : Nat → Int32) (h : zH), m + r = pSu S n → pSh h ld S → pRn h 37 n f → h 45 = .inr (6, [.int (nI (pSu S n)), .int (nI (pLo S n)), .int (nI (pDr S n)), .int (nI (nSum (fun k => sW S (f k)) r)), .int u, .ref 46, .ref 47]) → h 46 = .inl (.int, 24, g46) → h 47 = .inl (.int, 24, g47) → (∀ h', pWe h' S n (nSum (fun k => sW S (f k)) (pSu S n)) (wSort (fun k => sW S (f (pSu S n + k))) (pLo S n)) → zfr (fun a => 45 ≤ a ∧ a ≤ 47) h h' → Q none N h') → zE X 71 7 [some (.ref 45), some (.ref ld), some (.ref 37), some (.int (nI r)), l4, l5] [] (N, 0, 0) h Q := by
  have b1 : pSu S n ≤ n := Nat.min_le_right _ _
  intro m
  induction m with
  | zero =>
    intro r g46 g47 h hm hs hr h1 h46 h47 K
    obtain rfl : r = pSu S n := by omega
    rw [e71_7]
    simp (disch := omega) only [e71_0, e71_1, e71_2, e71_5, e71_6, e71_8, e71_9, e71_12, e71_15, e71_16, e71_17, e71_20, e71_21, e71_22, e71_23, e71_26, e71_29, e71_30, e71_33, e71_36, e71_39, e71_40, e71_42, e71_43, e71_46, e71_49, e71_50, e71_52, e71_55, e71_56, e71_57, e71_58, e71_61, e71_62, e71_63, e71_66, e71_69, e71_71, e71_72, e71_76, e71_79, e71_80, e71_83, e71_85, e71_86, e71_87, e71_88, e71_90, e71_93, e71_94, e71_97, e71_99, e71_100, e71_103, e71_105, e71_106, e71_107, e71_108, e71_109, e71_112, e71_115, e71_116, e71_119, e71_121, e71_123, e71_124, e71_127, e71_130, h1, zg6_0, zp6_0, zg6_1, zp6_1, zg6_2, zp6_2, zg6_3, zp6_3, zg6_4, zp6_4, zg6_5, zp6_5, zg6_6, zp6_6, zrc_eq, zup_s, zup_n, zup_up, zal_i, zal_b, zal_z, zas_i, zas_b, zas_z, zan_eq, Option.toList_some, Option.toList_none, List.cons_append, List.nil_append, if_true, if_false, ite_true, ite_false, true_or, or_true, zc0, znI_le, if_pos]
    exact c71_41 ok hn hld hf (pLo S n) 0 g46 g47 h _ _ (by omega) hs hr h1 h46 h47 (fun j hj => absurd hj (Nat.not_lt_zero j)) K
  | succ m ih =>
    intro r g46 g47 h hm hs hr h1 h46 h47 K
    have hfi := hf r (by omega)
    obtain ⟨o1, -⟩ := hr.obj
    obtain ⟨v2, v3, v4, v5, v6, v7, v8, v9, v10, v11, v12, v13, v14, v15, q1, -⟩ := hs.wo
    have eS : nSum (fun k => sW S (f k)) r + sW S (f r) = nSum (fun k => sW S (f k)) (r + 1) := rfl
    rw [e71_7]
    simp (disch := omega) only [e71_0, e71_1, e71_2, e71_5, e71_6, e71_8, e71_9, e71_12, e71_15, e71_16, e71_17, e71_20, e71_21, e71_22, e71_23, e71_26, e71_29, e71_30, e71_33, e71_36, e71_39, e71_40, e71_42, e71_43, e71_46, e71_49, e71_50, e71_52, e71_55, e71_56, e71_57, e71_58, e71_61, e71_62, e71_63, e71_66, e71_69, e71_71, e71_72, e71_76, e71_79, e71_80, e71_83, e71_85, e71_86, e71_87, e71_88, e71_90, e71_93, e71_94, e71_97, e71_99, e71_100, e71_103, e71_105, e71_106, e71_107, e71_108, e71_109, e71_112, e71_115, e71_116, e71_119, e71_121, e71_123, e71_124, e71_127, e71_130, h1, o1, q1, zg6_0, zp6_0, zg6_1, zp6_1, zg6_2, zp6_2, zg6_3, zp6_3, zg6_4, zp6_4, zg6_5, zp6_5, zg6_6, zp6_6, zrc_eq, zup_s, zup_n, zup_up, zal_i, zal_b, zal_z, zas_i, zas_b, zas_z, zan_eq, Option.toList_some, Option.toList_none, List.cons_append, List.nil_append, if_true, if_false, ite_true, ite_false, true_or, or_true, znI_le, if_neg, nI_add, c46 hr, c72 hs ok hfi, nI_1, eS]
    have F1 : zfr (fun a => 45 ≤ a ∧ a ≤ 47) h (va_up h 45 (.inr (6, [.int (nI (pSu S n)), .int (nI (pLo S n)), .int (nI (pDr S n)), .int (nI (nSum (fun k => sW S (f k)) (r + 1))), .int u, .ref 46, .ref 47]))) := zfr.up (by omega) zfr.rf
    exact ih (r + 1) g46 g47 _ (by omega) (hs.kept F1 (by omega)) (hr.kept F1 (by omega)) zup_s ((zup_n (by omega)).trans h46) ((zup_n (by omega)).trans h47) (fun h' c1 c2 => K h' c1 (F1.tr c2))
set_option maxHeartbeats 2000000 in
theorem c71 {n : Nat} {f : Nat → Nat} (ok : sK S) (hld : ld + 7 < 37) (hf : ∀ j, j < n → f j < S.1.1) (hs : pSh h ld S) (hr : pRn h 37 n f) (hp : pSp h S n) (K : ∀ h', pWe h' S n (nSum (fun k => sW S (f k)) (pSu S n)) (wSort (fun k => sW S (f (pSu S n + k))) (pLo S n)) → zfr (fun a => 45 ≤ a ∧ a ≤ 47) h h' → Q none N h') : zE X 71 0 [some (.ref 45), some (.ref ld), some (.ref 37), none, none, none] [] (N, 0, 0) h Q := by
  obtain ⟨x, y, g46, g47, h1, h2, h3⟩ := hp
  obtain ⟨o1, o2⟩ := hr.obj
  simp (disch := omega) only [e71_0, e71_1, e71_2, e71_5, e71_6, e71_8, e71_9, e71_12, e71_15, e71_16, e71_17, e71_20, e71_21, e71_22, e71_23, e71_26, e71_29, e71_30, e71_33, e71_36, e71_39, e71_40, e71_42, e71_43, e71_46, e71_49, e71_50, e71_52, e71_55, e71_56, e71_57, e71_58, e71_61, e71_62, e71_63, e71_66, e71_69, e71_71, e71_72, e71_76, e71_79, e71_80, e71_83, e71_85, e71_86, e71_87, e71_88, e71_90, e71_93, e71_94, e71_97, e71_99, e71_100, e71_103, e71_105, e71_106, e71_107, e71_108, e71_109, e71_112, e71_115, e71_116, e71_119, e71_121, e71_123, e71_124, e71_127, e71_130, h1, zg6_0, zp6_0, zg6_1, zp6_1, zg6_2, zp6_2, zg6_3, zp6_3, zg6_4, zp6_4, zg6_5, zp6_5, zg6_6, zp6_6, zrc_eq, zup_s, zup_n, zup_up, zal_i, zal_b, zal_z, zas_i, zas_b, zas_z, zan_eq, Option.toList_some, Option.toList_none, List.cons_append, List.nil_append, if_true, if_false, ite_true, ite_false, true_or, or_true, zc0]
  have F1 : zfr (fun a => 45 ≤ a ∧ a ≤ 47) h (va_up h 45 (.inr (6, [.int (nI (pSu S n)), .int (nI (pLo S n)), .int (nI (pDr S n)), .int (nI 0), .int y, .ref 46, .ref 47]))) := zfr.up (by omega) zfr.rf
  exact c71_7 ok o2 hld hf (pSu S n) 0 g46 g47 _ (by omega) (hs.kept F1 (by omega)) (hr.kept F1 (by omega)) zup_s ((zup_n (by omega)).trans h2) ((zup_n (by omega)).trans h3) (fun h' c1 c2 => K h' c1 (F1.tr c2))
set_option maxHeartbeats 2000000 in
theorem c73_loop {n s a b : Nat} {y : Nat → Nat} {l1 : Option Value} (hp : pWe h S n s y) (hn : pLo S n ≤ 24) (hab : a + b ≤ pLo S n) : ∀ m u, m + u = b → zE X 73 9 [some (.ref 45), l1, some (.int (nI (a + b))), some (.int (nI (nSum (fun k => y (a + k)) u))), some (.int (nI (a + u)))] [] (N, 0, 0) h Q = Q (some (.int (nI (nSum (fun k => y (a + k)) b)))) N h := by
  obtain ⟨u0, f, g, h1, h2, h3, h4⟩ := hp
  intro m
  induction m with
  | zero =>
    intro u hu
    obtain rfl : u = b := by omega
    rw [e73_9]
    simp (disch := omega) only [e73_0, e73_1, e73_2, e73_3, e73_4, e73_7, e73_11, e73_12, e73_15, e73_17, e73_19, e73_22, e73_23, e73_24, e73_27, e73_29, e73_30, e73_31, e73_32, e73_35, e73_38, e73_39, znI_le, if_pos]
  | succ m ih =>
    intro u hu
    have ih' := ih (u + 1) (by omega)
    rw [nSum, ← Nat.add_assoc] at ih'
    rw [e73_9]
    simp (disch := omega) only [e73_0, e73_1, e73_2, e73_3, e73_4, e73_7, e73_11, e73_12, e73_15, e73_17, e73_19, e73_22, e73_23, e73_24, e73_27, e73_29, e73_30, e73_31, e73_32, e73_35, e73_38, e73_39, h1, h3, zg6_0, zp6_0, zg6_1, zp6_1, zg6_2, zp6_2, zg6_3, zp6_3, zg6_4, zp6_4, zg6_5, zp6_5, zg6_6, zp6_6, zrc_eq, zup_s, zup_n, zup_up, zal_i, zal_b, zal_z, zas_i, zas_b, zas_z, zan_eq, Option.toList_some, Option.toList_none, List.cons_append, List.nil_append, if_true, if_false, ite_true, ite_false, true_or, or_true, zc24, znI_le, if_neg, h4, nI_add, nI_1]
    exact ih'
set_option maxHeartbeats 2000000 in
theorem zmax0 {a : Nat} (ha : a < 2 ^ 31) : (if (0 : Int32) < nI a then nI a else 0) = nI a := by
  by_cases g : a = 0
  · subst g; decide
  · rw [if_pos (by rw [zlt_le]; exact nI_nle (by omega) ha)]
set_option maxHeartbeats 2000000 in
theorem c73 {n s a b : Nat} {y : Nat → Nat} (hp : pWe h S n s y) (hn : pLo S n ≤ 24) (hab : a + b ≤ pLo S n) : zE X 73 0 [some (.ref 45), some (.int (nI a)), some (.int (nI (a + b))), none, none] [] (N, 0, 0) h Q = Q (some (.int (nI (nSum (fun k => y (a + k)) b)))) N h := by
  have e := zmax0 (a := a) (by omega)
  simp (disch := omega) only [e73_0, e73_1, e73_2, e73_3, e73_4, e73_7, e73_11, e73_12, e73_15, e73_17, e73_19, e73_22, e73_23, e73_24, e73_27, e73_29, e73_30, e73_31, e73_32, e73_35, e73_38, e73_39, c74, zrc_eq, zup_s, zup_n, zup_up, zal_i, zal_b, zal_z, zas_i, zas_b, zas_z, zan_eq, Option.toList_some, Option.toList_none, List.cons_append, List.nil_append, if_true, if_false, ite_true, ite_false, true_or, or_true, e]
  exact c73_loop hp hn hab b 0 (by omega)
def brA (S : zSh) (n : Nat) (f : Nat → Nat) : Nat := if pLo S n = 0 then nSum (fun k => sW S (f k)) (pSu S n) else nSum (fun k => sW S (f k)) (pSu S n) * pLo S n + pDr S n * nSum (fun k => sW S (f (pSu S n + k))) (pLo S n)
def brB (S : zSh) (n : Nat) : Nat := if pLo S n = 0 then 1 else pLo S n
def aBrings (S : zSh) (T : zTm) (p d w : Int32) : Int32 := if isPan S.2.1.1 p ∧ isDr d ∧ (0 ≤ w ∧ w ≤ 3) then (if w = 0 then nI (nSum (fun k => sW S (oF S T p d k)) (pSu S (oN S T))) + nI (vMin (fun k => sW S (oF S T p d (pSu S (oN S T) + k))) (pLo S (oN S T)) (pDr S (oN S T))) else if w = 1 then nI (nSum (fun k => sW S (oF S T p d k)) (pSu S (oN S T))) + nI (vMax (fun k => sW S (oF S T p d (pSu S (oN S T) + k))) (pLo S (oN S T)) (pDr S (oN S T))) else if w = 2 then nI (brA S (oN S T) (oF S T p d) / Nat.gcd (brA S (oN S T) (oF S T p d)) (brB S (oN S T))) else nI (brB S (oN S T) / Nat.gcd (brA S (oN S T) (oF S T p d)) (brB S (oN S T)))) else -1
set_option maxHeartbeats 2000000 in
theorem brA_le {n : Nat} {f : Nat → Nat} (ok : sK S) (hn : n ≤ 24) (hf : ∀ j, j < n → f j < S.1.1) : brA S n f ≤ 2000000 := by
  have b1 : pSu S n ≤ n := Nat.min_le_right _ _
  have b2 : pLo S n ≤ n - pSu S n := Nat.min_le_right _ _
  have b4 : pDr S n ≤ pLo S n := Nat.min_le_right _ _
  have x1 := nSum_le (f := fun k => sW S (f k)) (c := 999) (pSu S n) (fun k hk => (ok.wo (hf _ (by omega))).2)
  have x2 := nSum_le (f := fun k => sW S (f (pSu S n + k))) (c := 999) (pLo S n) (fun k hk => (ok.wo (hf _ (by omega))).2)
  have x3 : nSum (fun k => sW S (f k)) (pSu S n) ≤ 23976 := by omega
  have x4 : nSum (fun k => sW S (f (pSu S n + k))) (pLo S n) ≤ 23976 := by omega
  have x5 : nSum (fun k => sW S (f k)) (pSu S n) * pLo S n ≤ 23976 * 24 := Nat.mul_le_mul x3 (by omega)
  have x6 : pDr S n * nSum (fun k => sW S (f (pSu S n + k))) (pLo S n) ≤ 24 * 23976 := Nat.mul_le_mul (by omega) x4
  unfold brA
  split <;> omega
set_option maxHeartbeats 2000000 in
theorem c75 {n s : Nat} {y : Nat → Nat} {f : Nat → Nat} {a b : Int32} (hp : pWe h S n (nSum (fun k => sW S (f k)) (pSu S n)) y) (ok : sK S) (hn : n ≤ 24) (hf : ∀ j, j < n → f j < S.1.1) (hy : nSum y (pLo S n) = nSum (fun k => sW S (f (pSu S n + k))) (pLo S n)) (h49 : h 49 = .inr (3, [.int a, .int b])) : zE X 75 0 [some (.ref 45), some (.ref 49), none] [] (N, 0, 0) h Q = Q none N (va_up h 49 (.inr (3, [.int (nI (brA S n f / Nat.gcd (brA S n f) (brB S n))), .int (nI (brB S n / Nat.gcd (brA S n f) (brB S n)))]))) := by
  have hp' := hp
  obtain ⟨u0, f0, g, h1, h2, h3, h4⟩ := hp
  have bl := brA_le (f := f) ok hn hf
  have b1 : pSu S n ≤ n := Nat.min_le_right _ _
  have b2 : pLo S n ≤ n - pSu S n := Nat.min_le_right _ _
  have E := fun Q' => c73 (X := X) (N := N) (Q := Q') (a := 0) (b := pLo S n) hp' (by omega) (by omega)
  simp only [Nat.zero_add] at E
  rw [nI_0] at E
  have b0 : 0 < brB S n ∧ brB S n ≤ 24 := by unfold brB; split <;> omega
  have e1 : (if (1 : Int32) < nI (pLo S n) then nI (pLo S n) else 1) = nI (brB S n) := by
    unfold brB
    by_cases g : pLo S n = 0
    · rw [if_pos g, g]; decide
    · rw [if_neg g]
      by_cases g2 : pLo S n = 1
      · rw [g2]; decide
      · rw [zc1, if_pos ((nI_ltI (by omega) (by omega)).mpr (by omega))]
  have e2 : nSum (fun k => sW S (f k)) (pSu S n) * brB S n + pDr S n * nSum y (pLo S n) = brA S n f := by
    rw [hy]
    unfold brA brB
    by_cases g : pLo S n = 0
    · have b4 : pDr S n ≤ pLo S n := Nat.min_le_right _ _
      have : pDr S n = 0 := by omega
      rw [if_pos g, if_pos g, this]
      omega
    · rw [if_neg g, if_neg g]
  have E2 := fun Q' => c57' (X := X) (N := N) (Q := Q') (a := brA S n f) (b := brB S n) (by omega) b0.1 (by omega) h49
  simp (disch := omega) only [e75_0, e75_1, e75_2, e75_5, e75_8, e75_9, e75_10, e75_11, e75_14, e75_15, e75_16, e75_17, e75_20, e75_21, e75_22, e75_23, e75_26, e75_29, e75_30, e75_31, e75_32, e75_35, h1, h49, zg6_0, zp6_0, zg6_1, zp6_1, zg6_2, zp6_2, zg6_3, zp6_3, zg6_4, zp6_4, zg6_5, zp6_5, zg6_6, zp6_6, zrc_eq, zup_s, zup_n, zup_up, zal_i, zal_b, zal_z, zas_i, zas_b, zas_z, zan_eq, Option.toList_some, Option.toList_none, List.cons_append, List.nil_append, if_true, if_false, ite_true, ite_false, true_or, or_true, c74, e1, E, pk_mul, nI_add, e2, E2]
set_option maxHeartbeats 2000000 in
theorem c70 (hc : zCR h ld dd kp S T) (K : ∀ h', zCS h' → zcf h h' → Q (some (.int (aBrings S T p d w))) N h') : zE X 70 0 [some (.ref 0), some (.int p), some (.int d), some (.int w)] [] (N, 0, 0) h Q := by
  have hc' := hc
  obtain ⟨h0, hd, hs, ok, ht, cs⟩ := hc
  have h0' := h0
  unfold pObj at h0
  simp only [e70_0, e70_1, e70_2, e70_5, e70_8, e70_9, e70_12, e70_15, e70_16, e70_17, e70_18, e70_21, e70_24, e70_25, e70_27, e70_28, e70_29, e70_32, e70_33, e70_36, e70_37, e70_40, e70_41, e70_44, e70_47, e70_48, e70_51, e70_52, e70_55, e70_58, e70_59, e70_62, e70_63, e70_64, e70_67, e70_70, e70_73, e70_74, e70_75, e70_76, e70_77, e70_80, e70_81, e70_84, e70_87, e70_88, e70_91, e70_92, e70_95, e70_98, e70_99, e70_102, e70_105, e70_106, e70_107, e70_110, e70_113, e70_116, e70_117, e70_118, e70_119, e70_122, e70_123, e70_126, e70_129, e70_130, e70_131, e70_134, e70_135, e70_138, e70_141, e70_144, e70_145, e70_148, e70_151, h0, c41 h0' hs, c37, c13, zrc_eq, zup_s, zup_n, zup_up, zal_i, zal_b, zal_z, zas_i, zas_b, zas_z, zan_eq, Option.toList_some, Option.toList_none, List.cons_append, List.nil_append, if_true, if_false, ite_true, ite_false, true_or, or_true, z10, z00]
  unfold aBrings at K
  by_cases g1 : isPan S.2.1.1 p
  · rw [if_pos g1]
    by_cases g2 : isDr d
    · rw [if_pos g2]
      by_cases g3 : 0 ≤ w ∧ w ≤ 3
      · rw [if_pos g3]
        rw [if_pos ⟨g1, g2, g3⟩] at K
        simp (disch := omega) only [e70_0, e70_1, e70_2, e70_5, e70_8, e70_9, e70_12, e70_15, e70_16, e70_17, e70_18, e70_21, e70_24, e70_25, e70_26, e70_27, e70_28, e70_29, e70_32, e70_33, e70_36, e70_37, e70_40, e70_41, e70_44, e70_47, e70_48, e70_51, e70_52, e70_55, e70_58, e70_59, e70_62, e70_63, e70_64, e70_67, e70_70, e70_73, e70_74, e70_75, e70_76, e70_77, e70_80, e70_81, e70_84, e70_87, e70_88, e70_91, e70_92, e70_95, e70_98, e70_99, e70_102, e70_105, e70_106, e70_107, e70_110, e70_113, e70_116, e70_117, e70_118, e70_119, e70_122, e70_123, e70_126, e70_129, e70_130, e70_131, e70_134, e70_135, e70_138, e70_141, e70_144, e70_145, e70_148, e70_151, h0, zg9_0, zp9_0, zg9_1, zp9_1, zg9_2, zp9_2, zg9_3, zp9_3, zg9_4, zp9_4, zg9_5, zp9_5, zg9_6, zp9_6, zg9_7, zp9_7, zg9_8, zp9_8, zg9_9, zp9_9, zg9_10, zp9_10, zg9_11, zp9_11, zg9_12, zp9_12, zg9_13, zp9_13, zg9_14, zp9_14, zg9_15, zp9_15, zg9_16, zp9_16, zrc_eq, zup_s, zup_n, zup_up, zal_i, zal_b, zal_z, zas_i, zas_b, zas_z, zan_eq, Option.toList_some, Option.toList_none, List.cons_append, List.nil_append, if_true, if_false, ite_true, ite_false, true_or, or_true]
        refine c63 hc' (fun h' a1 a2 a3 a4 => ?_)
        have e0 := (a4 0 (by omega)).trans h0
        have h45 : ∃ fs, h' 45 = .inr (6, fs) := by obtain ⟨x, y, f, g, h1, -⟩ := a2; exact ⟨_, h1⟩
        obtain ⟨fs, h45⟩ := h45
        obtain ⟨o1, o2⟩ := a1.obj
        have hO := oOkN (S := S) (T := T) (p := p) (d := d)
        have hf : ∀ j, j < oN S T → oF S T p d j < S.1.1 := fun j hj => (hO.2.1 j hj).1
        simp (disch := omega) only [e70_0, e70_1, e70_2, e70_5, e70_8, e70_9, e70_12, e70_15, e70_16, e70_17, e70_18, e70_21, e70_24, e70_25, e70_26, e70_27, e70_28, e70_29, e70_32, e70_33, e70_36, e70_37, e70_40, e70_41, e70_44, e70_47, e70_48, e70_51, e70_52, e70_55, e70_58, e70_59, e70_62, e70_63, e70_64, e70_67, e70_70, e70_73, e70_74, e70_75, e70_76, e70_77, e70_80, e70_81, e70_84, e70_87, e70_88, e70_91, e70_92, e70_95, e70_98, e70_99, e70_102, e70_105, e70_106, e70_107, e70_110, e70_113, e70_116, e70_117, e70_118, e70_119, e70_122, e70_123, e70_126, e70_129, e70_130, e70_131, e70_134, e70_135, e70_138, e70_141, e70_144, e70_145, e70_148, e70_151, Option.toList_none, List.nil_append, e0, h45, zg9_0, zp9_0, zg9_1, zp9_1, zg9_2, zp9_2, zg9_3, zp9_3, zg9_4, zp9_4, zg9_5, zp9_5, zg9_6, zp9_6, zg9_7, zp9_7, zg9_8, zp9_8, zg9_9, zp9_9, zg9_10, zp9_10, zg9_11, zp9_11, zg9_12, zp9_12, zg9_13, zp9_13, zg9_14, zp9_14, zg9_15, zp9_15, zg9_16, zp9_16, zrc_eq, zup_s, zup_n, zup_up, zal_i, zal_b, zal_z, zas_i, zas_b, zas_z, zan_eq, Option.toList_some, Option.toList_none, List.cons_append, List.nil_append, if_true, if_false, ite_true, ite_false, true_or, or_true]
        refine c71 ok (by omega) hf a3.2.2.1 a1 a2 (fun h2 b1 b2 => ?_)
        have C2 : zCS h2 := a3.2.2.2.2.2.sp b2 b1.qq
        have F2 : zcf h h2 := a4.tr (b2.mono (fun a ha => by omega))
        have e02 := (b2 0 (by omega)).trans e0
        generalize hn : oN S T = n at *
        generalize hF : oF S T p d = f at *
        have q1 : pSu S n ≤ n := Nat.min_le_right _ _
        have q2 : pLo S n ≤ n - pSu S n := Nat.min_le_right _ _
        have q4 : pDr S n ≤ pLo S n := Nat.min_le_right _ _
        have hx : ∀ k, k < pLo S n → sW S (f (pSu S n + k)) ≤ 999 := fun k hk => (ok.wo (hf _ (by omega))).2
        have hy := wSort_le (x := fun k => sW S (f (pSu S n + k))) (pLo S n) hx
        have hcq := fun pp => wSort_cq (x := fun k => sW S (f (pSu S n + k))) (p := pp) (pLo S n)
        have hso := wSort_so (x := fun k => sW S (f (pSu S n + k))) (pLo S n)
        have mn := pre_min q4 hy hcq (fun i j x y z => hso i j (by omega) z)
        have mx := suf_max q4 hy hcq hso
        have b1' := b1
        obtain ⟨u0, f0, g0, s1, s2, s3, s4⟩ := b1
        by_cases g4 : w = 0
        · rw [if_pos g4] at K
          have E := fun Q' => c73 (X := X) (N := N) (Q := Q') (a := 0) (b := pDr S n) b1' (by omega) (by omega)
          simp only [Nat.zero_add] at E
          rw [nI_0] at E
          simp (disch := omega) only [e70_0, e70_1, e70_2, e70_5, e70_8, e70_9, e70_12, e70_15, e70_16, e70_17, e70_18, e70_21, e70_24, e70_25, e70_26, e70_27, e70_28, e70_29, e70_32, e70_33, e70_36, e70_37, e70_40, e70_41, e70_44, e70_47, e70_48, e70_51, e70_52, e70_55, e70_58, e70_59, e70_62, e70_63, e70_64, e70_67, e70_70, e70_73, e70_74, e70_75, e70_76, e70_77, e70_80, e70_81, e70_84, e70_87, e70_88, e70_91, e70_92, e70_95, e70_98, e70_99, e70_102, e70_105, e70_106, e70_107, e70_110, e70_113, e70_116, e70_117, e70_118, e70_119, e70_122, e70_123, e70_126, e70_129, e70_130, e70_131, e70_134, e70_135, e70_138, e70_141, e70_144, e70_145, e70_148, e70_151, Option.toList_none, List.nil_append, e02, s1, zg9_0, zp9_0, zg9_1, zp9_1, zg9_2, zp9_2, zg9_3, zp9_3, zg9_4, zp9_4, zg9_5, zp9_5, zg9_6, zp9_6, zg9_7, zp9_7, zg9_8, zp9_8, zg9_9, zp9_9, zg9_10, zp9_10, zg9_11, zp9_11, zg9_12, zp9_12, zg9_13, zp9_13, zg9_14, zp9_14, zg9_15, zp9_15, zg9_16, zp9_16, zg6_0, zp6_0, zg6_1, zp6_1, zg6_2, zp6_2, zg6_3, zp6_3, zg6_4, zp6_4, zg6_5, zp6_5, zg6_6, zp6_6, zrc_eq, zup_s, zup_n, zup_up, zal_i, zal_b, zal_z, zas_i, zas_b, zas_z, zan_eq, Option.toList_some, Option.toList_none, List.cons_append, List.nil_append, if_true, if_false, ite_true, ite_false, true_or, or_true, g4, ↓reduceIte, E]
          rw [mn]
          exact K h2 C2 F2
        · rw [if_neg g4] at K
          by_cases g5 : w = 1
          · rw [if_pos g5] at K
            have E := fun Q' => c73 (X := X) (N := N) (Q := Q') (a := pLo S n - pDr S n) (b := pDr S n) b1' (by omega) (by omega)
            rw [show pLo S n - pDr S n + pDr S n = pLo S n by omega] at E
            simp (disch := omega) only [e70_0, e70_1, e70_2, e70_5, e70_8, e70_9, e70_12, e70_15, e70_16, e70_17, e70_18, e70_21, e70_24, e70_25, e70_26, e70_27, e70_28, e70_29, e70_32, e70_33, e70_36, e70_37, e70_40, e70_41, e70_44, e70_47, e70_48, e70_51, e70_52, e70_55, e70_58, e70_59, e70_62, e70_63, e70_64, e70_67, e70_70, e70_73, e70_74, e70_75, e70_76, e70_77, e70_80, e70_81, e70_84, e70_87, e70_88, e70_91, e70_92, e70_95, e70_98, e70_99, e70_102, e70_105, e70_106, e70_107, e70_110, e70_113, e70_116, e70_117, e70_118, e70_119, e70_122, e70_123, e70_126, e70_129, e70_130, e70_131, e70_134, e70_135, e70_138, e70_141, e70_144, e70_145, e70_148, e70_151, Option.toList_none, List.nil_append, e02, s1, zg9_0, zp9_0, zg9_1, zp9_1, zg9_2, zp9_2, zg9_3, zp9_3, zg9_4, zp9_4, zg9_5, zp9_5, zg9_6, zp9_6, zg9_7, zp9_7, zg9_8, zp9_8, zg9_9, zp9_9, zg9_10, zp9_10, zg9_11, zp9_11, zg9_12, zp9_12, zg9_13, zp9_13, zg9_14, zp9_14, zg9_15, zp9_15, zg9_16, zp9_16, zg6_0, zp6_0, zg6_1, zp6_1, zg6_2, zp6_2, zg6_3, zp6_3, zg6_4, zp6_4, zg6_5, zp6_5, zg6_6, zp6_6, zrc_eq, zup_s, zup_n, zup_up, zal_i, zal_b, zal_z, zas_i, zas_b, zas_z, zan_eq, Option.toList_some, Option.toList_none, List.cons_append, List.nil_append, if_true, if_false, ite_true, ite_false, true_or, or_true, g4, g5, ↓reduceIte, z10, pk_sub, E]
            rw [mx]
            exact K h2 C2 F2
          · rw [if_neg g5] at K
            obtain ⟨x, y, r3⟩ := C2.2.2.2.2.1
            have E := fun Q' => c75 (X := X) (N := N) (Q := Q') (s := 0) b1' ok o2 hf (sum_eq hy hx hcq) r3
            simp (disch := omega) only [e70_0, e70_1, e70_2, e70_5, e70_8, e70_9, e70_12, e70_15, e70_16, e70_17, e70_18, e70_21, e70_24, e70_25, e70_26, e70_27, e70_28, e70_29, e70_32, e70_33, e70_36, e70_37, e70_40, e70_41, e70_44, e70_47, e70_48, e70_51, e70_52, e70_55, e70_58, e70_59, e70_62, e70_63, e70_64, e70_67, e70_70, e70_73, e70_74, e70_75, e70_76, e70_77, e70_80, e70_81, e70_84, e70_87, e70_88, e70_91, e70_92, e70_95, e70_98, e70_99, e70_102, e70_105, e70_106, e70_107, e70_110, e70_113, e70_116, e70_117, e70_118, e70_119, e70_122, e70_123, e70_126, e70_130, e70_131, e70_134, e70_135, e70_138, e70_141, e70_144, e70_145, e70_148, e70_151, Option.toList_none, List.nil_append, e02, s1, zg9_0, zp9_0, zg9_1, zp9_1, zg9_2, zp9_2, zg9_3, zp9_3, zg9_4, zp9_4, zg9_5, zp9_5, zg9_6, zp9_6, zg9_7, zp9_7, zg9_8, zp9_8, zg9_9, zp9_9, zg9_10, zp9_10, zg9_11, zp9_11, zg9_12, zp9_12, zg9_13, zp9_13, zg9_14, zp9_14, zg9_15, zp9_15, zg9_16, zp9_16, zrc_eq, zup_s, zup_n, zup_up, zal_i, zal_b, zal_z, zas_i, zas_b, zas_z, zan_eq, Option.toList_some, Option.toList_none, List.cons_append, List.nil_append, if_true, if_false, ite_true, ite_false, true_or, or_true, g4, g5, ↓reduceIte, E]
            have F3 : zfr (fun a => a = 49) h2 (va_up h2 49 (.inr (3, [.int (nI (brA S n f / Nat.gcd (brA S n f) (brB S n))), .int (nI (brB S n / Nat.gcd (brA S n f) (brB S n)))]))) := zfr.up rfl zfr.rf
            have e03 := (F3 0 (by omega)).trans e02
            have k2 := K _ (C2.ra F3 ⟨_, _, zup_s⟩) (F2.tr (F3.mono (R := fun a => 37 ≤ a ∧ a ≤ 52) (fun a ha => by omega)))
            by_cases g6 : w = 2
            · rw [if_pos g6] at k2
              simp (disch := omega) only [e70_0, e70_1, e70_2, e70_5, e70_8, e70_9, e70_12, e70_15, e70_16, e70_17, e70_18, e70_21, e70_24, e70_25, e70_26, e70_27, e70_28, e70_29, e70_32, e70_33, e70_36, e70_37, e70_40, e70_41, e70_44, e70_47, e70_48, e70_51, e70_52, e70_55, e70_58, e70_59, e70_62, e70_63, e70_64, e70_67, e70_70, e70_73, e70_74, e70_75, e70_76, e70_77, e70_80, e70_81, e70_84, e70_87, e70_88, e70_91, e70_92, e70_95, e70_98, e70_99, e70_102, e70_105, e70_106, e70_107, e70_110, e70_113, e70_116, e70_117, e70_118, e70_119, e70_122, e70_123, e70_126, e70_129, e70_130, e70_131, e70_134, e70_135, e70_138, e70_141, e70_144, e70_145, e70_148, e70_151, Option.toList_none, List.nil_append, e03, zup_s, zg9_0, zp9_0, zg9_1, zp9_1, zg9_2, zp9_2, zg9_3, zp9_3, zg9_4, zp9_4, zg9_5, zp9_5, zg9_6, zp9_6, zg9_7, zp9_7, zg9_8, zp9_8, zg9_9, zp9_9, zg9_10, zp9_10, zg9_11, zp9_11, zg9_12, zp9_12, zg9_13, zp9_13, zg9_14, zp9_14, zg9_15, zp9_15, zg9_16, zp9_16, zg3_0, zp3_0, zg3_1, zp3_1, zrc_eq, zup_s, zup_n, zup_up, zal_i, zal_b, zal_z, zas_i, zas_b, zas_z, zan_eq, Option.toList_some, Option.toList_none, List.cons_append, List.nil_append, if_true, if_false, ite_true, ite_false, true_or, or_true, g6, ↓reduceIte]
              exact k2
            · rw [if_neg g6] at k2
              simp (disch := omega) only [e70_0, e70_1, e70_2, e70_5, e70_8, e70_9, e70_12, e70_15, e70_16, e70_17, e70_18, e70_21, e70_24, e70_25, e70_26, e70_27, e70_28, e70_29, e70_32, e70_33, e70_36, e70_37, e70_40, e70_41, e70_44, e70_47, e70_48, e70_51, e70_52, e70_55, e70_58, e70_59, e70_62, e70_63, e70_64, e70_67, e70_70, e70_73, e70_74, e70_75, e70_76, e70_77, e70_80, e70_81, e70_84, e70_87, e70_88, e70_91, e70_92, e70_95, e70_98, e70_99, e70_102, e70_105, e70_106, e70_107, e70_110, e70_113, e70_116, e70_117, e70_118, e70_119, e70_122, e70_123, e70_126, e70_129, e70_130, e70_131, e70_134, e70_135, e70_138, e70_141, e70_144, e70_145, e70_148, e70_151, Option.toList_none, List.nil_append, e03, zup_s, zg9_0, zp9_0, zg9_1, zp9_1, zg9_2, zp9_2, zg9_3, zp9_3, zg9_4, zp9_4, zg9_5, zp9_5, zg9_6, zp9_6, zg9_7, zp9_7, zg9_8, zp9_8, zg9_9, zp9_9, zg9_10, zp9_10, zg9_11, zp9_11, zg9_12, zp9_12, zg9_13, zp9_13, zg9_14, zp9_14, zg9_15, zp9_15, zg9_16, zp9_16, zg3_0, zp3_0, zg3_1, zp3_1, zrc_eq, zup_s, zup_n, zup_up, zal_i, zal_b, zal_z, zas_i, zas_b, zas_z, zan_eq, Option.toList_some, Option.toList_none, List.cons_append, List.nil_append, if_true, if_false, ite_true, ite_false, true_or, or_true, g6, ↓reduceIte]
              exact k2
      · rw [if_neg g3]
        rw [if_neg (fun z => g3 z.2.2)] at K
        exact K h cs zfr.rf
    · rw [if_neg g2]
      rw [if_neg (fun z => g2 z.2.1)] at K
      exact K h cs zfr.rf
  · rw [if_neg g1]
    rw [if_neg (fun z => g1 z.1)] at K
    exact K h cs zfr.rf
end C46
