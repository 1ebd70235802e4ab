-- the lot of the model: drawn, chance
section C42
variable {X : Nat × (Nat → Int32)} {N : Nat} {h : zH} {Q : Option Value → Nat → zH → Prop} {S : zSh} {F : Nat → zTm} {D : Nat → Prop} {i j p q d e r w k z t : Int32}
variable {len at_ rp rj np_ nj_ kp su lo dr : Int32} {ab be : Int64}
/-- who waits in the model's lot -/
def pWt (h : zH) (un : Nat) (L : Nat → Nat) : Prop := ∃ f : Nat → Int32, h 72 = .inl (.int, 24, f) ∧ un ≤ 24 ∧ ∀ j, j < un → f j = nI (L j)
set_option maxHeartbeats 2000000 in
theorem c137_loop {n s l : Nat} {f : Nat → Nat} {od : Nat → Int32} (hn : n ≤ 24) (hsl : s + l ≤ n) (ho : ∀ j, j < n → od j = nI (f j)) : ∀ (m u : Nat) (h : zH), m + u = l → h 53 = mObj len at_ rp rj np_ nj_ kp (nI s) (nI l) dr ab be → h 69 = .inl (.int, 48, od) → pWt h u (fun j => f (s + j)) → (∀ h', pWt h' l (fun j => f (s + j)) → zfr (fun a => a = 72) h h' → Q none N h') → zE X 137 2 [some (.ref 53), some (.int (nI u))] [] (N, 0, 0) h Q := by
  intro m
  induction m with
  | zero =>
    intro u h hm h1 h2 hw K
    obtain rfl : u = l := by omega
    unfold mObj at h1
    rw [e137_2]
    simp (disch := omega) only [e137_0, e137_1, e137_3, e137_4, e137_7, e137_10, e137_11, e137_14, e137_15, e137_16, e137_19, e137_20, e137_23, e137_24, e137_25, e137_26, e137_27, e137_30, e137_33, h1, zg10_0, zp10_0, zg10_1, zp10_1, zg10_2, zp10_2, zg10_3, zp10_3, zg10_4, zp10_4, zg10_5, zp10_5, zg10_6, zp10_6, zg10_7, zp10_7, zg10_8, zp10_8, zg10_9, zp10_9, zg10_10, zp10_10, zg10_11, zp10_11, zg10_12, zp10_12, zg10_13, zp10_13, zg10_14, zp10_14, zg10_15, zp10_15, zg10_16, zp10_16, zg10_17, zp10_17, zg10_18, zp10_18, zg10_19, zp10_19, zg10_20, zp10_20, zg10_21, zp10_21, zg10_22, zp10_22, zg10_23, zp10_23, zg10_24, zp10_24, zg10_25, zp10_25, zg10_26, zp10_26, zg10_27, zp10_27, zg10_28, zp10_28, zg10_29, zp10_29, zg10_30, zp10_30, zg10_31, zp10_31, zg10_32, zp10_32, zrc_eq, zup_s, zup_n, zup_up, zal_i, zal_b, zal_z, zas_i, zas_b, zas_z, zan_eq, Option.toList_some, Option.toList_none, List.cons_append, List.nil_append, if_true, if_false, ite_true, ite_false, true_or, or_true, znI_le, if_pos]
    exact K h hw zfr.rf
  | succ m ih =>
    intro u h hm h1 h2 hw K
    obtain ⟨w, h3, h4, h5⟩ := hw
    have h1' := h1
    unfold mObj at h1
    rw [e137_2]
    simp (disch := omega) only [e137_0, e137_1, e137_3, e137_4, e137_7, e137_10, e137_11, e137_14, e137_15, e137_16, e137_19, e137_20, e137_23, e137_24, e137_25, e137_26, e137_27, e137_30, e137_33, h1, h2, h3, zg10_0, zp10_0, zg10_1, zp10_1, zg10_2, zp10_2, zg10_3, zp10_3, zg10_4, zp10_4, zg10_5, zp10_5, zg10_6, zp10_6, zg10_7, zp10_7, zg10_8, zp10_8, zg10_9, zp10_9, zg10_10, zp10_10, zg10_11, zp10_11, zg10_12, zp10_12, zg10_13, zp10_13, zg10_14, zp10_14, zg10_15, zp10_15, zg10_16, zp10_16, zg10_17, zp10_17, zg10_18, zp10_18, zg10_19, zp10_19, zg10_20, zp10_20, zg10_21, zp10_21, zg10_22, zp10_22, zg10_23, zp10_23, zg10_24, zp10_24, zg10_25, zp10_25, zg10_26, zp10_26, zg10_27, zp10_27, zg10_28, zp10_28, zg10_29, zp10_29, zg10_30, zp10_30, zg10_31, zp10_31, zg10_32, zp10_32, zrc_eq, zup_s, zup_n, zup_up, zal_i, zal_b, zal_z, zas_i, zas_b, zas_z, zan_eq, Option.toList_some, Option.toList_none, List.cons_append, List.nil_append, if_true, if_false, ite_true, ite_false, true_or, or_true, znI_le, if_neg, nI_add, nI_1, ho]
    refine ih (u + 1) _ (by omega) ((zup_n (by omega)).trans h1') ((zup_n (by omega)).trans h2) ⟨_, zup_s, by omega, fun j hj => ?_⟩ (fun h' c1 c2 => K h' c1 (zfr.up rfl c2))
    by_cases q : j = u
    · subst q; rw [upd_s]
    · rw [upd_n q]; exact h5 j (by omega)
set_option maxHeartbeats 2000000 in
theorem c137 {n s l : Nat} {f : Nat → Nat} (hsl : s + l ≤ n) (h1 : h 53 = mObj len at_ rp rj np_ nj_ kp (nI s) (nI l) dr ab be) (hn : pMn h 0 n f) (hw : qW h) (K : ∀ h', pWt h' l (fun j => f (s + j)) → zfr (fun a => a = 72) h h' → Q none N h') : zE X 137 0 [some (.ref 53), none] [] (N, 0, 0) h Q := by
  obtain ⟨mn, od, rk, mk, n1, n2, n3, n4, n5, n6, n7, n8, n9⟩ := hn
  obtain ⟨w, hw⟩ := hw
  simp (disch := omega) only [e137_0, e137_1, e137_3, e137_4, e137_7, e137_10, e137_11, e137_14, e137_15, e137_16, e137_19, e137_20, e137_23, e137_24, e137_25, e137_26, e137_27, e137_30, e137_33, zc0]
  refine c137_loop (od := od) n5 hsl (fun j hj => ?_) l 0 h (by omega) h1 n2 ⟨w, hw, by omega, fun j hj => absurd hj (Nat.not_lt_zero j)⟩ K
  have := n7 j hj
  rwa [Nat.mul_zero, Nat.zero_add] at this
set_option maxHeartbeats 2000000 in
theorem c138_loop {un pl v : Nat} {L : Nat → Nat} {l1 l2 l4 : Option Value} (hun : un < 24) : ∀ (m i : Nat) (f : Nat → Int32) (h : zH), m + i = un → pl ≤ i → h 53 = mObj len at_ rp rj np_ nj_ kp su lo dr ab be → h 72 = .inl (.int, 24, f) → (∀ j, j < i → f j = nI (rmAt L pl j)) → (∀ j, i ≤ j → j < un + 1 → f j = nI (L j)) → (∀ h', pWt h' un (rmAt L pl) → zfr (fun a => a = 72) h h' → Q (some (.int (nI v))) N h') → zE X 138 33 [some (.ref 53), l1, l2, some (.int (nI (un + 1))), l4, some (.int (nI v)), some (.int (nI i))] [] (N, 0, 0) h Q := by
  intro m
  induction m with
  | zero =>
    intro i f h hm hp h1 h2 a1 a2 K
    obtain rfl : i = un := by omega
    rw [e138_33]
    simp (disch := omega) only [e138_0, e138_1, e138_4, e138_5, e138_6, e138_7, e138_8, e138_9, e138_10, e138_11, e138_12, e138_13, e138_14, e138_15, e138_16, e138_17, e138_18, e138_20, e138_21, e138_24, e138_26, e138_27, e138_29, e138_31, e138_35, e138_36, e138_37, e138_38, e138_41, e138_42, e138_45, e138_47, e138_48, e138_51, e138_53, e138_54, e138_55, e138_56, e138_57, e138_60, e138_63, e138_65, nI_pred, znI_le, if_pos]
    exact K h ⟨f, h2, by omega, a1⟩ zfr.rf
  | succ m ih =>
    intro i f h hm hp h1 h2 a1 a2 K
    have h1' := h1
    unfold mObj at h1
    rw [e138_33]
    simp (disch := omega) only [e138_0, e138_1, e138_4, e138_5, e138_6, e138_7, e138_8, e138_9, e138_10, e138_11, e138_12, e138_13, e138_14, e138_15, e138_16, e138_17, e138_18, e138_20, e138_21, e138_24, e138_26, e138_27, e138_29, e138_31, e138_35, e138_36, e138_37, e138_38, e138_41, e138_42, e138_45, e138_47, e138_48, e138_51, e138_53, e138_54, e138_55, e138_56, e138_57, e138_60, e138_63, e138_65, h1, h2, zg10_0, zp10_0, zg10_1, zp10_1, zg10_2, zp10_2, zg10_3, zp10_3, zg10_4, zp10_4, zg10_5, zp10_5, zg10_6, zp10_6, zg10_7, zp10_7, zg10_8, zp10_8, zg10_9, zp10_9, zg10_10, zp10_10, zg10_11, zp10_11, zg10_12, zp10_12, zg10_13, zp10_13, zg10_14, zp10_14, zg10_15, zp10_15, zg10_16, zp10_16, zg10_17, zp10_17, zg10_18, zp10_18, zg10_19, zp10_19, zg10_20, zp10_20, zg10_21, zp10_21, zg10_22, zp10_22, zg10_23, zp10_23, zg10_24, zp10_24, zg10_25, zp10_25, zg10_26, zp10_26, zg10_27, zp10_27, zg10_28, zp10_28, zg10_29, zp10_29, zg10_30, zp10_30, zg10_31, zp10_31, zg10_32, zp10_32, zrc_eq, zup_s, zup_n, zup_up, zal_i, zal_b, zal_z, zas_i, zas_b, zas_z, zan_eq, Option.toList_some, Option.toList_none, List.cons_append, List.nil_append, if_true, if_false, ite_true, ite_false, true_or, or_true, nI_pred, znI_le, if_neg, nI_1]
    refine ih (i + 1) _ _ (by omega) (by omega) ((zup_n (by omega)).trans h1') zup_s (fun j hj => ?_) (fun j hj hj2 => ?_) (fun h' c1 c2 => K h' c1 (zfr.up rfl c2))
    · by_cases q : j = i
      · subst q; rw [upd_s, a2 _ (by omega) (by omega)]; unfold rmAt; rw [if_neg (by omega)]
      · rw [upd_n q]; exact a1 j (by omega)
    · rw [upd_n (by omega)]; exact a2 j (by omega) hj2
set_option maxHeartbeats 2000000 in
theorem c138 {un z t l : Nat} {L : Nat → Nat} (hz : z ≤ 9999) (ht : t ≤ 24) (hl : un + t = l) (hl2 : l ≤ 24) (h1 : h 53 = mObj len at_ rp rj np_ nj_ kp su (nI l) dr ab be) (hw : pWt h (un + 1) L) (K : ∀ h', pWt h' un (rmAt L (dPl z t (un + 1))) → zfr (fun a => a = 72) h h' → Q (some (.int (nI (L (dPl z t (un + 1)))))) N h') : zE X 138 0 [some (.ref 53), some (.int (nI z)), some (.int (nI t)), none, none, none, none] [] (N, 0, 0) h Q := by
  obtain ⟨f, h2, h4, h5⟩ := hw
  have hzt : z * t + t * t < 2 ^ 31 := by
    have := Nat.mul_le_mul hz ht
    have := Nat.mul_le_mul ht ht
    omega
  have hd : dPl z t (un + 1) < un + 1 := Nat.mod_lt _ (by omega)
  have em : (z * t + t * t) % (un + 1) = dPl z t (un + 1) := rfl
  have e1 : (nI (un + 1) = 0) = False := eq_false (nI_ne0 (by omega) (by omega))
  have e2 : nI l - nI t = nI un := by rw [pk_sub (by omega)]; congr 1; omega
  have h1' := h1
  unfold mObj at h1
  simp (disch := omega) only [e138_0, e138_1, e138_4, e138_5, e138_6, e138_7, e138_8, e138_9, e138_10, e138_11, e138_12, e138_13, e138_14, e138_15, e138_16, e138_17, e138_18, e138_20, e138_21, e138_24, e138_26, e138_27, e138_29, e138_31, e138_35, e138_36, e138_37, e138_38, e138_41, e138_42, e138_45, e138_47, e138_48, e138_51, e138_53, e138_54, e138_55, e138_56, e138_57, e138_60, e138_63, e138_65, h1, h2, zg10_0, zp10_0, zg10_1, zp10_1, zg10_2, zp10_2, zg10_3, zp10_3, zg10_4, zp10_4, zg10_5, zp10_5, zg10_6, zp10_6, zg10_7, zp10_7, zg10_8, zp10_8, zg10_9, zp10_9, zg10_10, zp10_10, zg10_11, zp10_11, zg10_12, zp10_12, zg10_13, zp10_13, zg10_14, zp10_14, zg10_15, zp10_15, zg10_16, zp10_16, zg10_17, zp10_17, zg10_18, zp10_18, zg10_19, zp10_19, zg10_20, zp10_20, zg10_21, zp10_21, zg10_22, zp10_22, zg10_23, zp10_23, zg10_24, zp10_24, zg10_25, zp10_25, zg10_26, zp10_26, zg10_27, zp10_27, zg10_28, zp10_28, zg10_29, zp10_29, zg10_30, zp10_30, zg10_31, zp10_31, zg10_32, zp10_32, zrc_eq, zup_s, zup_n, zup_up, zal_i, zal_b, zal_z, zas_i, zas_b, zas_z, zan_eq, Option.toList_some, Option.toList_none, List.cons_append, List.nil_append, if_true, if_false, ite_true, ite_false, true_or, or_true, e2, nI_1, pk_mul, nI_add, e1, pk_rem, em, h5 _ hd]
  refine c138_loop (pl := dPl z t (un + 1)) (L := L) (by omega) (un - dPl z t (un + 1)) (dPl z t (un + 1)) f _ (by omega) (Nat.le_refl _) h1' h2 (fun j hj => ?_) (fun j hj hj2 => h5 j hj2) K
  rw [h5 j (by omega)]
  unfold rmAt
  rw [if_pos hj]
set_option maxHeartbeats 2000000 in
theorem c136_63 {n t z : Nat} {L : Nat → Nat} {l1 l2 : Option Value} (hz : z ≤ 9999) (ht : t ≤ 24) (htl : t ≤ pLo S n) (hn : pLo S n ≤ 24) (ht1 : 1 ≤ t) : ∀ (m u : Nat) (h : zH) (v : Int32), m + u = t → (∀ u', u = u' + 1 → v = nI (drw z L (pLo S n) u')) → h 53 = mObj len at_ rp rj np_ nj_ kp su (nI (pLo S n)) dr ab be → pWt h (pLo S n - u) (lotAt z L (pLo S n) u) → (∀ h' un L', pWt h' un L' → zfr (fun a => a = 72) h h' → Q (some (.int (nI (drw z L (pLo S n) (t - 1))))) N h') → zE X 136 63 [some (.ref 53), l1, l2, some (.int (nI z)), some (.int (nI t)), some (.int v), some (.int (nI (u + 1)))] [] (N, 0, 0) h Q := by
  intro m
  induction m with
  | zero =>
    intro u h v hm hv h0 hl K
    obtain rfl : u = t := by omega
    rw [e136_63]
    simp (disch := omega) only [e136_0, e136_1, e136_2, e136_5, e136_8, e136_9, e136_12, e136_15, e136_16, e136_17, e136_18, e136_21, e136_24, e136_27, e136_29, e136_30, e136_33, e136_34, e136_35, e136_36, e136_37, e136_38, e136_41, e136_43, e136_44, e136_47, e136_50, e136_52, e136_53, e136_54, e136_57, e136_58, e136_60, e136_61, e136_65, e136_67, e136_70, e136_71, e136_72, e136_74, e136_77, e136_79, e136_82, e136_85, e136_87, znI_lt, if_pos]
    have := hv (u - 1) (by omega)
    rw [this]
    exact K h _ _ hl zfr.rf
  | succ m ih =>
    intro u h v hm hv h0 hl K
    have h0' := h0
    unfold mObj at h0
    have hun : pLo S n - u = (pLo S n - (u + 1)) + 1 := by omega
    rw [hun] at hl
    rw [e136_63]
    simp (disch := omega) only [e136_0, e136_1, e136_2, e136_5, e136_8, e136_9, e136_12, e136_15, e136_16, e136_17, e136_18, e136_21, e136_24, e136_27, e136_29, e136_30, e136_33, e136_34, e136_35, e136_36, e136_37, e136_38, e136_41, e136_43, e136_44, e136_47, e136_50, e136_52, e136_53, e136_54, e136_57, e136_58, e136_60, e136_61, e136_65, e136_67, e136_70, e136_71, e136_72, e136_74, e136_77, e136_79, e136_82, e136_85, e136_87, h0, zrc_eq, zup_s, zup_n, zup_up, zal_i, zal_b, zal_z, zas_i, zas_b, zas_z, zan_eq, Option.toList_some, Option.toList_none, List.cons_append, List.nil_append, if_true, if_false, ite_true, ite_false, true_or, or_true, znI_lt, if_neg]
    refine c138 hz (by omega) (by omega) hn h0' hl (fun h' c1 c2 => ?_)
    simp (disch := omega) only [e136_0, e136_1, e136_2, e136_5, e136_8, e136_9, e136_12, e136_15, e136_16, e136_17, e136_18, e136_21, e136_24, e136_27, e136_29, e136_30, e136_33, e136_34, e136_35, e136_36, e136_37, e136_38, e136_41, e136_43, e136_44, e136_47, e136_50, e136_52, e136_53, e136_54, e136_57, e136_58, e136_60, e136_61, e136_65, e136_67, e136_70, e136_71, e136_72, e136_74, e136_77, e136_79, e136_82, e136_85, e136_87, Option.toList_some, List.cons_append, List.nil_append, nI_1]
    rw [← hun] at c1
    refine ih (u + 1) h' _ (by omega) (fun u' hu => ?_) ((c2 53 (by omega)).trans h0') c1 (fun h2 un L' d1 d2 => K h2 un L' d1 (c2.tr d2))
    obtain rfl : u = u' := by omega
    rw [← hun]
    rfl
set_option maxHeartbeats 2000000 in
theorem zz9 {z : Int32} : ((0 : Int32).toInt64 ≤ z.toInt64 ∧ z.toInt64 ≤ 9999) = (0 ≤ z ∧ z ≤ 9999) := by
  rw [show (9999 : Int64) = (9999 : Int32).toInt64 from by decide, zl_le, zl_le]
set_option maxHeartbeats 2000000 in
theorem pWt.ms {h h' : zH} {un : Nat} {L : Nat → Nat} (ms : zMS h) (hw : pWt h' un L) (hf : zfr (fun a => a = 72) h h') : zMS h' := by
  obtain ⟨q1, -, ⟨f3, q3⟩, ⟨f4, q4⟩⟩ := ms
  obtain ⟨f, h1, -⟩ := hw
  exact ⟨q1.kept hf (by omega), ⟨f, h1⟩, ⟨f3, (hf _ (by omega)).trans q3⟩, ⟨f4, (hf _ (by omega)).trans q4⟩⟩
set_option maxHeartbeats 2000000 in
theorem c136 (hm : zMR h S D F len at_ rp rj kp su lo dr ab be) (K : ∀ h', zMk' h h' S len at_ rp rj kp → Q (some (.int (aDrawn S (F 0) p d z t))) N h') : zE X 136 0 [some (.ref 53), some (.int p), some (.int d), some (.int z), some (.int t), none, none] [] (N, 0, 0) h Q := by
  have hm' := hm
  obtain ⟨h1, hs, ok, hT, hD, ms⟩ := hm
  have h1' := h1
  have rf : zMk' h h S len at_ rp rj kp := ⟨⟨_, _, _, _, _, h1⟩, ms, zfr.rf⟩
  unfold mObj at h1
  simp only [e136_0, e136_1, e136_2, e136_5, e136_8, e136_9, e136_12, e136_15, e136_16, e136_17, e136_18, e136_21, e136_24, e136_27, e136_29, e136_30, e136_33, e136_34, e136_36, e136_37, e136_38, e136_41, e136_43, e136_44, e136_47, e136_50, e136_52, e136_53, e136_54, e136_57, e136_58, e136_60, e136_61, e136_65, e136_67, e136_70, e136_71, e136_72, e136_74, e136_77, e136_79, e136_82, e136_85, e136_87, h1, c122 h1', c119, c108, zrc_eq, zup_s, zup_n, zup_up, zal_i, zal_b, zal_z, zas_i, zas_b, zas_z, zan_eq, Option.toList_some, Option.toList_none, List.cons_append, List.nil_append, if_true, if_false, ite_true, ite_false, true_or, or_true, z10, z00, zl64, zz9]
  unfold aDrawn at K
  by_cases g1 : isPan S.2.1.1 p
  · rw [if_pos g1]
    by_cases g2 : isDr d
    · rw [if_pos g2]
      by_cases g3 : 0 ≤ z ∧ z ≤ 9999
      · rw [if_pos g3]
        by_cases g4 : 1 ≤ t
        · rw [if_pos g4]
          rw [if_pos ⟨g1, g2, g3, g4⟩] at K
          obtain ⟨zn, -, hzn, rfl⟩ := zrange (lo := 0) (hi := 9999) (by decide) g3.1 g3.2 (by decide)
          obtain ⟨tn, ht1, ht2, rfl⟩ := zge1' g4
          rw [nI_clamp ht2, nI_clamp (by omega)] at K
          simp (disch := omega) only [e136_0, e136_1, e136_2, e136_5, e136_8, e136_9, e136_12, e136_15, e136_16, e136_17, e136_18, e136_21, e136_24, e136_27, e136_29, e136_30, e136_33, e136_34, e136_35, e136_36, e136_37, e136_38, e136_41, e136_43, e136_44, e136_47, e136_50, e136_52, e136_53, e136_54, e136_57, e136_58, e136_60, e136_61, e136_65, e136_67, e136_70, e136_71, e136_72, e136_74, e136_77, e136_79, e136_82, e136_85, e136_87, h1, zrc_eq, zup_s, zup_n, zup_up, zal_i, zal_b, zal_z, zas_i, zas_b, zas_z, zan_eq, Option.toList_some, Option.toList_none, List.cons_append, List.nil_append, if_true, if_false, ite_true, ite_false, true_or, or_true]
          refine c123 hm' (fun h' a1 a2 a3 => ?_)
          have kk : zMk' h h' S len at_ rp rj kp := ⟨⟨_, _, _, _, _, a2.1⟩, a2.2.2.2.2.2, a3⟩
          have e1 := a2.1
          unfold mObj at e1
          have o2 : oN S (F 0) ≤ 24 := by obtain ⟨mn, od, rk, mk, n1, n2, n3, n4, n5, -⟩ := a1; exact n5
          have b1 : pSu S (oN S (F 0)) ≤ oN S (F 0) := Nat.min_le_right _ _
          have b3 : pLo S (oN S (F 0)) ≤ oN S (F 0) - pSu S (oN S (F 0)) := Nat.min_le_right _ _
          have b4 : pDr S (oN S (F 0)) ≤ pLo S (oN S (F 0)) := Nat.min_le_right _ _
          by_cases g5 : tn ≤ pDr S (oN S (F 0))
          · rw [if_pos g5] at K
            simp (disch := omega) only [e136_0, e136_1, e136_2, e136_5, e136_8, e136_9, e136_12, e136_15, e136_16, e136_17, e136_18, e136_21, e136_24, e136_27, e136_29, e136_30, e136_33, e136_34, e136_35, e136_36, e136_37, e136_38, e136_41, e136_43, e136_44, e136_47, e136_50, e136_52, e136_53, e136_54, e136_57, e136_58, e136_60, e136_61, e136_65, e136_67, e136_70, e136_71, e136_72, e136_74, e136_77, e136_79, e136_82, e136_85, e136_87, Option.toList_none, List.nil_append, e1, zg10_0, zp10_0, zg10_1, zp10_1, zg10_2, zp10_2, zg10_3, zp10_3, zg10_4, zp10_4, zg10_5, zp10_5, zg10_6, zp10_6, zg10_7, zp10_7, zg10_8, zp10_8, zg10_9, zp10_9, zg10_10, zp10_10, zg10_11, zp10_11, zg10_12, zp10_12, zg10_13, zp10_13, zg10_14, zp10_14, zg10_15, zp10_15, zg10_16, zp10_16, zg10_17, zp10_17, zg10_18, zp10_18, zg10_19, zp10_19, zg10_20, zp10_20, zg10_21, zp10_21, zg10_22, zp10_22, zg10_23, zp10_23, zg10_24, zp10_24, zg10_25, zp10_25, zg10_26, zp10_26, zg10_27, zp10_27, zg10_28, zp10_28, zg10_29, zp10_29, zg10_30, zp10_30, zg10_31, zp10_31, zg10_32, zp10_32, zrc_eq, zup_s, zup_n, zup_up, zal_i, zal_b, zal_z, zas_i, zas_b, zas_z, zan_eq, Option.toList_some, Option.toList_none, List.cons_append, List.nil_append, if_true, if_false, ite_true, ite_false, true_or, or_true, znI_le, if_pos]
            refine c137 (by omega) a2.1 a1 a2.2.2.2.2.2.2.1 (fun h2 b1 b2 => ?_)
            simp (disch := omega) only [e136_0, e136_1, e136_2, e136_5, e136_8, e136_9, e136_12, e136_15, e136_16, e136_17, e136_18, e136_21, e136_24, e136_27, e136_29, e136_30, e136_33, e136_34, e136_35, e136_36, e136_37, e136_38, e136_41, e136_43, e136_44, e136_47, e136_50, e136_52, e136_53, e136_54, e136_57, e136_58, e136_60, e136_61, e136_65, e136_67, e136_70, e136_71, e136_72, e136_74, e136_77, e136_79, e136_82, e136_85, e136_87, Option.toList_none, List.nil_append]
            refine c136_63 (u := 0) hzn (by omega) (by omega) (by omega) ht1 tn h2 _ (by omega) (fun u' hu => by omega) ((b2 53 (by omega)).trans a2.1) b1 (fun h3 un L' c1 c2 => ?_)
            have F2 := b2.tr c2
            exact K h3 ⟨⟨_, _, _, _, _, (F2 53 (by omega)).trans a2.1⟩, c1.ms a2.2.2.2.2.2 F2, a3.tr (F2.mono (fun a ha => by omega))⟩
          · rw [if_neg g5] at K
            simp (disch := omega) only [e136_0, e136_1, e136_2, e136_5, e136_8, e136_9, e136_12, e136_15, e136_16, e136_17, e136_18, e136_21, e136_24, e136_27, e136_29, e136_30, e136_33, e136_34, e136_35, e136_36, e136_37, e136_38, e136_41, e136_43, e136_44, e136_47, e136_50, e136_52, e136_53, e136_54, e136_57, e136_58, e136_60, e136_61, e136_65, e136_67, e136_70, e136_71, e136_72, e136_74, e136_77, e136_79, e136_82, e136_85, e136_87, Option.toList_none, List.nil_append, e1, zg10_0, zp10_0, zg10_1, zp10_1, zg10_2, zp10_2, zg10_3, zp10_3, zg10_4, zp10_4, zg10_5, zp10_5, zg10_6, zp10_6, zg10_7, zp10_7, zg10_8, zp10_8, zg10_9, zp10_9, zg10_10, zp10_10, zg10_11, zp10_11, zg10_12, zp10_12, zg10_13, zp10_13, zg10_14, zp10_14, zg10_15, zp10_15, zg10_16, zp10_16, zg10_17, zp10_17, zg10_18, zp10_18, zg10_19, zp10_19, zg10_20, zp10_20, zg10_21, zp10_21, zg10_22, zp10_22, zg10_23, zp10_23, zg10_24, zp10_24, zg10_25, zp10_25, zg10_26, zp10_26, zg10_27, zp10_27, zg10_28, zp10_28, zg10_29, zp10_29, zg10_30, zp10_30, zg10_31, zp10_31, zg10_32, zp10_32, zrc_eq, zup_s, zup_n, zup_up, zal_i, zal_b, zal_z, zas_i, zas_b, zas_z, zan_eq, Option.toList_some, Option.toList_none, List.cons_append, List.nil_append, if_true, if_false, ite_true, ite_false, true_or, or_true, znI_le, if_neg]
            exact K h' kk
        · rw [if_neg g4]
          rw [if_neg (fun z => g4 z.2.2.2)] at K
          exact K h rf
      · rw [if_neg g3]
        rw [if_neg (fun z => g3 z.2.2.1)] at K
        exact K h rf
    · rw [if_neg g2]
      rw [if_neg (fun z => g2 z.2.1)] at K
      exact K h rf
  · rw [if_neg g1]
    rw [if_neg (fun z => g1 z.1)] at K
    exact K h rf
set_option maxHeartbeats 2000000 in
theorem c139_117 {a b pc : Nat} {l1 l2 l3 l5 : Option Value} {h' : zH} (hpc : pc = 77 ∨ pc = 108 ∨ pc = 117) (ha : a < 2 ^ 62) (hb0 : 0 < b) (hb : b < 2 ^ 62) (h1 : h' 53 = mObj len at_ rp rj (nI S.1.1) (nI S.2.1.1) kp su lo dr ab be) (ms : zMS h') (hf : zmf h h') (K : ∀ h', zMk' h h' S len at_ rp rj kp → Q (some (.int (if w = 0 then nI (a / Nat.gcd a b) else nI (b / Nat.gcd a b)))) N h') : zE X 134 0 [some (.ref 53), some (.long (lN a)), none, some (.long (lN b)), none, none, none, none, none, none, none] [] (N, 0, 0) h' (fun v N' h' => zE X 139 pc [some (.ref 53), l1, l2, l3, some (.int w), l5] (v.toList ++ []) (N', 0, 0) h' Q) := by
  refine c134' ha hb0 hb h1 ?_
  have F2 : zfr (fun a => a = 53) h' (va_up h' 53 (mObj len at_ rp rj (nI S.1.1) (nI S.2.1.1) kp su lo dr (lN (a / Nat.gcd a b)) (lN (b / Nat.gcd a b)))) := zfr.up rfl zfr.rf
  have k2 := K _ ⟨⟨_, _, _, _, _, zup_s⟩, ms.kept F2 (by omega), hf.tr (F2.mono (fun a ha => by omega))⟩
  unfold mObj at k2 ⊢
  by_cases g5 : w = 0
  · rw [if_pos g5] at k2
    rcases hpc with rfl | rfl | rfl <;> simp (disch := omega) only [e139_0, e139_1, e139_2, e139_5, e139_8, e139_9, e139_12, e139_15, e139_16, e139_17, e139_20, e139_23, e139_25, e139_26, e139_27, e139_28, e139_31, e139_34, e139_35, e139_36, e139_37, e139_38, e139_39, e139_42, e139_45, e139_47, e139_48, e139_49, e139_50, e139_51, e139_54, e139_55, e139_58, e139_59, e139_60, e139_62, e139_64, e139_65, e139_68, e139_71, e139_72, e139_73, e139_74, e139_77, e139_80, e139_82, e139_83, e139_86, e139_87, e139_90, e139_91, e139_94, e139_95, e139_96, e139_99, e139_100, e139_101, e139_104, e139_105, e139_108, e139_111, e139_112, e139_113, e139_114, e139_117, e139_119, e139_122, e139_123, e139_126, e139_129, e139_130, e139_133, e139_134, Option.toList_none, List.nil_append, zup_s, zg10_0, zp10_0, zg10_1, zp10_1, zg10_2, zp10_2, zg10_3, zp10_3, zg10_4, zp10_4, zg10_5, zp10_5, zg10_6, zp10_6, zg10_7, zp10_7, zg10_8, zp10_8, zg10_9, zp10_9, zg10_10, zp10_10, zg10_11, zp10_11, zg10_12, zp10_12, zg10_13, zp10_13, zg10_14, zp10_14, zg10_15, zp10_15, zg10_16, zp10_16, zg10_17, zp10_17, zg10_18, zp10_18, zg10_19, zp10_19, zg10_20, zp10_20, zg10_21, zp10_21, zg10_22, zp10_22, zg10_23, zp10_23, zg10_24, zp10_24, zg10_25, zp10_25, zg10_26, zp10_26, zg10_27, zp10_27, zg10_28, zp10_28, zg10_29, zp10_29, zg10_30, zp10_30, zg10_31, zp10_31, zg10_32, zp10_32, zrc_eq, zup_s, zup_n, zup_up, zal_i, zal_b, zal_z, zas_i, zas_b, zas_z, zan_eq, Option.toList_some, Option.toList_none, List.cons_append, List.nil_append, if_true, if_false, ite_true, ite_false, true_or, or_true, g5, ↓reduceIte, lN_i] <;> exact k2
  · rw [if_neg g5] at k2
    rcases hpc with rfl | rfl | rfl <;> simp (disch := omega) only [e139_0, e139_1, e139_2, e139_5, e139_8, e139_9, e139_12, e139_15, e139_16, e139_17, e139_20, e139_23, e139_25, e139_26, e139_27, e139_28, e139_31, e139_34, e139_35, e139_36, e139_37, e139_38, e139_39, e139_42, e139_45, e139_47, e139_48, e139_49, e139_50, e139_51, e139_54, e139_55, e139_58, e139_59, e139_60, e139_62, e139_64, e139_65, e139_68, e139_71, e139_72, e139_73, e139_74, e139_77, e139_80, e139_82, e139_83, e139_86, e139_87, e139_90, e139_91, e139_94, e139_95, e139_96, e139_99, e139_100, e139_101, e139_104, e139_105, e139_108, e139_111, e139_112, e139_113, e139_114, e139_117, e139_119, e139_122, e139_123, e139_126, e139_129, e139_130, e139_133, e139_134, Option.toList_none, List.nil_append, zup_s, zg10_0, zp10_0, zg10_1, zp10_1, zg10_2, zp10_2, zg10_3, zp10_3, zg10_4, zp10_4, zg10_5, zp10_5, zg10_6, zp10_6, zg10_7, zp10_7, zg10_8, zp10_8, zg10_9, zp10_9, zg10_10, zp10_10, zg10_11, zp10_11, zg10_12, zp10_12, zg10_13, zp10_13, zg10_14, zp10_14, zg10_15, zp10_15, zg10_16, zp10_16, zg10_17, zp10_17, zg10_18, zp10_18, zg10_19, zp10_19, zg10_20, zp10_20, zg10_21, zp10_21, zg10_22, zp10_22, zg10_23, zp10_23, zg10_24, zp10_24, zg10_25, zp10_25, zg10_26, zp10_26, zg10_27, zp10_27, zg10_28, zp10_28, zg10_29, zp10_29, zg10_30, zp10_30, zg10_31, zp10_31, zg10_32, zp10_32, zrc_eq, zup_s, zup_n, zup_up, zal_i, zal_b, zal_z, zas_i, zas_b, zas_z, zan_eq, Option.toList_some, Option.toList_none, List.cons_append, List.nil_append, if_true, if_false, ite_true, ite_false, true_or, or_true, g5, ↓reduceIte, lN_i] <;> exact k2
set_option maxHeartbeats 2000000 in
theorem c139 (hm : zMR h S D F len at_ rp rj kp su lo dr ab be) (K : ∀ h', zMk' h h' S len at_ rp rj kp → Q (some (.int (aChance S (F 0) p d i w))) N h') : zE X 139 0 [some (.ref 53), some (.int p), some (.int d), some (.int i), some (.int w), none] [] (N, 0, 0) h Q := by
  have hm' := hm
  obtain ⟨h1, hs, ok, hT, hD, ms⟩ := hm
  have h1' := h1
  have rf : zMk' h h S len at_ rp rj kp := ⟨⟨_, _, _, _, _, h1⟩, ms, zfr.rf⟩
  have b24 := ok.1.1
  unfold mObj at h1
  simp only [e139_0, e139_1, e139_2, e139_5, e139_8, e139_9, e139_12, e139_15, e139_16, e139_17, e139_20, e139_23, e139_25, e139_26, e139_27, e139_28, e139_31, e139_34, e139_35, e139_37, e139_38, e139_39, e139_42, e139_45, e139_47, e139_48, e139_49, e139_50, e139_51, e139_54, e139_55, e139_58, e139_59, e139_60, e139_62, e139_64, e139_65, e139_68, e139_71, e139_72, e139_73, e139_74, e139_77, e139_80, e139_82, e139_83, e139_86, e139_87, e139_90, e139_91, e139_94, e139_95, e139_96, e139_99, e139_100, e139_101, e139_104, e139_105, e139_108, e139_111, e139_112, e139_113, e139_114, e139_117, e139_119, e139_122, e139_123, e139_126, e139_129, e139_130, e139_133, e139_134, h1, c122 h1', c119, c117 b24 h1', c108, zrc_eq, zup_s, zup_n, zup_up, zal_i, zal_b, zal_z, zas_i, zas_b, zas_z, zan_eq, Option.toList_some, Option.toList_none, List.cons_append, List.nil_append, if_true, if_false, ite_true, ite_false, true_or, or_true, z10, z00, zl64, zw01]
  unfold aChance at K
  by_cases g1 : isPan S.2.1.1 p
  · rw [if_pos g1]
    by_cases g2 : isDr d
    · rw [if_pos g2]
      by_cases g3 : isNo S.1.1 i
      · rw [if_pos g3]
        by_cases g4 : 0 ≤ w ∧ w ≤ 1
        · rw [if_pos g4]
          rw [if_pos ⟨g1, g2, g3, g4⟩] at K
          obtain ⟨a, ha, rfl⟩ := g3.nat (by omega)
          rw [nI_clamp (by omega)] at K
          have E := fun Q' => c125 (X := X) (N := N) (Q := Q') (s := 0) h1' hs ok ha hT (by omega) hD
          rw [nI_0] at E
          simp (disch := omega) only [e139_0, e139_1, e139_2, e139_5, e139_8, e139_9, e139_12, e139_15, e139_16, e139_17, e139_20, e139_23, e139_25, e139_26, e139_27, e139_28, e139_31, e139_34, e139_35, e139_36, e139_37, e139_38, e139_39, e139_42, e139_45, e139_47, e139_49, e139_50, e139_51, e139_54, e139_55, e139_58, e139_59, e139_60, e139_62, e139_64, e139_65, e139_68, e139_71, e139_72, e139_73, e139_74, e139_77, e139_80, e139_82, e139_83, e139_86, e139_87, e139_90, e139_91, e139_94, e139_95, e139_96, e139_99, e139_100, e139_101, e139_104, e139_105, e139_108, e139_111, e139_112, e139_113, e139_114, e139_117, e139_119, e139_122, e139_123, e139_126, e139_129, e139_130, e139_133, e139_134, h1, zrc_eq, zup_s, zup_n, zup_up, zal_i, zal_b, zal_z, zas_i, zas_b, zas_z, zan_eq, Option.toList_some, Option.toList_none, List.cons_append, List.nil_append, if_true, if_false, ite_true, ite_false, true_or, or_true, E, z10, z00]
          by_cases g5 : (F 0).2.2.1 (sA S a) = 0
          · rw [if_pos g5]
            rw [if_pos g5] at K
            simp (disch := omega) only [e139_0, e139_1, e139_2, e139_5, e139_8, e139_9, e139_12, e139_15, e139_16, e139_17, e139_20, e139_23, e139_25, e139_26, e139_27, e139_28, e139_31, e139_34, e139_35, e139_36, e139_37, e139_38, e139_39, e139_42, e139_45, e139_47, e139_48, e139_49, e139_50, e139_51, e139_54, e139_55, e139_58, e139_59, e139_60, e139_62, e139_64, e139_65, e139_68, e139_71, e139_72, e139_73, e139_74, e139_77, e139_80, e139_82, e139_83, e139_86, e139_87, e139_90, e139_91, e139_94, e139_95, e139_96, e139_99, e139_100, e139_101, e139_104, e139_105, e139_108, e139_111, e139_112, e139_113, e139_114, e139_119, e139_122, e139_123, e139_126, e139_129, e139_130, e139_133, e139_134, h1, zrc_eq, zup_s, zup_n, zup_up, zal_i, zal_b, zal_z, zas_i, zas_b, zas_z, zan_eq, Option.toList_some, Option.toList_none, List.cons_append, List.nil_append, if_true, if_false, ite_true, ite_false, true_or, or_true]
            refine c123 hm' (fun h' a1 a2 a3 => ?_)
            have hO := oOkN (S := S) (T := F 0) (p := p) (d := d)
            obtain ⟨z1, z2⟩ := zIx_lt _ (hO.2.2.1 a ha g5)
            obtain ⟨mn, od, rk, mk, n1, n2, n3, n4, n5, n6, n7, n8, n9⟩ := a1
            have er : rk a = nI (zIx (oF S (F 0) p d) a (oN S (F 0))) := by
              have := n8 _ z1
              rwa [z2, Nat.mul_zero, Nat.zero_add] at this
            have e1 := a2.1
            unfold mObj at e1
            generalize zIx (oF S (F 0) p d) a (oN S (F 0)) = r at *
            have b1 : pSu S (oN S (F 0)) ≤ oN S (F 0) := Nat.min_le_right _ _
            have b3 : pLo S (oN S (F 0)) ≤ oN S (F 0) - pSu S (oN S (F 0)) := Nat.min_le_right _ _
            have b4 : pDr S (oN S (F 0)) ≤ pLo S (oN S (F 0)) := Nat.min_le_right _ _
            have R := fun x y l5 pc hpc ha hb0 hb K' => c139_117 (X := X) (N := N) (h := h) (Q := Q) (w := w) (a := x) (b := y) (pc := pc) (l1 := some (.int p)) (l2 := some (.int d)) (l3 := some (.int (nI a))) (l5 := l5) hpc ha hb0 hb a2.1 a2.2.2.2.2.2 a3 K'
            by_cases c1 : r < pSu S (oN S (F 0))
            · rw [show chA (pSu S (oN S (F 0))) (pLo S (oN S (F 0))) (pDr S (oN S (F 0))) r = 1 from if_pos c1, show chB (pSu S (oN S (F 0))) (pLo S (oN S (F 0))) r = 1 from if_pos c1] at K
              simp (disch := omega) only [e139_0, e139_1, e139_2, e139_5, e139_8, e139_9, e139_12, e139_15, e139_16, e139_17, e139_20, e139_23, e139_25, e139_26, e139_27, e139_28, e139_31, e139_34, e139_35, e139_36, e139_37, e139_38, e139_39, e139_42, e139_45, e139_47, e139_48, e139_49, e139_50, e139_51, e139_54, e139_55, e139_58, e139_59, e139_60, e139_62, e139_64, e139_65, e139_68, e139_71, e139_72, e139_73, e139_74, e139_77, e139_80, e139_82, e139_83, e139_86, e139_87, e139_90, e139_91, e139_94, e139_95, e139_96, e139_99, e139_100, e139_101, e139_104, e139_105, e139_108, e139_111, e139_112, e139_113, e139_114, e139_119, e139_122, e139_123, e139_126, e139_129, e139_130, e139_133, e139_134, Option.toList_none, List.nil_append, e1, n3, er, zg10_0, zp10_0, zg10_1, zp10_1, zg10_2, zp10_2, zg10_3, zp10_3, zg10_4, zp10_4, zg10_5, zp10_5, zg10_6, zp10_6, zg10_7, zp10_7, zg10_8, zp10_8, zg10_9, zp10_9, zg10_10, zp10_10, zg10_11, zp10_11, zg10_12, zp10_12, zg10_13, zp10_13, zg10_14, zp10_14, zg10_15, zp10_15, zg10_16, zp10_16, zg10_17, zp10_17, zg10_18, zp10_18, zg10_19, zp10_19, zg10_20, zp10_20, zg10_21, zp10_21, zg10_22, zp10_22, zg10_23, zp10_23, zg10_24, zp10_24, zg10_25, zp10_25, zg10_26, zp10_26, zg10_27, zp10_27, zg10_28, zp10_28, zg10_29, zp10_29, zg10_30, zp10_30, zg10_31, zp10_31, zg10_32, zp10_32, zrc_eq, zup_s, zup_n, zup_up, zal_i, zal_b, zal_z, zas_i, zas_b, zas_z, zan_eq, Option.toList_some, Option.toList_none, List.cons_append, List.nil_append, if_true, if_false, ite_true, ite_false, true_or, or_true, znI_le, if_neg, zl1]
              exact R 1 1 _ 77 (by decide) (by decide) (by decide) (by decide) K
            · by_cases c2 : r < pSu S (oN S (F 0)) + pLo S (oN S (F 0))
              · rw [show chA (pSu S (oN S (F 0))) (pLo S (oN S (F 0))) (pDr S (oN S (F 0))) r = pDr S (oN S (F 0)) from by unfold chA; rw [if_neg c1, if_pos c2], show chB (pSu S (oN S (F 0))) (pLo S (oN S (F 0))) r = pLo S (oN S (F 0)) from by unfold chB; rw [if_neg c1, if_pos c2]] at K
                simp (disch := omega) only [e139_0, e139_1, e139_2, e139_5, e139_8, e139_9, e139_12, e139_15, e139_16, e139_17, e139_20, e139_23, e139_25, e139_26, e139_27, e139_28, e139_31, e139_34, e139_35, e139_36, e139_37, e139_38, e139_39, e139_42, e139_45, e139_47, e139_48, e139_49, e139_50, e139_51, e139_54, e139_55, e139_58, e139_59, e139_60, e139_62, e139_64, e139_65, e139_68, e139_71, e139_72, e139_73, e139_74, e139_77, e139_80, e139_82, e139_83, e139_86, e139_87, e139_90, e139_91, e139_94, e139_95, e139_96, e139_99, e139_100, e139_101, e139_104, e139_105, e139_108, e139_111, e139_112, e139_113, e139_114, e139_119, e139_122, e139_123, e139_126, e139_129, e139_130, e139_133, e139_134, Option.toList_none, List.nil_append, e1, n3, er, zg10_0, zp10_0, zg10_1, zp10_1, zg10_2, zp10_2, zg10_3, zp10_3, zg10_4, zp10_4, zg10_5, zp10_5, zg10_6, zp10_6, zg10_7, zp10_7, zg10_8, zp10_8, zg10_9, zp10_9, zg10_10, zp10_10, zg10_11, zp10_11, zg10_12, zp10_12, zg10_13, zp10_13, zg10_14, zp10_14, zg10_15, zp10_15, zg10_16, zp10_16, zg10_17, zp10_17, zg10_18, zp10_18, zg10_19, zp10_19, zg10_20, zp10_20, zg10_21, zp10_21, zg10_22, zp10_22, zg10_23, zp10_23, zg10_24, zp10_24, zg10_25, zp10_25, zg10_26, zp10_26, zg10_27, zp10_27, zg10_28, zp10_28, zg10_29, zp10_29, zg10_30, zp10_30, zg10_31, zp10_31, zg10_32, zp10_32, zrc_eq, zup_s, zup_n, zup_up, zal_i, zal_b, zal_z, zas_i, zas_b, zas_z, zan_eq, Option.toList_some, Option.toList_none, List.cons_append, List.nil_append, if_true, if_false, ite_true, ite_false, true_or, or_true, znI_le, if_neg, if_pos, nI_add, nI_l]
                exact R _ _ _ 108 (by decide) (by omega) (by omega) (by omega) K
              · rw [show chA (pSu S (oN S (F 0))) (pLo S (oN S (F 0))) (pDr S (oN S (F 0))) r = 0 from by unfold chA; rw [if_neg c1, if_neg c2], show chB (pSu S (oN S (F 0))) (pLo S (oN S (F 0))) r = 1 from by unfold chB; rw [if_neg c1, if_neg c2]] at K
                simp (disch := omega) only [e139_0, e139_1, e139_2, e139_5, e139_8, e139_9, e139_12, e139_15, e139_16, e139_17, e139_20, e139_23, e139_25, e139_26, e139_27, e139_28, e139_31, e139_34, e139_35, e139_36, e139_37, e139_38, e139_39, e139_42, e139_45, e139_47, e139_48, e139_49, e139_50, e139_51, e139_54, e139_55, e139_58, e139_59, e139_60, e139_62, e139_64, e139_65, e139_68, e139_71, e139_72, e139_73, e139_74, e139_77, e139_80, e139_82, e139_83, e139_86, e139_87, e139_90, e139_91, e139_94, e139_95, e139_96, e139_99, e139_100, e139_101, e139_104, e139_105, e139_108, e139_111, e139_112, e139_113, e139_114, e139_119, e139_122, e139_123, e139_126, e139_129, e139_130, e139_133, e139_134, Option.toList_none, List.nil_append, e1, n3, er, zg10_0, zp10_0, zg10_1, zp10_1, zg10_2, zp10_2, zg10_3, zp10_3, zg10_4, zp10_4, zg10_5, zp10_5, zg10_6, zp10_6, zg10_7, zp10_7, zg10_8, zp10_8, zg10_9, zp10_9, zg10_10, zp10_10, zg10_11, zp10_11, zg10_12, zp10_12, zg10_13, zp10_13, zg10_14, zp10_14, zg10_15, zp10_15, zg10_16, zp10_16, zg10_17, zp10_17, zg10_18, zp10_18, zg10_19, zp10_19, zg10_20, zp10_20, zg10_21, zp10_21, zg10_22, zp10_22, zg10_23, zp10_23, zg10_24, zp10_24, zg10_25, zp10_25, zg10_26, zp10_26, zg10_27, zp10_27, zg10_28, zp10_28, zg10_29, zp10_29, zg10_30, zp10_30, zg10_31, zp10_31, zg10_32, zp10_32, zrc_eq, zup_s, zup_n, zup_up, zal_i, zal_b, zal_z, zas_i, zas_b, zas_z, zan_eq, Option.toList_some, Option.toList_none, List.cons_append, List.nil_append, if_true, if_false, ite_true, ite_false, true_or, or_true, znI_le, if_neg, if_pos, nI_add, zl0, zl1]
                exact R 0 1 _ 117 (by decide) (by decide) (by decide) (by decide) K
          · rw [if_neg g5]
            rw [if_neg g5] at K
            exact K h rf
        · rw [if_neg g4]
          rw [if_neg (fun z => g4 z.2.2.2)] at K
          exact K h rf
      · rw [if_neg g3]
        rw [if_neg (fun z => g3 z.2.2.1)] at K
        exact K h rf
    · rw [if_neg g2]
      rw [if_neg (fun z => g2 z.2.1)] at K
      exact K h rf
  · rw [if_neg g1]
    rw [if_neg (fun z => g1 z.1)] at K
    exact K h rf
end C42
