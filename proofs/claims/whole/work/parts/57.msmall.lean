-- copies, keep, back, count of the model; having
section C57
variable {X : Nat × (Nat → Int32)} {N : Nat} {h : zH} {Q : Option Value → Nat → zH → Prop} {S : zSh} {T : zTm} {F : Nat → zTm} {D : Nat → Prop} {ld dd : Nat} {p d n w kp : Int32}
variable {len at_ rp rj np_ nj_ su lo dr : Int32} {ab be : Int64}
set_option maxHeartbeats 2000000 in
theorem pMz.sub {h : zH} {D D' : Nat → Prop} {F F' : Nat → zTm} (hT : pMz h D F) (e : ∀ s, s < 5 → D' s → D s ∧ F s = F' s) : pMz h D' F' := by
  obtain ⟨a, b, c, y, r, t1, t2, t3, t4, t5, t6⟩ := hT
  refine ⟨a, b, c, y, r, t1, t2, t3, t4, t5, fun s h5 hs => ?_⟩
  obtain ⟨e1, e2⟩ := e s h5 hs
  rw [← e2]
  exact t6 s h5 e1
set_option maxHeartbeats 2000000 in
theorem c156_loop {u v : Nat} {a0 b0 c0 : Nat → Int32} (hu : u < 5) (hv : v < 5) (huv : u ≠ v) (h01 : ∀ w, w < 8 → c0 (8 * u + w) = 0 ∨ c0 (8 * u + w) = 1) : ∀ (m w : Nat) (a b c : Nat → Int32) (h : zH), m + w = 8 → h 53 = mObj len at_ rp rj np_ nj_ kp su lo dr ab be → h 63 = .inl (.int, 40, a) → h 64 = .inl (.int, 40, b) → h 65 = .inl (.boolean, 40, c) → (∀ j, j < w → a (8 * v + j) = a0 (8 * u + j) ∧ b (8 * v + j) = b0 (8 * u + j) ∧ c (8 * v + j) = c0 (8 * u + j)) → (∀ q, q < 8 * v ∨ 8 * v + 8 ≤ q → a q = a0 q ∧ b q = b0 q ∧ c q = c0 q) → (∀ h' a b c, h' 63 = .inl (.int, 40, a) → h' 64 = .inl (.int, 40, b) → h' 65 = .inl (.boolean, 40, c) → (∀ j, j < 8 → a (8 * v + j) = a0 (8 * u + j) ∧ b (8 * v + j) = b0 (8 * u + j) ∧ c (8 * v + j) = c0 (8 * u + j)) → (∀ q, q < 8 * v ∨ 8 * v + 8 ≤ q → a q = a0 q ∧ b q = b0 q ∧ c q = c0 q) → zfr (fun a => 63 ≤ a ∧ a ≤ 65) h h' → zE X 156 80 [some (.ref 53), some (.int (nI u)), some (.int (nI v)), some (.int (nI 8))] [] (N, 0, 0) h' Q) → zE X 156 2 [some (.ref 53), some (.int (nI u)), some (.int (nI v)), some (.int (nI w))] [] (N, 0, 0) h Q := by
  intro m
  induction m with
  | zero =>
    intro w a b c h hm h1 h63 h64 h65 a1 a2 K
    obtain rfl : w = 8 := by omega
    rw [e156_2]
    simp (disch := omega) only [e156_0, e156_1, e156_3, e156_5, e156_8, e156_9, e156_12, e156_14, e156_15, e156_16, e156_17, e156_18, e156_19, e156_22, e156_24, e156_25, e156_26, e156_27, e156_28, e156_29, e156_30, e156_31, e156_34, e156_36, e156_37, e156_38, e156_39, e156_40, e156_41, e156_44, e156_46, e156_47, e156_48, e156_49, e156_50, e156_51, e156_52, e156_53, e156_56, e156_58, e156_59, e156_60, e156_61, e156_62, e156_63, e156_66, e156_68, e156_69, e156_70, e156_71, e156_72, e156_73, e156_74, e156_77, e156_81, e156_84, e156_85, e156_86, e156_89, e156_90, e156_91, e156_92, e156_93, e156_96, e156_97, e156_98, e156_101, e156_102, e156_103, e156_104, zc8, znI_le, if_pos]
    exact K h a b c h63 h64 h65 a1 a2 zfr.rf
  | succ m ih =>
    intro w a b c h hm h1 h63 h64 h65 a1 a2 K
    have h1' := h1
    unfold mObj at h1
    have eu : (8 : Int32) * nI u + nI w = nI (8 * u + w) := by rw [zc8, pk_mul, nI_add]
    have ev : (8 : Int32) * nI v + nI w = nI (8 * v + w) := by rw [zc8, pk_mul, nI_add]
    have e8 : (nI 8 ≤ nI w) = (8 ≤ w) := znI_le (by omega) (by omega)
    obtain ⟨o1, o2, o3⟩ := a2 (8 * u + w) (by omega)
    rw [e156_2]
    simp (disch := omega) only [e156_0, e156_1, e156_3, e156_5, e156_9, e156_12, e156_14, e156_15, e156_16, e156_17, e156_18, e156_19, e156_22, e156_24, e156_25, e156_26, e156_27, e156_28, e156_29, e156_30, e156_31, e156_34, e156_36, e156_37, e156_38, e156_39, e156_40, e156_41, e156_44, e156_46, e156_47, e156_48, e156_49, e156_50, e156_51, e156_52, e156_53, e156_56, e156_58, e156_59, e156_60, e156_61, e156_62, e156_63, e156_66, e156_68, e156_69, e156_70, e156_71, e156_72, e156_73, e156_74, e156_77, e156_81, e156_84, e156_85, e156_86, e156_89, e156_90, e156_91, e156_92, e156_93, e156_96, e156_97, e156_98, e156_101, e156_102, e156_103, e156_104]
    rw [zc8, if_neg (by rw [e8]; omega)]
    simp (disch := omega) only [e156_0, e156_1, e156_3, e156_5, e156_8, e156_9, e156_12, e156_14, e156_15, e156_16, e156_17, e156_18, e156_19, e156_22, e156_24, e156_25, e156_26, e156_27, e156_28, e156_29, e156_30, e156_31, e156_34, e156_36, e156_37, e156_38, e156_39, e156_40, e156_41, e156_44, e156_46, e156_47, e156_48, e156_49, e156_50, e156_51, e156_52, e156_53, e156_56, e156_58, e156_59, e156_60, e156_61, e156_62, e156_63, e156_66, e156_68, e156_69, e156_70, e156_71, e156_72, e156_73, e156_74, e156_77, e156_81, e156_84, e156_85, e156_86, e156_89, e156_90, e156_91, e156_92, e156_93, e156_96, e156_97, e156_98, e156_101, e156_102, e156_103, e156_104, h1, h63, h64, h65, zg10_0, zp10_0, zg10_1, zp10_1, zg10_2, zp10_2, zg10_3, zp10_3, zg10_4, zp10_4, zg10_5, zp10_5, zg10_6, zp10_6, zg10_7, zp10_7, zg10_8, zp10_8, zg10_9, zp10_9, zg10_10, zp10_10, zg10_11, zp10_11, zg10_12, zp10_12, zg10_13, zp10_13, zg10_14, zp10_14, zg10_15, zp10_15, zg10_16, zp10_16, zg10_17, zp10_17, zg10_18, zp10_18, zg10_19, zp10_19, zg10_20, zp10_20, zg10_21, zp10_21, zg10_22, zp10_22, zg10_23, zp10_23, zg10_24, zp10_24, zg10_25, zp10_25, zg10_26, zp10_26, zg10_27, zp10_27, zg10_28, zp10_28, zg10_29, zp10_29, zg10_30, zp10_30, zg10_31, zp10_31, zg10_32, zp10_32, zrc_eq, zup_s, zup_n, zup_up, zal_i, zal_b, zal_z, zas_i, zas_b, zas_z, zan_eq, Option.toList_some, Option.toList_none, List.cons_append, List.nil_append, if_true, if_false, ite_true, ite_false, true_or, or_true, eu, ev, o1, o2, o3, z01 (h01 w (by omega)), nI_1]
    refine ih (w + 1) (upd a (8 * v + w) (a0 (8 * u + w))) (upd b (8 * v + w) (b0 (8 * u + w))) (upd c (8 * v + w) (c0 (8 * u + w))) _ (by omega) ?_ ?_ ?_ ?_ (fun j hj => ?_) (fun q hq => ?_) (fun h' a b c c1 c2 c3 c4 c5 c6 => K h' a b c c1 c2 c3 c4 c5 (zfr.up (by omega) (zfr.up (by omega) (zfr.up (by omega) c6))))
    · simp (disch := omega) only [zup_n]; exact h1'
    · simp (disch := omega) only [zup_n, zup_s]
    · simp (disch := omega) only [zup_n, zup_s]
    · simp (disch := omega) only [zup_s]
    · by_cases q : j = w
      · subst q; rw [upd_s, upd_s, upd_s]; exact ⟨rfl, rfl, rfl⟩
      · rw [upd_n (by omega), upd_n (by omega), upd_n (by omega)]; exact a1 j (by omega)
    · rw [upd_n (by omega), upd_n (by omega), upd_n (by omega)]; exact a2 q hq
set_option maxHeartbeats 2000000 in
theorem c156 {u v : Nat} (hu : u < 5) (hv : v < 5) (huv : u ≠ v) (hD : D u) (h1 : h 53 = mObj len at_ rp rj np_ nj_ kp su lo dr ab be) (hT : pMz h D F) (K : ∀ h', pMz h' (fun s => D s ∨ s = v) (fUp F v (F u)) → zfr (fun a => 63 ≤ a ∧ a ≤ 67) h h' → Q none N h') : zE X 156 0 [some (.ref 53), some (.int (nI u)), some (.int (nI v)), none] [] (N, 0, 0) h Q := by
  obtain ⟨a, b, c, y, r, t1, t2, t3, t4, t5, t6⟩ := hT
  obtain ⟨u1, u2, u3⟩ := t6 u hu hD
  simp (disch := omega) only [e156_0, e156_1, e156_3, e156_5, e156_8, e156_9, e156_12, e156_14, e156_15, e156_16, e156_17, e156_18, e156_19, e156_22, e156_24, e156_25, e156_26, e156_27, e156_28, e156_29, e156_30, e156_31, e156_34, e156_36, e156_37, e156_38, e156_39, e156_40, e156_41, e156_44, e156_46, e156_47, e156_48, e156_49, e156_50, e156_51, e156_52, e156_53, e156_56, e156_58, e156_59, e156_60, e156_61, e156_62, e156_63, e156_66, e156_68, e156_69, e156_70, e156_71, e156_72, e156_73, e156_74, e156_77, e156_80, e156_81, e156_84, e156_85, e156_86, e156_89, e156_90, e156_91, e156_92, e156_93, e156_96, e156_97, e156_98, e156_101, e156_102, e156_103, e156_104, zc0]
  refine c156_loop (a0 := a) (b0 := b) (c0 := c) hu hv huv (fun w hw => by rw [(u1 w hw).2.2.1]; exact (u1 w hw).2.2.2) 8 0 a b c h (by omega) h1 t1 t2 t3 (fun j hj => absurd hj (Nat.not_lt_zero j)) (fun q hq => ⟨rfl, rfl, rfl⟩) (fun h' a' b' c' x1 x2 x3 x4 x5 x6 => ?_)
  have e1 := (x6 53 (by omega)).trans h1
  have e66 := (x6 66 (by omega)).trans t4
  have e67 := (x6 67 (by omega)).trans t5
  unfold mObj at e1
  simp (disch := omega) only [e156_0, e156_1, e156_3, e156_5, e156_8, e156_9, e156_12, e156_14, e156_15, e156_16, e156_17, e156_18, e156_19, e156_22, e156_24, e156_25, e156_26, e156_27, e156_28, e156_29, e156_30, e156_31, e156_34, e156_36, e156_37, e156_38, e156_39, e156_40, e156_41, e156_44, e156_46, e156_47, e156_48, e156_49, e156_50, e156_51, e156_52, e156_53, e156_56, e156_58, e156_59, e156_60, e156_61, e156_62, e156_63, e156_66, e156_68, e156_69, e156_70, e156_71, e156_72, e156_73, e156_74, e156_77, e156_80, e156_81, e156_84, e156_85, e156_86, e156_89, e156_90, e156_91, e156_92, e156_93, e156_96, e156_97, e156_98, e156_101, e156_102, e156_103, e156_104, e1, e66, e67, zg10_0, zp10_0, zg10_1, zp10_1, zg10_2, zp10_2, zg10_3, zp10_3, zg10_4, zp10_4, zg10_5, zp10_5, zg10_6, zp10_6, zg10_7, zp10_7, zg10_8, zp10_8, zg10_9, zp10_9, zg10_10, zp10_10, zg10_11, zp10_11, zg10_12, zp10_12, zg10_13, zp10_13, zg10_14, zp10_14, zg10_15, zp10_15, zg10_16, zp10_16, zg10_17, zp10_17, zg10_18, zp10_18, zg10_19, zp10_19, zg10_20, zp10_20, zg10_21, zp10_21, zg10_22, zp10_22, zg10_23, zp10_23, zg10_24, zp10_24, zg10_25, zp10_25, zg10_26, zp10_26, zg10_27, zp10_27, zg10_28, zp10_28, zg10_29, zp10_29, zg10_30, zp10_30, zg10_31, zp10_31, zg10_32, zp10_32, zrc_eq, zup_s, zup_n, zup_up, zal_i, zal_b, zal_z, zas_i, zas_b, zas_z, zan_eq, Option.toList_some, Option.toList_none, List.cons_append, List.nil_append, if_true, if_false, ite_true, ite_false, true_or, or_true]
  have F1 : zfr (fun a => 66 ≤ a ∧ a ≤ 67) h' (va_up (va_up h' 66 (.inl (.int, 5, upd y v (y u)))) 67 (.inl (.int, 5, upd r v (r u)))) := zfr.up (by omega) (zfr.up (by omega) zfr.rf)
  refine K _ ⟨a', b', c', upd y v (y u), upd r v (r u), (F1 _ (by omega)).trans x1, (F1 _ (by omega)).trans x2, (F1 _ (by omega)).trans x3, (zup_n (by omega)).trans zup_s, zup_s, fun s h5 hs => ?_⟩ ((x6.mono (fun a ha => by omega)).tr (F1.mono (fun a ha => by omega)))
  by_cases q : s = v
  · subst q
    have ef : fUp F s (F u) s = F u := if_pos rfl
    rw [ef]
    refine ⟨fun w hw => ?_, by rw [upd_s]; exact u2, by rw [upd_s]; exact u3⟩
    obtain ⟨o1, o2, o3⟩ := x4 w hw
    rw [o1, o2, o3]
    exact u1 w hw
  · have ef : fUp F v (F u) s = F s := if_neg q
    rw [ef]
    obtain ⟨j1, j2, j3⟩ := t6 s h5 (hs.resolve_right q)
    refine ⟨fun w hw => ?_, by rw [upd_n q]; exact j2, by rw [upd_n q]; exact j3⟩
    obtain ⟨o1, o2, o3⟩ := x5 (8 * s + w) (by omega)
    rw [o1, o2, o3]
    exact j1 w hw
set_option maxHeartbeats 2000000 in
theorem c157 {kn : Nat} (hk : kn ≤ 2) (hD : D 0) (h1 : h 53 = mObj len at_ rp rj np_ nj_ (nI kn) su lo dr ab be) (hT : pMz h D F) (K0 : ¬ kn < 2 → Q (some (.int (aKeep kn))) N h) (K1 : kn < 2 → ∀ h', h' 53 = mObj len at_ rp rj np_ nj_ (nI (kn + 1)) su lo dr ab be → pMz h' (fun s => D s ∨ s = kn + 1) (fUp F (kn + 1) (F 0)) → zfr (fun a => a = 53 ∨ (63 ≤ a ∧ a ≤ 67)) h h' → Q (some (.int (aKeep kn))) N h') : zE X 157 0 [some (.ref 53)] [] (N, 0, 0) h Q := by
  have h1' := h1
  unfold mObj at h1
  unfold aKeep at K0 K1
  by_cases g : kn < 2
  · rw [if_pos g] at K1
    have g2 : (nI kn = 2) = False := eq_false (fun z => by rw [zc2] at z; have := (nI_eq (by omega) (by omega)).mp z; omega)
    simp (disch := omega) only [e157_0, e157_1, e157_4, e157_5, e157_8, e157_10, e157_11, e157_12, e157_13, e157_16, e157_17, e157_18, e157_21, e157_22, e157_23, e157_24, e157_27, e157_30, e157_31, e157_34, h1, zg10_0, zp10_0, zg10_1, zp10_1, zg10_2, zp10_2, zg10_3, zp10_3, zg10_4, zp10_4, zg10_5, zp10_5, zg10_6, zp10_6, zg10_7, zp10_7, zg10_8, zp10_8, zg10_9, zp10_9, zg10_10, zp10_10, zg10_11, zp10_11, zg10_12, zp10_12, zg10_13, zp10_13, zg10_14, zp10_14, zg10_15, zp10_15, zg10_16, zp10_16, zg10_17, zp10_17, zg10_18, zp10_18, zg10_19, zp10_19, zg10_20, zp10_20, zg10_21, zp10_21, zg10_22, zp10_22, zg10_23, zp10_23, zg10_24, zp10_24, zg10_25, zp10_25, zg10_26, zp10_26, zg10_27, zp10_27, zg10_28, zp10_28, zg10_29, zp10_29, zg10_30, zp10_30, zg10_31, zp10_31, zg10_32, zp10_32, zrc_eq, zup_s, zup_n, zup_up, zal_i, zal_b, zal_z, zas_i, zas_b, zas_z, zan_eq, Option.toList_some, Option.toList_none, List.cons_append, List.nil_append, if_true, if_false, ite_true, ite_false, true_or, or_true, g2, nI_1]
    have F0 : zfr (fun a => a = 53) h (va_up h 53 (mObj len at_ rp rj np_ nj_ (nI (kn + 1)) su lo dr ab be)) := zfr.up rfl zfr.rf
    have E := fun Q' => c156 (X := X) (N := N) (Q := Q') (h := va_up h 53 (mObj len at_ rp rj np_ nj_ (nI (kn + 1)) su lo dr ab be)) (u := 0) (v := kn + 1) (by omega) (by omega) (by omega) hD zup_s (hT.kept F0 (by omega))
    rw [nI_0] at E
    refine E _ (fun h' c1 c2 => ?_)
    have e1' := (c2 53 (by omega)).trans zup_s
    have e1 := e1'
    unfold mObj at e1
    simp (disch := omega) only [e157_0, e157_1, e157_4, e157_5, e157_8, e157_10, e157_11, e157_12, e157_13, e157_16, e157_17, e157_18, e157_21, e157_22, e157_23, e157_24, e157_27, e157_30, e157_31, e157_34, Option.toList_none, List.nil_append, e1, zg10_0, zp10_0, zg10_1, zp10_1, zg10_2, zp10_2, zg10_3, zp10_3, zg10_4, zp10_4, zg10_5, zp10_5, zg10_6, zp10_6, zg10_7, zp10_7, zg10_8, zp10_8, zg10_9, zp10_9, zg10_10, zp10_10, zg10_11, zp10_11, zg10_12, zp10_12, zg10_13, zp10_13, zg10_14, zp10_14, zg10_15, zp10_15, zg10_16, zp10_16, zg10_17, zp10_17, zg10_18, zp10_18, zg10_19, zp10_19, zg10_20, zp10_20, zg10_21, zp10_21, zg10_22, zp10_22, zg10_23, zp10_23, zg10_24, zp10_24, zg10_25, zp10_25, zg10_26, zp10_26, zg10_27, zp10_27, zg10_28, zp10_28, zg10_29, zp10_29, zg10_30, zp10_30, zg10_31, zp10_31, zg10_32, zp10_32, zrc_eq, zup_s, zup_n, zup_up, zal_i, zal_b, zal_z, zas_i, zas_b, zas_z, zan_eq, Option.toList_some, Option.toList_none, List.cons_append, List.nil_append, if_true, if_false, ite_true, ite_false, true_or, or_true]
    exact K1 g h' e1' c1 ((F0.mono (fun a ha => by omega)).tr (c2.mono (fun a ha => by omega)))
  · rw [if_neg g] at K0
    have g2 : (nI kn = 2) = True := by rw [show kn = 2 by omega]; decide
    simp (disch := omega) only [e157_0, e157_1, e157_4, e157_5, e157_8, e157_10, e157_11, e157_12, e157_13, e157_16, e157_17, e157_18, e157_21, e157_22, e157_23, e157_24, e157_27, e157_30, e157_31, e157_34, h1, zg10_0, zp10_0, zg10_1, zp10_1, zg10_2, zp10_2, zg10_3, zp10_3, zg10_4, zp10_4, zg10_5, zp10_5, zg10_6, zp10_6, zg10_7, zp10_7, zg10_8, zp10_8, zg10_9, zp10_9, zg10_10, zp10_10, zg10_11, zp10_11, zg10_12, zp10_12, zg10_13, zp10_13, zg10_14, zp10_14, zg10_15, zp10_15, zg10_16, zp10_16, zg10_17, zp10_17, zg10_18, zp10_18, zg10_19, zp10_19, zg10_20, zp10_20, zg10_21, zp10_21, zg10_22, zp10_22, zg10_23, zp10_23, zg10_24, zp10_24, zg10_25, zp10_25, zg10_26, zp10_26, zg10_27, zp10_27, zg10_28, zp10_28, zg10_29, zp10_29, zg10_30, zp10_30, zg10_31, zp10_31, zg10_32, zp10_32, zrc_eq, zup_s, zup_n, zup_up, zal_i, zal_b, zal_z, zas_i, zas_b, zas_z, zan_eq, Option.toList_some, Option.toList_none, List.cons_append, List.nil_append, if_true, if_false, ite_true, ite_false, true_or, or_true, g2]
    exact K0 g
set_option maxHeartbeats 2000000 in
theorem c158 {kn : Nat} (hk : kn ≤ 2) (hD : D kn) (h1 : h 53 = mObj len at_ rp rj np_ nj_ (nI kn) su lo dr ab be) (hT : pMz h D F) (K0 : ¬ 0 < kn → Q (some (.int (aBack kn))) N h) (K1 : 0 < kn → ∀ h', h' 53 = mObj len at_ rp rj np_ nj_ (nI (kn - 1)) su lo dr ab be → pMz h' (fun s => D s ∨ s = 0) (fUp F 0 (F kn)) → zfr (fun a => a = 53 ∨ (63 ≤ a ∧ a ≤ 67)) h h' → Q (some (.int (aBack kn))) N h') : zE X 158 0 [some (.ref 53)] [] (N, 0, 0) h Q := by
  have h1' := h1
  unfold mObj at h1
  unfold aBack at K0 K1
  by_cases g : 0 < kn
  · rw [if_pos g] at K1
    have g2 : (nI kn = 0) = False := eq_false (nI_ne0 g (by omega))
    have em : nI kn - 1 = nI (kn - 1) := pk_sub (b := 1) g
    simp (disch := omega) only [e158_0, e158_1, e158_4, e158_7, e158_9, e158_10, e158_11, e158_12, e158_15, e158_16, e158_19, e158_20, e158_21, e158_24, e158_25, e158_26, e158_29, e158_30, e158_33, h1, zg10_0, zp10_0, zg10_1, zp10_1, zg10_2, zp10_2, zg10_3, zp10_3, zg10_4, zp10_4, zg10_5, zp10_5, zg10_6, zp10_6, zg10_7, zp10_7, zg10_8, zp10_8, zg10_9, zp10_9, zg10_10, zp10_10, zg10_11, zp10_11, zg10_12, zp10_12, zg10_13, zp10_13, zg10_14, zp10_14, zg10_15, zp10_15, zg10_16, zp10_16, zg10_17, zp10_17, zg10_18, zp10_18, zg10_19, zp10_19, zg10_20, zp10_20, zg10_21, zp10_21, zg10_22, zp10_22, zg10_23, zp10_23, zg10_24, zp10_24, zg10_25, zp10_25, zg10_26, zp10_26, zg10_27, zp10_27, zg10_28, zp10_28, zg10_29, zp10_29, zg10_30, zp10_30, zg10_31, zp10_31, zg10_32, zp10_32, zrc_eq, zup_s, zup_n, zup_up, zal_i, zal_b, zal_z, zas_i, zas_b, zas_z, zan_eq, Option.toList_some, Option.toList_none, List.cons_append, List.nil_append, if_true, if_false, ite_true, ite_false, true_or, or_true, g2]
    have E := fun Q' => c156 (X := X) (N := N) (Q := Q') (u := kn) (v := 0) (by omega) (by omega) (by omega) hD h1' hT
    rw [nI_0] at E
    refine E _ (fun h' c1 c2 => ?_)
    have e1 := (c2 53 (by omega)).trans h1'
    unfold mObj at e1
    simp (disch := omega) only [e158_0, e158_1, e158_4, e158_7, e158_9, e158_10, e158_11, e158_12, e158_15, e158_16, e158_19, e158_20, e158_21, e158_24, e158_25, e158_26, e158_29, e158_30, e158_33, Option.toList_none, List.nil_append, e1, zg10_0, zp10_0, zg10_1, zp10_1, zg10_2, zp10_2, zg10_3, zp10_3, zg10_4, zp10_4, zg10_5, zp10_5, zg10_6, zp10_6, zg10_7, zp10_7, zg10_8, zp10_8, zg10_9, zp10_9, zg10_10, zp10_10, zg10_11, zp10_11, zg10_12, zp10_12, zg10_13, zp10_13, zg10_14, zp10_14, zg10_15, zp10_15, zg10_16, zp10_16, zg10_17, zp10_17, zg10_18, zp10_18, zg10_19, zp10_19, zg10_20, zp10_20, zg10_21, zp10_21, zg10_22, zp10_22, zg10_23, zp10_23, zg10_24, zp10_24, zg10_25, zp10_25, zg10_26, zp10_26, zg10_27, zp10_27, zg10_28, zp10_28, zg10_29, zp10_29, zg10_30, zp10_30, zg10_31, zp10_31, zg10_32, zp10_32, zrc_eq, zup_s, zup_n, zup_up, zal_i, zal_b, zal_z, zas_i, zas_b, zas_z, zan_eq, Option.toList_some, Option.toList_none, List.cons_append, List.nil_append, if_true, if_false, ite_true, ite_false, true_or, or_true, em]
    have F0 : zfr (fun a => a = 53) h' (va_up h' 53 (mObj len at_ rp rj np_ nj_ (nI (kn - 1)) su lo dr ab be)) := zfr.up rfl zfr.rf
    exact K1 g _ zup_s (c1.kept F0 (by omega)) ((c2.mono (fun a ha => by omega)).tr (F0.mono (fun a ha => by omega)))
  · rw [if_neg g] at K0
    obtain rfl : kn = 0 := by omega
    simp (disch := omega) only [e158_0, e158_1, e158_4, e158_7, e158_9, e158_10, e158_11, e158_12, e158_15, e158_16, e158_19, e158_20, e158_21, e158_24, e158_25, e158_26, e158_29, e158_30, e158_33, h1, zg10_0, zp10_0, zg10_1, zp10_1, zg10_2, zp10_2, zg10_3, zp10_3, zg10_4, zp10_4, zg10_5, zp10_5, zg10_6, zp10_6, zg10_7, zp10_7, zg10_8, zp10_8, zg10_9, zp10_9, zg10_10, zp10_10, zg10_11, zp10_11, zg10_12, zp10_12, zg10_13, zp10_13, zg10_14, zp10_14, zg10_15, zp10_15, zg10_16, zp10_16, zg10_17, zp10_17, zg10_18, zp10_18, zg10_19, zp10_19, zg10_20, zp10_20, zg10_21, zp10_21, zg10_22, zp10_22, zg10_23, zp10_23, zg10_24, zp10_24, zg10_25, zp10_25, zg10_26, zp10_26, zg10_27, zp10_27, zg10_28, zp10_28, zg10_29, zp10_29, zg10_30, zp10_30, zg10_31, zp10_31, zg10_32, zp10_32, zrc_eq, zup_s, zup_n, zup_up, zal_i, zal_b, zal_z, zas_i, zas_b, zas_z, zan_eq, Option.toList_some, Option.toList_none, List.cons_append, List.nil_append, if_true, if_false, ite_true, ite_false, true_or, or_true, show (nI 0 = 0) = True from by decide]
    exact K0 g
set_option maxHeartbeats 2000000 in
theorem c159_loop {c : Nat → Int32} (h1 : h 53 = mObj len at_ rp rj np_ nj_ kp su lo dr ab be) (h65 : h 65 = .inl (.boolean, 40, c)) (hc : ∀ v, v < 8 → c v = T.2.2.1 v) : ∀ m v, m + v = 8 → zE X 159 4 [some (.ref 53), some (.int w), some (.int (nI (nSum (fun v => if T.2.2.1 v = 0 then 0 else 1) v))), some (.int (nI v))] [] (N, 0, 0) h Q = zE X 159 33 [some (.ref 53), some (.int w), some (.int (nI (nSum (fun v => if T.2.2.1 v = 0 then 0 else 1) 8))), some (.int (nI 8))] [] (N, 0, 0) h Q := by
  unfold mObj at h1
  intro m
  induction m with
  | zero =>
    intro v hv
    obtain rfl : v = 8 := by omega
    rw [e159_4]
    simp (disch := omega) only [e159_0, e159_1, e159_2, e159_3, e159_5, e159_7, e159_10, e159_11, e159_12, e159_15, e159_16, e159_17, e159_20, e159_21, e159_24, e159_25, e159_26, e159_27, e159_30, e159_34, e159_37, e159_38, e159_41, e159_44, e159_45, e159_46, e159_49, e159_50, e159_53, e159_56, e159_57, e159_58, e159_61, e159_62, e159_65, e159_68, e159_69, e159_70, e159_73, e159_74, e159_77, e159_80, e159_81, e159_82, e159_85, e159_86, e159_89, e159_90, zc8, znI_le, if_pos]
  | succ m ih =>
    intro v hv
    have ih' := ih (v + 1) (by omega)
    rw [nSum] at ih'
    have e3 := hc v (by omega)
    rw [e159_4]
    by_cases g : T.2.2.1 v = 0
    · rw [if_pos g] at ih'
      simp (disch := omega) only [e159_0, e159_1, e159_2, e159_3, e159_5, e159_7, e159_10, e159_11, e159_12, e159_15, e159_16, e159_17, e159_20, e159_21, e159_24, e159_25, e159_26, e159_27, e159_30, e159_34, e159_37, e159_38, e159_41, e159_44, e159_45, e159_46, e159_49, e159_50, e159_53, e159_56, e159_57, e159_58, e159_61, e159_62, e159_65, e159_68, e159_69, e159_70, e159_73, e159_74, e159_77, e159_80, e159_81, e159_82, e159_85, e159_86, e159_89, e159_90, h1, h65, zg10_0, zp10_0, zg10_1, zp10_1, zg10_2, zp10_2, zg10_3, zp10_3, zg10_4, zp10_4, zg10_5, zp10_5, zg10_6, zp10_6, zg10_7, zp10_7, zg10_8, zp10_8, zg10_9, zp10_9, zg10_10, zp10_10, zg10_11, zp10_11, zg10_12, zp10_12, zg10_13, zp10_13, zg10_14, zp10_14, zg10_15, zp10_15, zg10_16, zp10_16, zg10_17, zp10_17, zg10_18, zp10_18, zg10_19, zp10_19, zg10_20, zp10_20, zg10_21, zp10_21, zg10_22, zp10_22, zg10_23, zp10_23, zg10_24, zp10_24, zg10_25, zp10_25, zg10_26, zp10_26, zg10_27, zp10_27, zg10_28, zp10_28, zg10_29, zp10_29, zg10_30, zp10_30, zg10_31, zp10_31, zg10_32, zp10_32, zrc_eq, zup_s, zup_n, zup_up, zal_i, zal_b, zal_z, zas_i, zas_b, zas_z, zan_eq, Option.toList_some, Option.toList_none, List.cons_append, List.nil_append, if_true, if_false, ite_true, ite_false, true_or, or_true, zc8, znI_le, if_neg, e3, g, ↓reduceIte, nI_1, Int32.add_zero]
      exact ih'
    · rw [if_neg g] at ih'
      simp (disch := omega) only [e159_0, e159_1, e159_2, e159_3, e159_5, e159_7, e159_10, e159_11, e159_12, e159_15, e159_16, e159_17, e159_20, e159_21, e159_24, e159_25, e159_26, e159_27, e159_30, e159_34, e159_37, e159_38, e159_41, e159_44, e159_45, e159_46, e159_49, e159_50, e159_53, e159_56, e159_57, e159_58, e159_61, e159_62, e159_65, e159_68, e159_69, e159_70, e159_73, e159_74, e159_77, e159_80, e159_81, e159_82, e159_85, e159_86, e159_89, e159_90, h1, h65, zg10_0, zp10_0, zg10_1, zp10_1, zg10_2, zp10_2, zg10_3, zp10_3, zg10_4, zp10_4, zg10_5, zp10_5, zg10_6, zp10_6, zg10_7, zp10_7, zg10_8, zp10_8, zg10_9, zp10_9, zg10_10, zp10_10, zg10_11, zp10_11, zg10_12, zp10_12, zg10_13, zp10_13, zg10_14, zp10_14, zg10_15, zp10_15, zg10_16, zp10_16, zg10_17, zp10_17, zg10_18, zp10_18, zg10_19, zp10_19, zg10_20, zp10_20, zg10_21, zp10_21, zg10_22, zp10_22, zg10_23, zp10_23, zg10_24, zp10_24, zg10_25, zp10_25, zg10_26, zp10_26, zg10_27, zp10_27, zg10_28, zp10_28, zg10_29, zp10_29, zg10_30, zp10_30, zg10_31, zp10_31, zg10_32, zp10_32, zrc_eq, zup_s, zup_n, zup_up, zal_i, zal_b, zal_z, zas_i, zas_b, zas_z, zan_eq, Option.toList_some, Option.toList_none, List.cons_append, List.nil_append, if_true, if_false, ite_true, ite_false, true_or, or_true, zc8, znI_le, if_neg, e3, g, ↓reduceIte, nI_1]
      exact ih'
set_option maxHeartbeats 2000000 in
theorem c159 {ln kn : Nat} (h1 : h 53 = mObj (nI ln) at_ rp rj (nI S.1.1) (nI S.2.1.1) (nI kn) su lo dr ab be) (hT : pMz h D F) (hD : D 0) : zE X 159 0 [some (.ref 53), some (.int w), none, none] [] (N, 0, 0) h Q = Q (some (.int (aCount S (F 0) ln kn w))) N h := by
  have h1' := h1
  unfold mObj at h1
  obtain ⟨a, b, c, y, r, t1, t2, t3, t4, t5, t6⟩ := hT
  obtain ⟨u1, u2, u3⟩ := t6 0 (by omega) hD
  have key := c159_loop (X := X) (N := N) (Q := Q) (w := w) (T := F 0) h1' t3 (fun v hv => by have := (u1 v hv).2.2.1; rwa [Nat.mul_zero, Nat.zero_add] at this) 8 0 (by omega)
  have e0 : nI (nSum (fun v => if (F 0).2.2.1 v = 0 then 0 else 1) 0) = 0 := rfl
  rw [e0, nI_0] at key
  rw [e159_0, e159_1, e159_2, e159_3]
  refine Eq.trans key ?_
  unfold aCount
  by_cases g0 : w = 0
  · rw [if_pos g0]
    simp (disch := omega) only [e159_0, e159_1, e159_2, e159_3, e159_5, e159_7, e159_10, e159_11, e159_12, e159_15, e159_16, e159_17, e159_20, e159_21, e159_24, e159_25, e159_26, e159_27, e159_30, e159_33, e159_34, e159_37, e159_38, e159_41, e159_44, e159_45, e159_46, e159_49, e159_50, e159_53, e159_56, e159_57, e159_58, e159_61, e159_62, e159_65, e159_68, e159_69, e159_70, e159_73, e159_74, e159_77, e159_80, e159_81, e159_82, e159_85, e159_86, e159_89, e159_90, g0, ↓reduceIte, h1, zg10_0, zp10_0, zg10_1, zp10_1, zg10_2, zp10_2, zg10_3, zp10_3, zg10_4, zp10_4, zg10_5, zp10_5, zg10_6, zp10_6, zg10_7, zp10_7, zg10_8, zp10_8, zg10_9, zp10_9, zg10_10, zp10_10, zg10_11, zp10_11, zg10_12, zp10_12, zg10_13, zp10_13, zg10_14, zp10_14, zg10_15, zp10_15, zg10_16, zp10_16, zg10_17, zp10_17, zg10_18, zp10_18, zg10_19, zp10_19, zg10_20, zp10_20, zg10_21, zp10_21, zg10_22, zp10_22, zg10_23, zp10_23, zg10_24, zp10_24, zg10_25, zp10_25, zg10_26, zp10_26, zg10_27, zp10_27, zg10_28, zp10_28, zg10_29, zp10_29, zg10_30, zp10_30, zg10_31, zp10_31, zg10_32, zp10_32, zrc_eq, zup_s, zup_n, zup_up, zal_i, zal_b, zal_z, zas_i, zas_b, zas_z, zan_eq, Option.toList_some, Option.toList_none, List.cons_append, List.nil_append, if_true, if_false, ite_true, ite_false, true_or, or_true]
  · rw [if_neg g0]
    by_cases g1 : w = 1
    · rw [if_pos g1]
      simp (disch := omega) only [e159_0, e159_1, e159_2, e159_3, e159_5, e159_7, e159_10, e159_11, e159_12, e159_15, e159_16, e159_17, e159_20, e159_21, e159_24, e159_25, e159_26, e159_27, e159_30, e159_33, e159_34, e159_37, e159_38, e159_41, e159_44, e159_45, e159_46, e159_49, e159_50, e159_53, e159_56, e159_57, e159_58, e159_61, e159_62, e159_65, e159_68, e159_69, e159_70, e159_73, e159_74, e159_77, e159_80, e159_81, e159_82, e159_85, e159_86, e159_89, e159_90, g0, g1, z10, ↓reduceIte, h1, zg10_0, zp10_0, zg10_1, zp10_1, zg10_2, zp10_2, zg10_3, zp10_3, zg10_4, zp10_4, zg10_5, zp10_5, zg10_6, zp10_6, zg10_7, zp10_7, zg10_8, zp10_8, zg10_9, zp10_9, zg10_10, zp10_10, zg10_11, zp10_11, zg10_12, zp10_12, zg10_13, zp10_13, zg10_14, zp10_14, zg10_15, zp10_15, zg10_16, zp10_16, zg10_17, zp10_17, zg10_18, zp10_18, zg10_19, zp10_19, zg10_20, zp10_20, zg10_21, zp10_21, zg10_22, zp10_22, zg10_23, zp10_23, zg10_24, zp10_24, zg10_25, zp10_25, zg10_26, zp10_26, zg10_27, zp10_27, zg10_28, zp10_28, zg10_29, zp10_29, zg10_30, zp10_30, zg10_31, zp10_31, zg10_32, zp10_32, zrc_eq, zup_s, zup_n, zup_up, zal_i, zal_b, zal_z, zas_i, zas_b, zas_z, zan_eq, Option.toList_some, Option.toList_none, List.cons_append, List.nil_append, if_true, if_false, ite_true, ite_false, true_or, or_true]
    · rw [if_neg g1]
      by_cases g2 : w = 2
      · rw [if_pos g2]
        simp (disch := omega) only [e159_0, e159_1, e159_2, e159_3, e159_5, e159_7, e159_10, e159_11, e159_12, e159_15, e159_16, e159_17, e159_20, e159_21, e159_24, e159_25, e159_26, e159_27, e159_30, e159_33, e159_34, e159_37, e159_38, e159_41, e159_44, e159_45, e159_46, e159_49, e159_50, e159_53, e159_56, e159_57, e159_58, e159_61, e159_62, e159_65, e159_68, e159_69, e159_70, e159_73, e159_74, e159_77, e159_80, e159_81, e159_82, e159_85, e159_86, e159_89, e159_90, g2, z20, show ¬ (2 : Int32) = 1 from by decide, ↓reduceIte, h1, zg10_0, zp10_0, zg10_1, zp10_1, zg10_2, zp10_2, zg10_3, zp10_3, zg10_4, zp10_4, zg10_5, zp10_5, zg10_6, zp10_6, zg10_7, zp10_7, zg10_8, zp10_8, zg10_9, zp10_9, zg10_10, zp10_10, zg10_11, zp10_11, zg10_12, zp10_12, zg10_13, zp10_13, zg10_14, zp10_14, zg10_15, zp10_15, zg10_16, zp10_16, zg10_17, zp10_17, zg10_18, zp10_18, zg10_19, zp10_19, zg10_20, zp10_20, zg10_21, zp10_21, zg10_22, zp10_22, zg10_23, zp10_23, zg10_24, zp10_24, zg10_25, zp10_25, zg10_26, zp10_26, zg10_27, zp10_27, zg10_28, zp10_28, zg10_29, zp10_29, zg10_30, zp10_30, zg10_31, zp10_31, zg10_32, zp10_32, zrc_eq, zup_s, zup_n, zup_up, zal_i, zal_b, zal_z, zas_i, zas_b, zas_z, zan_eq, Option.toList_some, Option.toList_none, List.cons_append, List.nil_append, if_true, if_false, ite_true, ite_false, true_or, or_true]
      · rw [if_neg g2]
        by_cases g3 : w = 3
        · rw [if_pos g3]
          simp (disch := omega) only [e159_0, e159_1, e159_2, e159_3, e159_5, e159_7, e159_10, e159_11, e159_12, e159_15, e159_16, e159_17, e159_20, e159_21, e159_24, e159_25, e159_26, e159_27, e159_30, e159_33, e159_34, e159_37, e159_38, e159_41, e159_44, e159_45, e159_46, e159_49, e159_50, e159_53, e159_56, e159_57, e159_58, e159_61, e159_62, e159_65, e159_68, e159_69, e159_70, e159_73, e159_74, e159_77, e159_80, e159_81, e159_82, e159_85, e159_86, e159_89, e159_90, g3, show ¬ (3 : Int32) = 0 from by decide, show ¬ (3 : Int32) = 1 from by decide, show ¬ (3 : Int32) = 2 from by decide, ↓reduceIte, h1, zg10_0, zp10_0, zg10_1, zp10_1, zg10_2, zp10_2, zg10_3, zp10_3, zg10_4, zp10_4, zg10_5, zp10_5, zg10_6, zp10_6, zg10_7, zp10_7, zg10_8, zp10_8, zg10_9, zp10_9, zg10_10, zp10_10, zg10_11, zp10_11, zg10_12, zp10_12, zg10_13, zp10_13, zg10_14, zp10_14, zg10_15, zp10_15, zg10_16, zp10_16, zg10_17, zp10_17, zg10_18, zp10_18, zg10_19, zp10_19, zg10_20, zp10_20, zg10_21, zp10_21, zg10_22, zp10_22, zg10_23, zp10_23, zg10_24, zp10_24, zg10_25, zp10_25, zg10_26, zp10_26, zg10_27, zp10_27, zg10_28, zp10_28, zg10_29, zp10_29, zg10_30, zp10_30, zg10_31, zp10_31, zg10_32, zp10_32, zrc_eq, zup_s, zup_n, zup_up, zal_i, zal_b, zal_z, zas_i, zas_b, zas_z, zan_eq, Option.toList_some, Option.toList_none, List.cons_append, List.nil_append, if_true, if_false, ite_true, ite_false, true_or, or_true]
        · rw [if_neg g3]
          by_cases g4 : w = 4
          · rw [if_pos g4]
            simp (disch := omega) only [e159_0, e159_1, e159_2, e159_3, e159_5, e159_7, e159_10, e159_11, e159_12, e159_15, e159_16, e159_17, e159_20, e159_21, e159_24, e159_25, e159_26, e159_27, e159_30, e159_33, e159_34, e159_37, e159_38, e159_41, e159_44, e159_45, e159_46, e159_49, e159_50, e159_53, e159_56, e159_57, e159_58, e159_61, e159_62, e159_65, e159_68, e159_69, e159_70, e159_73, e159_74, e159_77, e159_80, e159_81, e159_82, e159_85, e159_86, e159_89, e159_90, g4, show ¬ (4 : Int32) = 0 from by decide, show ¬ (4 : Int32) = 1 from by decide, show ¬ (4 : Int32) = 2 from by decide, show ¬ (4 : Int32) = 3 from by decide, ↓reduceIte]
          · rw [if_neg g4]
            simp (disch := omega) only [e159_0, e159_1, e159_2, e159_3, e159_5, e159_7, e159_10, e159_11, e159_12, e159_15, e159_16, e159_17, e159_20, e159_21, e159_24, e159_25, e159_26, e159_27, e159_30, e159_33, e159_34, e159_37, e159_38, e159_41, e159_44, e159_45, e159_46, e159_49, e159_50, e159_53, e159_56, e159_57, e159_58, e159_61, e159_62, e159_65, e159_68, e159_69, e159_70, e159_73, e159_74, e159_77, e159_80, e159_81, e159_82, e159_85, e159_86, e159_89, e159_90, g0, g1, g2, g3, g4, ↓reduceIte]
end C57
