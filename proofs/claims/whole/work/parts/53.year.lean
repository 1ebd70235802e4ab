-- a year of the class passes
section C53
variable {X : Nat × (Nat → Int32)} {N : Nat} {h : zH} {Q : Option Value → Nat → zH → Prop} {S : zSh} {T : zTm} {ld dd : Nat} {p d hc kp : Int32}
set_option maxHeartbeats 2000000 in
theorem c95_108 {t : Nat} {x : Int32} {P : Nat → Bool} {f g e : Nat → Int32} {l4 l5 : Option Value} {y : Int32} (htl : t + 3 < ld ∨ ld + 7 < t) (ok : sK S) (hx : pbt x P) : ∀ (m i : Nat) (b : Int32) (h : zH), m + i = S.1.1 → pSh h ld S → h t = .inr (8, [.ref (t + 1), .ref (t + 2), .ref (t + 3), .int y, .int (b + iSum (fun i => if P i = true then S.1.2.1 i else 0) i)]) → (∀ h', h' t = .inr (8, [.ref (t + 1), .ref (t + 2), .ref (t + 3), .int (y + 1), .int (b + iSum (fun i => if P i = true then S.1.2.1 i else 0) S.1.1)]) → zfr (fun a => a = t) h h' → Q none N h') → zE X 95 108 [some (.ref t), some (.ref ld), some (.int x), some (.int (nI i)), l4, l5] [] (N, 0, 0) h Q := by
  intro m
  induction m with
  | zero =>
    intro i b h hm hs ht K
    obtain rfl : i = S.1.1 := by omega
    obtain ⟨v2, v3, v4, v5, v6, v7, v8, v9, v10, v11, v12, v13, v14, v15, h1, h2, b1⟩ := hs.wo
    rw [e95_108]
    simp (disch := omega) only [e95_0, e95_1, e95_3, e95_5, e95_8, e95_9, e95_10, e95_11, e95_14, e95_16, e95_18, e95_19, e95_20, e95_23, e95_25, e95_26, e95_29, e95_30, e95_32, e95_33, e95_36, e95_37, e95_38, e95_40, e95_41, e95_44, e95_45, e95_46, e95_49, e95_50, e95_52, e95_55, e95_57, e95_60, e95_61, e95_64, e95_65, e95_66, e95_67, e95_68, e95_71, e95_72, e95_73, e95_74, e95_77, e95_80, e95_81, e95_84, e95_85, e95_86, e95_87, e95_90, e95_93, e95_94, e95_97, e95_98, e95_99, e95_100, e95_103, e95_106, e95_107, e95_109, e95_110, e95_113, e95_116, e95_117, e95_118, e95_119, e95_120, e95_121, e95_122, e95_125, e95_126, e95_127, e95_130, e95_131, e95_134, e95_135, e95_136, e95_137, e95_140, e95_143, e95_146, e95_147, e95_148, e95_151, e95_152, e95_153, e95_156, h1, ht, zg5_0, zp5_0, zg5_1, zp5_1, zg5_2, zp5_2, zg5_3, zp5_3, zg5_4, zp5_4, zg5_5, zp5_5, zg5_6, zp5_6, zg5_7, zp5_7, zg5_8, zp5_8, zg5_9, zp5_9, zg5_10, zp5_10, zg5_11, zp5_11, zg5_12, zp5_12, zg5_13, zp5_13, zg5_14, zp5_14, zg5_15, zp5_15, zg8_0, zp8_0, zg8_1, zp8_1, zg8_2, zp8_2, zg8_3, zp8_3, zg8_4, zp8_4, zrc_eq, zup_s, zup_n, zup_up, zal_i, zal_b, zal_z, zas_i, zas_b, zas_z, zan_eq, Option.toList_some, Option.toList_none, List.cons_append, List.nil_append, if_true, if_false, ite_true, ite_false, true_or, or_true, znI_le, if_pos]
    exact K _ zup_s (zfr.up rfl zfr.rf)
  | succ m ih =>
    intro i b h hm hs ht K
    obtain ⟨v2, v3, v4, v5, v6, v7, v8, v9, v10, v11, v12, v13, v14, v15, h1, h2, b1⟩ := hs.wo
    have hb := hx.has (i := i) (by omega)
    have ih' := fun h' => ih (i + 1) b h' (by omega)
    rw [iSum] at ih'
    rw [e95_108]
    by_cases g : P i = true
    · have g1 : (x >>> (nI i &&& 31)) &&& 1 = 1 := hb.mpr g
      rw [if_pos g, ← Int32.add_assoc] at ih'
      simp (disch := omega) only [e95_0, e95_1, e95_3, e95_5, e95_8, e95_9, e95_10, e95_11, e95_14, e95_16, e95_18, e95_19, e95_20, e95_23, e95_25, e95_26, e95_29, e95_30, e95_32, e95_33, e95_36, e95_37, e95_38, e95_40, e95_41, e95_44, e95_45, e95_46, e95_49, e95_50, e95_52, e95_55, e95_57, e95_60, e95_61, e95_64, e95_65, e95_66, e95_67, e95_68, e95_71, e95_72, e95_73, e95_74, e95_77, e95_80, e95_81, e95_84, e95_85, e95_86, e95_87, e95_90, e95_93, e95_94, e95_97, e95_98, e95_99, e95_100, e95_103, e95_106, e95_107, e95_109, e95_110, e95_113, e95_116, e95_117, e95_118, e95_119, e95_120, e95_121, e95_122, e95_125, e95_126, e95_127, e95_130, e95_131, e95_134, e95_135, e95_136, e95_137, e95_140, e95_143, e95_146, e95_147, e95_148, e95_151, e95_152, e95_153, e95_156, h1, h2, ht, zg5_0, zp5_0, zg5_1, zp5_1, zg5_2, zp5_2, zg5_3, zp5_3, zg5_4, zp5_4, zg5_5, zp5_5, zg5_6, zp5_6, zg5_7, zp5_7, zg5_8, zp5_8, zg5_9, zp5_9, zg5_10, zp5_10, zg5_11, zp5_11, zg5_12, zp5_12, zg5_13, zp5_13, zg5_14, zp5_14, zg5_15, zp5_15, zg8_0, zp8_0, zg8_1, zp8_1, zg8_2, zp8_2, zg8_3, zp8_3, zg8_4, zp8_4, zrc_eq, zup_s, zup_n, zup_up, zal_i, zal_b, zal_z, zas_i, zas_b, zas_z, zan_eq, Option.toList_some, Option.toList_none, List.cons_append, List.nil_append, if_true, if_false, ite_true, ite_false, true_or, or_true, znI_le, if_neg, g1, nI_1]
      exact ih' _ (hs.kept (P := fun a => a = t) (zfr.up rfl zfr.rf) (by omega)) zup_s (fun h' c1 c2 => K h' c1 (zfr.up rfl c2))
    · have g1 : ((x >>> (nI i &&& 31)) &&& 1 = 1) = False := eq_false (fun z => g (hb.mp z))
      rw [if_neg g, Int32.add_zero] at ih'
      simp (disch := omega) only [e95_0, e95_1, e95_3, e95_5, e95_8, e95_9, e95_10, e95_11, e95_14, e95_16, e95_18, e95_19, e95_20, e95_23, e95_25, e95_26, e95_29, e95_30, e95_32, e95_33, e95_36, e95_37, e95_38, e95_40, e95_41, e95_44, e95_45, e95_46, e95_49, e95_50, e95_52, e95_55, e95_57, e95_60, e95_61, e95_64, e95_65, e95_66, e95_67, e95_68, e95_71, e95_72, e95_73, e95_74, e95_77, e95_80, e95_81, e95_84, e95_85, e95_86, e95_87, e95_90, e95_93, e95_94, e95_97, e95_98, e95_99, e95_100, e95_103, e95_106, e95_107, e95_109, e95_110, e95_113, e95_116, e95_117, e95_118, e95_119, e95_120, e95_121, e95_122, e95_125, e95_126, e95_127, e95_130, e95_131, e95_134, e95_135, e95_136, e95_137, e95_140, e95_143, e95_146, e95_147, e95_148, e95_151, e95_152, e95_153, e95_156, h1, zg5_0, zp5_0, zg5_1, zp5_1, zg5_2, zp5_2, zg5_3, zp5_3, zg5_4, zp5_4, zg5_5, zp5_5, zg5_6, zp5_6, zg5_7, zp5_7, zg5_8, zp5_8, zg5_9, zp5_9, zg5_10, zp5_10, zg5_11, zp5_11, zg5_12, zp5_12, zg5_13, zp5_13, zg5_14, zp5_14, zg5_15, zp5_15, zrc_eq, zup_s, zup_n, zup_up, zal_i, zal_b, zal_z, zas_i, zas_b, zas_z, zan_eq, Option.toList_some, Option.toList_none, List.cons_append, List.nil_append, if_true, if_false, ite_true, ite_false, true_or, or_true, znI_le, if_neg, g1, nI_1]
      exact ih' h hs ht K
set_option maxHeartbeats 2000000 in
theorem c95_2 {t : Nat} {x : Int32} {P : Nat → Bool} {y b : Int32} (htl : t + 3 < ld ∨ ld + 7 < t) (ok : sK S) (hx : pbt x P) (hT01 : ∀ w, w < 8 → T.2.2.1 w = 0 ∨ T.2.2.1 w = 1) : ∀ (m w : Nat) (f g e : Nat → Int32) (h : zH) (l4 l5 : Option Value), m + w = 8 → pSh h ld S → h t = .inr (8, [.ref (t + 1), .ref (t + 2), .ref (t + 3), .int y, .int b]) → h (t + 1) = .inl (.int, 8, f) → h (t + 2) = .inl (.int, 8, g) → h (t + 3) = .inl (.boolean, 8, e) → (∀ v, v < w → f v = yHad S T P v ∧ g v = yRun S T P v ∧ e v = yGon S T P v) → (∀ v, w ≤ v → v < 8 → f v = T.1 v ∧ g v = T.2.1 v ∧ e v = T.2.2.1 v) →
    (∀ h' f g e l4 l5, h' t = .inr (8, [.ref (t + 1), .ref (t + 2), .ref (t + 3), .int y, .int b]) → h' (t + 1) = .inl (.int, 8, f) → h' (t + 2) = .inl (.int, 8, g) → h' (t + 3) = .inl (.boolean, 8, e) → (∀ v, v < 8 → f v = yHad S T P v ∧ g v = yRun S T P v ∧ e v = yGon S T P v) → zfr (fun a => t ≤ a ∧ a ≤ t + 3) h h' → zE X 95 106 [some (.ref t), some (.ref ld), some (.int x), some (.int (nI 8)), l4, l5] [] (N, 0, 0) h' Q) →
    zE X 95 2 [some (.ref t), some (.ref ld), some (.int x), some (.int (nI w)), l4, l5] [] (N, 0, 0) h Q := by
  intro m
  induction m with
  | zero =>
    intro w f g e h l4 l5 hm hs h1 h2 h3 h4 a1 a2 K
    obtain rfl : w = 8 := by omega
    rw [e95_2]
    simp (disch := omega) only [e95_0, e95_1, e95_3, e95_5, e95_8, e95_9, e95_10, e95_11, e95_14, e95_16, e95_18, e95_19, e95_20, e95_23, e95_25, e95_26, e95_29, e95_30, e95_32, e95_33, e95_36, e95_37, e95_38, e95_40, e95_41, e95_44, e95_45, e95_46, e95_49, e95_50, e95_52, e95_55, e95_57, e95_60, e95_61, e95_64, e95_65, e95_66, e95_67, e95_68, e95_71, e95_72, e95_73, e95_74, e95_77, e95_80, e95_81, e95_84, e95_85, e95_86, e95_87, e95_90, e95_93, e95_94, e95_97, e95_98, e95_99, e95_100, e95_103, e95_107, e95_109, e95_110, e95_113, e95_116, e95_117, e95_118, e95_119, e95_120, e95_121, e95_122, e95_125, e95_126, e95_127, e95_130, e95_131, e95_134, e95_135, e95_136, e95_137, e95_140, e95_143, e95_146, e95_147, e95_148, e95_151, e95_152, e95_153, e95_156, zc8, znI_le, if_pos]
    exact K h f g e _ _ h1 h2 h3 h4 a1 zfr.rf
  | succ m ih =>
    intro w f g e h l4 l5 hm hs h1 h2 h3 h4 a1 a2 K
    obtain ⟨w1, w2, w3⟩ := a2 w (Nat.le_refl _) (by omega)
    have hwn : (nI w < 0) = False := eq_false (nI_pos (by omega))
    have h43 : ∀ Q', zE X 43 0 [some (.ref t), some (.int (nI w))] [] (N, 0, 0) h Q' = if T.2.2.1 w = 0 then Q' (some (.int 1)) N h else Q' (some (.int 0)) N h := by
      intro Q'
      rw [← w3, e43_0]
      simp (disch := omega) only [e43_0, e43_1, e43_4, e43_5, e43_7, e43_10, e43_11, e43_14, e43_15, e43_16, e43_19, e43_20, e43_23, e43_24, h1, h4, zg8_0, zp8_0, zg8_1, zp8_1, zg8_2, zp8_2, zg8_3, zp8_3, zg8_4, zp8_4, zrc_eq, zup_s, zup_n, zup_up, zal_i, zal_b, zal_z, zas_i, zas_b, zas_z, zan_eq, Option.toList_some, Option.toList_none, List.cons_append, List.nil_append, if_true, if_false, ite_true, ite_false, true_or, or_true, zc8, znI_le, if_neg, hwn]
    obtain ⟨v0, v1, v2, v3, v4, v5, v6, v7, v8, v9, v10, v11, v12, v13, v14, s1⟩ := hs.pt
    have hpt := ok.2.2.2.2
    rw [e95_2]
    simp (disch := omega) only [e95_0, e95_1, e95_3, e95_5, e95_8, e95_9, e95_10, e95_11, e95_14, e95_16, e95_18, e95_19, e95_20, e95_23, e95_25, e95_26, e95_29, e95_30, e95_32, e95_33, e95_36, e95_37, e95_38, e95_40, e95_41, e95_44, e95_45, e95_46, e95_49, e95_50, e95_52, e95_55, e95_57, e95_60, e95_61, e95_64, e95_65, e95_66, e95_67, e95_68, e95_71, e95_72, e95_73, e95_74, e95_77, e95_80, e95_81, e95_84, e95_85, e95_86, e95_87, e95_90, e95_93, e95_94, e95_97, e95_98, e95_99, e95_100, e95_103, e95_107, e95_109, e95_110, e95_113, e95_116, e95_117, e95_118, e95_119, e95_120, e95_121, e95_122, e95_125, e95_126, e95_127, e95_130, e95_131, e95_134, e95_135, e95_136, e95_137, e95_140, e95_143, e95_146, e95_147, e95_148, e95_151, e95_152, e95_153, e95_156, h1, zrc_eq, zup_s, zup_n, zup_up, zal_i, zal_b, zal_z, zas_i, zas_b, zas_z, zan_eq, Option.toList_some, Option.toList_none, List.cons_append, List.nil_append, if_true, if_false, ite_true, ite_false, true_or, or_true, zc8, znI_le, if_neg]
    refine c96 hs ok h43 ⟨_, h1⟩ (by omega) (fun o ho => ?_)
    have hon := ho.ne
    rw [← cnt0 24] at hon
    have hon' : (o = 0) = (yOwn S T w = 0) := hon
    have hwc : zbc (o &&& x) = nI (yWon S T P w) := (ho.and hx).cnt
    have hwl := yWon_le (S := S) (T := T) (P := P) (w := w)
    have hwz : (nI (yWon S T P w) = 0) = (yWon S T P w = 0) := by
      rw [show (0 : Int32) = nI 0 from rfl]
      exact propext (nI_eq (by omega) (by omega))
    have eh : (if f w + nI (yWon S T P w) < 9 then f w + nI (yWon S T P w) else 9) = yHad S T P w := by rw [w1]; rfl
    have fin : ∀ (e' : Nat → Int32) l4 l5, (∀ v, v < w → e' v = e v) → e' w = yGon S T P w → (∀ v, w < v → e' v = e v) → zE X 95 2 [some (.ref t), some (.ref ld), some (.int x), some (.int (nI (w + 1))), l4, l5] [] (N, 0, 0) (va_up (va_up (va_up h (t + 1) (.inl (.int, 8, upd f w (yHad S T P w)))) (t + 2) (.inl (.int, 8, upd g w (yRun S T P w)))) (t + 3) (.inl (.boolean, 8, e'))) Q := by
      intro e' l4 l5 q1 q2 q3
      have F1 : zfr (fun a => t ≤ a ∧ a ≤ t + 3) h (va_up (va_up (va_up h (t + 1) (.inl (.int, 8, upd f w (yHad S T P w)))) (t + 2) (.inl (.int, 8, upd g w (yRun S T P w)))) (t + 3) (.inl (.boolean, 8, e'))) := zfr.up (by omega) (zfr.up (by omega) (zfr.up (by omega) zfr.rf))
      refine ih (w + 1) (upd f w (yHad S T P w)) (upd g w (yRun S T P w)) e' _ _ _ (by omega) (hs.kept F1 (by omega)) ?_ ?_ ?_ zup_s (fun v hv => ?_) (fun v hv hv2 => ?_) (fun h' f g e l4 l5 c1 c2 c3 c4 c5 c6 => K h' f g e l4 l5 c1 c2 c3 c4 c5 (F1.tr c6))
      · simp (disch := omega) only [zup_n, h1]
      · simp (disch := omega) only [zup_n, zup_s]
      · simp (disch := omega) only [zup_n, zup_s]
      · by_cases q : v = w
        · subst q; rw [upd_s, upd_s]; exact ⟨rfl, rfl, q2⟩
        · rw [upd_n q, upd_n q, q1 v (by omega)]; exact a1 v (by omega)
      · rw [upd_n (by omega), upd_n (by omega), q3 v (by omega)]; exact a2 v (by omega) hv2
    have fin0 : yGon S T P w = T.2.2.1 w → ∀ l4 l5, zE X 95 2 [some (.ref t), some (.ref ld), some (.int x), some (.int (nI (w + 1))), l4, l5] [] (N, 0, 0) (va_up (va_up h (t + 1) (.inl (.int, 8, upd f w (yHad S T P w)))) (t + 2) (.inl (.int, 8, upd g w (yRun S T P w)))) Q := by
      intro q l4 l5
      have := fin e l4 l5 (fun v _ => rfl) (w3.trans q.symm) (fun v _ => rfl)
      rw [zup_id (by simp (disch := omega) only [zup_n, h4])] at this
      exact this
    have tail : ∀ l4 l5, zE X 95 73 [some (.ref t), some (.ref ld), some (.int x), some (.int (nI w)), l4, l5] [] (N, 0, 0) (va_up (va_up h (t + 1) (.inl (.int, 8, upd f w (yHad S T P w)))) (t + 2) (.inl (.int, 8, upd g w (yRun S T P w)))) Q := by
      intro l4 l5
      have s1' : (va_up (va_up h (t + 1) (.inl (.int, 8, upd f w (yHad S T P w)))) (t + 2) (.inl (.int, 8, upd g w (yRun S T P w)))) ld = _ := (zup_n (by omega)).trans ((zup_n (by omega)).trans s1)
      have t1' : (va_up (va_up h (t + 1) (.inl (.int, 8, upd f w (yHad S T P w)))) (t + 2) (.inl (.int, 8, upd g w (yRun S T P w)))) t = _ := (zup_n (by omega)).trans ((zup_n (by omega)).trans h1)
      have t4' : (va_up (va_up h (t + 1) (.inl (.int, 8, upd f w (yHad S T P w)))) (t + 2) (.inl (.int, 8, upd g w (yRun S T P w)))) (t + 3) = _ := (zup_n (by omega)).trans ((zup_n (by omega)).trans h4)
      by_cases gp : 0 < S.2.2.2.2.2
      · have gp' : (nI S.2.2.2.2.2 ≤ 0) = False := eq_false (nI_nle gp (by omega))
        by_cases gr : nI S.2.2.2.2.2 ≤ yRun S T P w
        · have gr' : (yRun S T P w < nI S.2.2.2.2.2) = False := eq_false (Int32.not_lt.mpr gr)
          simp (disch := omega) only [e95_0, e95_1, e95_3, e95_5, e95_8, e95_9, e95_10, e95_11, e95_14, e95_16, e95_18, e95_19, e95_20, e95_23, e95_25, e95_26, e95_29, e95_30, e95_32, e95_33, e95_36, e95_37, e95_38, e95_40, e95_41, e95_44, e95_45, e95_46, e95_49, e95_50, e95_52, e95_55, e95_57, e95_60, e95_61, e95_64, e95_65, e95_66, e95_67, e95_68, e95_71, e95_72, e95_73, e95_74, e95_77, e95_80, e95_81, e95_84, e95_85, e95_86, e95_87, e95_90, e95_93, e95_94, e95_97, e95_98, e95_99, e95_100, e95_103, e95_107, e95_109, e95_110, e95_113, e95_116, e95_117, e95_118, e95_119, e95_120, e95_121, e95_122, e95_125, e95_126, e95_127, e95_130, e95_131, e95_134, e95_135, e95_136, e95_137, e95_140, e95_143, e95_146, e95_147, e95_148, e95_151, e95_152, e95_153, e95_156, s1', t1', t4', zg5_0, zp5_0, zg5_1, zp5_1, zg5_2, zp5_2, zg5_3, zp5_3, zg5_4, zp5_4, zg5_5, zp5_5, zg5_6, zp5_6, zg5_7, zp5_7, zg5_8, zp5_8, zg5_9, zp5_9, zg5_10, zp5_10, zg5_11, zp5_11, zg5_12, zp5_12, zg5_13, zp5_13, zg5_14, zp5_14, zg5_15, zp5_15, zg8_0, zp8_0, zg8_1, zp8_1, zg8_2, zp8_2, zg8_3, zp8_3, zg8_4, zp8_4, zrc_eq, zup_s, zup_n, zup_up, zal_i, zal_b, zal_z, zas_i, zas_b, zas_z, zan_eq, Option.toList_some, Option.toList_none, List.cons_append, List.nil_append, if_true, if_false, ite_true, ite_false, true_or, or_true, gp', upd_s, gr', nI_1]
          refine fin (upd e w (1 &&& 1)) _ _ (fun v hv => upd_n (by omega)) ?_ (fun v hv => upd_n (by omega))
          rw [upd_s]
          unfold yGon
          rw [if_pos ⟨gp, gr⟩]
          rfl
        · have gr' : (yRun S T P w < nI S.2.2.2.2.2) = True := eq_true (Int32.not_le.mp gr)
          simp (disch := omega) only [e95_0, e95_1, e95_3, e95_5, e95_8, e95_9, e95_10, e95_11, e95_14, e95_16, e95_18, e95_19, e95_20, e95_23, e95_25, e95_26, e95_29, e95_30, e95_32, e95_33, e95_36, e95_37, e95_38, e95_40, e95_41, e95_44, e95_45, e95_46, e95_49, e95_50, e95_52, e95_55, e95_57, e95_60, e95_61, e95_64, e95_65, e95_66, e95_67, e95_68, e95_71, e95_72, e95_73, e95_74, e95_77, e95_80, e95_81, e95_84, e95_85, e95_86, e95_87, e95_90, e95_93, e95_94, e95_97, e95_98, e95_99, e95_100, e95_103, e95_107, e95_109, e95_110, e95_113, e95_116, e95_117, e95_118, e95_119, e95_120, e95_121, e95_122, e95_125, e95_126, e95_127, e95_130, e95_131, e95_134, e95_135, e95_136, e95_137, e95_140, e95_143, e95_146, e95_147, e95_148, e95_151, e95_152, e95_153, e95_156, s1', t1', zg5_0, zp5_0, zg5_1, zp5_1, zg5_2, zp5_2, zg5_3, zp5_3, zg5_4, zp5_4, zg5_5, zp5_5, zg5_6, zp5_6, zg5_7, zp5_7, zg5_8, zp5_8, zg5_9, zp5_9, zg5_10, zp5_10, zg5_11, zp5_11, zg5_12, zp5_12, zg5_13, zp5_13, zg5_14, zp5_14, zg5_15, zp5_15, zg8_0, zp8_0, zg8_1, zp8_1, zg8_2, zp8_2, zg8_3, zp8_3, zg8_4, zp8_4, zrc_eq, zup_s, zup_n, zup_up, zal_i, zal_b, zal_z, zas_i, zas_b, zas_z, zan_eq, Option.toList_some, Option.toList_none, List.cons_append, List.nil_append, if_true, if_false, ite_true, ite_false, true_or, or_true, gp', upd_s, gr', nI_1]
          exact fin0 (if_neg (fun z => gr z.2)) _ _
      · have gp' : (nI S.2.2.2.2.2 ≤ 0) = True := by rw [show S.2.2.2.2.2 = 0 by omega]; decide
        simp (disch := omega) only [e95_0, e95_1, e95_3, e95_5, e95_8, e95_9, e95_10, e95_11, e95_14, e95_16, e95_18, e95_19, e95_20, e95_23, e95_25, e95_26, e95_29, e95_30, e95_32, e95_33, e95_36, e95_37, e95_38, e95_40, e95_41, e95_44, e95_45, e95_46, e95_49, e95_50, e95_52, e95_55, e95_57, e95_60, e95_61, e95_64, e95_65, e95_66, e95_67, e95_68, e95_71, e95_72, e95_73, e95_74, e95_77, e95_80, e95_81, e95_84, e95_85, e95_86, e95_87, e95_90, e95_93, e95_94, e95_97, e95_98, e95_99, e95_100, e95_103, e95_107, e95_109, e95_110, e95_113, e95_116, e95_117, e95_118, e95_119, e95_120, e95_121, e95_122, e95_125, e95_126, e95_127, e95_130, e95_131, e95_134, e95_135, e95_136, e95_137, e95_140, e95_143, e95_146, e95_147, e95_148, e95_151, e95_152, e95_153, e95_156, s1', zg5_0, zp5_0, zg5_1, zp5_1, zg5_2, zp5_2, zg5_3, zp5_3, zg5_4, zp5_4, zg5_5, zp5_5, zg5_6, zp5_6, zg5_7, zp5_7, zg5_8, zp5_8, zg5_9, zp5_9, zg5_10, zp5_10, zg5_11, zp5_11, zg5_12, zp5_12, zg5_13, zp5_13, zg5_14, zp5_14, zg5_15, zp5_15, zrc_eq, zup_s, zup_n, zup_up, zal_i, zal_b, zal_z, zas_i, zas_b, zas_z, zan_eq, Option.toList_some, Option.toList_none, List.cons_append, List.nil_append, if_true, if_false, ite_true, ite_false, true_or, or_true, gp', nI_1]
        exact fin0 (if_neg (fun z => gp z.1)) _ _
    simp (disch := omega) only [e95_0, e95_1, e95_3, e95_5, e95_8, e95_9, e95_10, e95_11, e95_14, e95_16, e95_18, e95_19, e95_20, e95_23, e95_25, e95_26, e95_29, e95_30, e95_32, e95_33, e95_36, e95_37, e95_38, e95_40, e95_41, e95_44, e95_46, e95_49, e95_50, e95_52, e95_55, e95_57, e95_60, e95_61, e95_64, e95_65, e95_66, e95_67, e95_68, e95_71, e95_72, e95_73, e95_74, e95_77, e95_80, e95_81, e95_84, e95_85, e95_86, e95_87, e95_90, e95_93, e95_94, e95_97, e95_98, e95_99, e95_100, e95_103, e95_107, e95_109, e95_110, e95_113, e95_116, e95_117, e95_118, e95_119, e95_120, e95_121, e95_122, e95_125, e95_126, e95_127, e95_130, e95_131, e95_134, e95_135, e95_136, e95_137, e95_140, e95_143, e95_146, e95_147, e95_148, e95_151, e95_152, e95_153, e95_156, Option.toList_some, List.cons_append, List.nil_append, c77, hwc, h1, h2, zg8_0, zp8_0, zg8_1, zp8_1, zg8_2, zp8_2, zg8_3, zp8_3, zg8_4, zp8_4, zrc_eq, zup_s, zup_n, zup_up, zal_i, zal_b, zal_z, zas_i, zas_b, zas_z, zan_eq, Option.toList_some, Option.toList_none, List.cons_append, List.nil_append, if_true, if_false, ite_true, ite_false, true_or, or_true, c55, eh]
    have t1' : (va_up h (t + 1) (.inl (.int, 8, upd f w (yHad S T P w)))) t = _ := (zup_n (by omega)).trans h1
    have t3' : (va_up h (t + 1) (.inl (.int, 8, upd f w (yHad S T P w)))) (t + 2) = _ := (zup_n (by omega)).trans h3
    by_cases go : yOwn S T w = 0
    · have er : (0 : Int32) = yRun S T P w := (if_neg (fun z => z.1 go)).symm
      rw [eq_true go] at hon'
      simp (disch := omega) only [e95_0, e95_1, e95_3, e95_5, e95_8, e95_9, e95_10, e95_11, e95_14, e95_16, e95_18, e95_19, e95_20, e95_23, e95_25, e95_26, e95_29, e95_30, e95_32, e95_33, e95_36, e95_37, e95_38, e95_40, e95_41, e95_44, e95_45, e95_46, e95_49, e95_50, e95_52, e95_55, e95_57, e95_60, e95_61, e95_64, e95_65, e95_66, e95_67, e95_68, e95_71, e95_72, e95_74, e95_77, e95_80, e95_81, e95_84, e95_85, e95_86, e95_87, e95_90, e95_93, e95_94, e95_97, e95_98, e95_99, e95_100, e95_103, e95_107, e95_109, e95_110, e95_113, e95_116, e95_117, e95_118, e95_119, e95_120, e95_121, e95_122, e95_125, e95_126, e95_127, e95_130, e95_131, e95_134, e95_135, e95_136, e95_137, e95_140, e95_143, e95_146, e95_147, e95_148, e95_151, e95_152, e95_153, e95_156, t1', t3', zg8_0, zp8_0, zg8_1, zp8_1, zg8_2, zp8_2, zg8_3, zp8_3, zg8_4, zp8_4, zrc_eq, zup_s, zup_n, zup_up, zal_i, zal_b, zal_z, zas_i, zas_b, zas_z, zan_eq, Option.toList_some, Option.toList_none, List.cons_append, List.nil_append, if_true, if_false, ite_true, ite_false, true_or, or_true, hon']
      rw [er]
      exact tail _ _
    · rw [eq_false go] at hon'
      by_cases gw : yWon S T P w = 0
      · have er : g w + 1 = yRun S T P w := by rw [w2]; exact (if_pos ⟨go, gw⟩).symm
        rw [eq_true gw] at hwz
        simp (disch := omega) only [e95_0, e95_1, e95_3, e95_5, e95_8, e95_9, e95_10, e95_11, e95_14, e95_16, e95_18, e95_19, e95_20, e95_23, e95_25, e95_26, e95_29, e95_30, e95_32, e95_33, e95_36, e95_37, e95_38, e95_40, e95_41, e95_44, e95_45, e95_46, e95_49, e95_50, e95_52, e95_55, e95_57, e95_60, e95_61, e95_64, e95_65, e95_66, e95_67, e95_68, e95_71, e95_72, e95_74, e95_77, e95_80, e95_81, e95_84, e95_85, e95_86, e95_87, e95_90, e95_93, e95_94, e95_97, e95_98, e95_99, e95_100, e95_103, e95_107, e95_109, e95_110, e95_113, e95_116, e95_117, e95_118, e95_119, e95_120, e95_121, e95_122, e95_125, e95_126, e95_127, e95_130, e95_131, e95_134, e95_135, e95_136, e95_137, e95_140, e95_143, e95_146, e95_147, e95_148, e95_151, e95_152, e95_153, e95_156, t1', t3', zg8_0, zp8_0, zg8_1, zp8_1, zg8_2, zp8_2, zg8_3, zp8_3, zg8_4, zp8_4, zrc_eq, zup_s, zup_n, zup_up, zal_i, zal_b, zal_z, zas_i, zas_b, zas_z, zan_eq, Option.toList_some, Option.toList_none, List.cons_append, List.nil_append, if_true, if_false, ite_true, ite_false, true_or, or_true, hon', hwz, er]
        exact tail _ _
      · have er : (0 : Int32) = yRun S T P w := (if_neg (fun z => gw z.2)).symm
        rw [eq_false gw] at hwz
        simp (disch := omega) only [e95_0, e95_1, e95_3, e95_5, e95_8, e95_9, e95_10, e95_11, e95_14, e95_16, e95_18, e95_19, e95_20, e95_23, e95_25, e95_26, e95_29, e95_30, e95_32, e95_33, e95_36, e95_37, e95_38, e95_40, e95_41, e95_44, e95_45, e95_46, e95_49, e95_50, e95_52, e95_55, e95_57, e95_60, e95_61, e95_64, e95_65, e95_66, e95_67, e95_68, e95_71, e95_72, e95_74, e95_77, e95_80, e95_81, e95_84, e95_85, e95_86, e95_87, e95_90, e95_93, e95_94, e95_97, e95_98, e95_99, e95_100, e95_103, e95_107, e95_109, e95_110, e95_113, e95_116, e95_117, e95_118, e95_119, e95_120, e95_121, e95_122, e95_125, e95_126, e95_127, e95_130, e95_131, e95_134, e95_135, e95_136, e95_137, e95_140, e95_143, e95_146, e95_147, e95_148, e95_151, e95_152, e95_153, e95_156, t1', t3', zg8_0, zp8_0, zg8_1, zp8_1, zg8_2, zp8_2, zg8_3, zp8_3, zg8_4, zp8_4, zrc_eq, zup_s, zup_n, zup_up, zal_i, zal_b, zal_z, zas_i, zas_b, zas_z, zan_eq, Option.toList_some, Option.toList_none, List.cons_append, List.nil_append, if_true, if_false, ite_true, ite_false, true_or, or_true, hon', hwz]
        rw [er]
        exact tail _ _
set_option maxHeartbeats 2000000 in
theorem yGon01 {P : Nat → Bool} {w : Nat} (h : T.2.2.1 w = 0 ∨ T.2.2.1 w = 1) : yGon S T P w = 0 ∨ yGon S T P w = 1 := by
  unfold yGon
  split
  · exact Or.inr rfl
  · exact h
set_option maxHeartbeats 2000000 in
theorem c95 {t : Nat} {x : Int32} {P : Nat → Bool} (htl : t + 3 < ld ∨ ld + 7 < t) (ok : sK S) (hx : pbt x P) (hs : pSh h ld S) (ht : pTm h t T) (K : ∀ h', pTm h' t (zYr S T P) → zfr (fun a => t ≤ a ∧ a ≤ t + 3) h h' → Q none N h') : zE X 95 0 [some (.ref t), some (.ref ld), some (.int x), none, none, none] [] (N, 0, 0) h Q := by
  obtain ⟨f, g, e, h1, h2, h3, h4, h5⟩ := ht
  simp (disch := omega) only [e95_0, e95_1, e95_3, e95_5, e95_8, e95_9, e95_10, e95_11, e95_14, e95_16, e95_18, e95_19, e95_20, e95_23, e95_25, e95_26, e95_29, e95_30, e95_32, e95_33, e95_36, e95_37, e95_38, e95_40, e95_41, e95_44, e95_45, e95_46, e95_49, e95_50, e95_52, e95_55, e95_57, e95_60, e95_61, e95_64, e95_65, e95_66, e95_67, e95_68, e95_71, e95_72, e95_73, e95_74, e95_77, e95_80, e95_81, e95_84, e95_85, e95_86, e95_87, e95_90, e95_93, e95_94, e95_97, e95_98, e95_99, e95_100, e95_103, e95_106, e95_107, e95_109, e95_110, e95_113, e95_116, e95_117, e95_118, e95_119, e95_120, e95_121, e95_122, e95_125, e95_126, e95_127, e95_130, e95_131, e95_134, e95_135, e95_136, e95_137, e95_140, e95_143, e95_146, e95_147, e95_148, e95_151, e95_152, e95_153, e95_156, zc0]
  refine c95_2 (T := T) htl ok hx (fun w hw => (h5 w hw).2.2.2) 8 0 f g e h none none (by omega) hs h1 h2 h3 h4 (fun v hv => absurd hv (Nat.not_lt_zero v)) (fun v _ hv => ⟨(h5 v hv).1, (h5 v hv).2.1, (h5 v hv).2.2.1⟩) (fun h' f' g' e' l4 l5 c1 c2 c3 c4 c5 c6 => ?_)
  simp (disch := omega) only [e95_0, e95_1, e95_3, e95_5, e95_8, e95_9, e95_10, e95_11, e95_14, e95_16, e95_18, e95_19, e95_20, e95_23, e95_25, e95_26, e95_29, e95_30, e95_32, e95_33, e95_36, e95_37, e95_38, e95_40, e95_41, e95_44, e95_45, e95_46, e95_49, e95_50, e95_52, e95_55, e95_57, e95_60, e95_61, e95_64, e95_65, e95_66, e95_67, e95_68, e95_71, e95_72, e95_73, e95_74, e95_77, e95_80, e95_81, e95_84, e95_85, e95_86, e95_87, e95_90, e95_93, e95_94, e95_97, e95_98, e95_99, e95_100, e95_103, e95_106, e95_107, e95_109, e95_110, e95_113, e95_116, e95_117, e95_118, e95_119, e95_120, e95_121, e95_122, e95_125, e95_126, e95_127, e95_130, e95_131, e95_134, e95_135, e95_136, e95_137, e95_140, e95_143, e95_146, e95_147, e95_148, e95_151, e95_152, e95_153, e95_156, zc0]
  refine c95_108 (f := f') (g := g') (e := e') (y := T.2.2.2.1) (b := T.2.2.2.2) htl ok hx S.1.1 0 h' (by omega) (hs.kept c6 (by omega)) (by rw [c1]; simp only [iSum, Int32.add_zero]) (fun h2 d1 d2 => ?_)
  refine K h2 ⟨f', g', e', d1, (d2 _ (by omega)).trans c2, (d2 _ (by omega)).trans c3, (d2 _ (by omega)).trans c4, fun v hv => ⟨(c5 v hv).1, (c5 v hv).2.1, (c5 v hv).2.2, yGon01 (h5 v hv).2.2.2⟩⟩ (c6.tr (d2.mono (fun a ha => by omega)))
/-- who is paid in the year that the times tell -/
def yPd (S : zSh) (T : zTm) (p hc : Int32) : Nat → Bool := pdS S (oN S T) (zO S T p (T.2.2.2.1 - T.2.2.2.1 / 100 * 100) hc S.1.1).2 ((37 * T.2.2.2.1.toNatClampNeg + 11) % 10000)
set_option maxHeartbeats 2000000 in
theorem yNat {yn : Nat} (hy : yn < 100000) : (37 : Int32) * nI yn + 11 - (37 * nI yn + 11) / 10000 * 10000 = nI ((37 * yn + 11) % 10000) := by
  rw [show (37 : Int32) = nI 37 from rfl, show (11 : Int32) = nI 11 from rfl, show (10000 : Int32) = nI 10000 from rfl, pk_mul, nI_add, pk_rem (by omega) (by omega) (by omega)]
set_option maxHeartbeats 2000000 in
theorem c93 {t yn : Nat} (ht0 : t = 21 ∨ t = 25) (hyn : yn < 100000) (hy : T.2.2.2.1 = nI yn) (h0 : h 0 = pObj ld dd kp) (hd : (ld = 4 ∧ dd = 12) ∨ (ld = 12 ∧ dd = 4)) (hs : pSh h ld S) (ok : sK S) (ht : pTm h t T) (cs : zCS h) (K : ∀ h' x, pbt x (yPd S T p hc) → pTm h' t (zYr S T (yPd S T p hc)) → zCS h' → zfr (fun a => (t ≤ a ∧ a ≤ t + 3) ∨ (37 ≤ a ∧ a ≤ 47)) h h' → Q (some (.int x)) N h') : zE X 93 0 [some (.ref 0), some (.ref t), some (.int p), some (.int hc), none] [] (N, 0, 0) h Q := by
  have h0' := h0
  unfold pObj at h0
  obtain ⟨x, pl, po, ra, q1, -⟩ := cs.1
  have ht' := ht
  obtain ⟨f, g, e, t1, t2, t3, t4, t5⟩ := ht
  have z100 : ((100 : Int32) = 0) = False := by decide
  have z10k : ((10000 : Int32) = 0) = False := by decide
  simp (disch := omega) only [e93_0, e93_1, e93_4, e93_5, e93_8, e93_9, e93_10, e93_11, e93_14, e93_16, e93_17, e93_18, e93_21, e93_22, e93_25, e93_26, e93_29, e93_30, e93_33, e93_36, e93_39, e93_40, e93_43, e93_44, e93_47, e93_49, e93_50, e93_53, e93_54, e93_56, e93_57, e93_60, e93_61, e93_64, e93_66, e93_67, e93_68, e93_71, e93_73, e93_76, e93_78, h0, q1, t1, zg9_0, zp9_0, zg9_1, zp9_1, zg9_2, zp9_2, zg9_3, zp9_3, zg9_4, zp9_4, zg9_5, zp9_5, zg9_6, zp9_6, zg9_7, zp9_7, zg9_8, zp9_8, zg9_9, zp9_9, zg9_10, zp9_10, zg9_11, zp9_11, zg9_12, zp9_12, zg9_13, zp9_13, zg9_14, zp9_14, zg9_15, zp9_15, zg9_16, zp9_16, zg8_0, zp8_0, zg8_1, zp8_1, zg8_2, zp8_2, zg8_3, zp8_3, zg8_4, zp8_4, zrc_eq, zup_s, zup_n, zup_up, zal_i, zal_b, zal_z, zas_i, zas_b, zas_z, zan_eq, Option.toList_some, Option.toList_none, List.cons_append, List.nil_append, if_true, if_false, ite_true, ite_false, true_or, or_true, z100]
  refine c42 ok (by omega) (by omega) hs ht' cs.1 (fun h' a1 a2 => ?_)
  have F1 : zfr (fun a => (t ≤ a ∧ a ≤ t + 3) ∨ (37 ≤ a ∧ a ≤ 47)) h h' := a2.mono (fun a ha => by omega)
  have C1 : zCS h' := cs.two (a2.mono (fun a ha => by omega)) a1.r0 (cs.2.1.kept a2 (by omega))
  have e0 := (a2 0 (by omega)).trans h0
  have hs1 := hs.kept a2 (by omega)
  have ht1 := ht'.kept a2 (by omega)
  have et := (a2 t (by omega)).trans t1
  rw [zO_n (q := 0) (e := 0) (hc' := 1)] at a1
  obtain ⟨o1, o2⟩ := a1.obj
  obtain ⟨a, b, c, u, v, g5, g6, s1, s2, s3⟩ := C1.2.2.1
  have E := fun Q' => c64 (X := X) (N := N) (Q := Q') hs1 ok (by omega) o2 s1
  have ez := yNat hyn
  have F2 : zfr (fun a => 45 ≤ a ∧ a ≤ 47) h' (va_up h' 45 (.inr (6, [.int (nI (pSu S (oN S T))), .int (nI (pLo S (oN S T))), .int (nI (pDr S (oN S T))), .int u, .int v, .ref 46, .ref 47]))) := zfr.up (by omega) zfr.rf
  have P2 : pSp (va_up h' 45 (.inr (6, [.int (nI (pSu S (oN S T))), .int (nI (pLo S (oN S T))), .int (nI (pDr S (oN S T))), .int u, .int v, .ref 46, .ref 47]))) S (oN S T) := ⟨u, v, g5, g6, zup_s, (zup_n (by omega)).trans s2, (zup_n (by omega)).trans s3⟩
  have e02 := (F2 0 (by omega)).trans e0
  have et2 := (F2 t (by omega)).trans et
  have a12 := a1.kept F2 (by omega)
  have C2 := C1.sp F2 P2.qq
  simp (disch := omega) only [e93_0, e93_1, e93_4, e93_5, e93_8, e93_9, e93_10, e93_11, e93_14, e93_16, e93_17, e93_18, e93_21, e93_22, e93_25, e93_26, e93_29, e93_30, e93_33, e93_36, e93_40, e93_43, e93_44, e93_47, e93_49, e93_50, e93_53, e93_54, e93_56, e93_57, e93_60, e93_61, e93_64, e93_66, e93_67, e93_68, e93_71, e93_73, e93_76, e93_78, Option.toList_none, List.nil_append, e0, o1, s1, zg9_0, zp9_0, zg9_1, zp9_1, zg9_2, zp9_2, zg9_3, zp9_3, zg9_4, zp9_4, zg9_5, zp9_5, zg9_6, zp9_6, zg9_7, zp9_7, zg9_8, zp9_8, zg9_9, zp9_9, zg9_10, zp9_10, zg9_11, zp9_11, zg9_12, zp9_12, zg9_13, zp9_13, zg9_14, zp9_14, zg9_15, zp9_15, zg9_16, zp9_16, zg2_0, zp2_0, zg2_1, zp2_1, zg2_2, zp2_2, zg2_3, zp2_3, zrc_eq, zup_s, zup_n, zup_up, zal_i, zal_b, zal_z, zas_i, zas_b, zas_z, zan_eq, Option.toList_some, Option.toList_none, List.cons_append, List.nil_append, if_true, if_false, ite_true, ite_false, true_or, or_true, E]
  generalize va_up h' 45 (.inr (6, [.int (nI (pSu S (oN S T))), .int (nI (pLo S (oN S T))), .int (nI (pDr S (oN S T))), .int u, .int v, .ref 46, .ref 47])) = hh at *
  have e45 : ∃ fs, hh 45 = .inr (6, fs) := by obtain ⟨x, y, f, g, h1, -⟩ := P2; exact ⟨_, h1⟩
  obtain ⟨fs, e45⟩ := e45
  rw [hy] at et2
  simp (disch := omega) only [e93_0, e93_1, e93_4, e93_5, e93_8, e93_9, e93_10, e93_11, e93_14, e93_16, e93_17, e93_18, e93_21, e93_22, e93_25, e93_26, e93_29, e93_30, e93_33, e93_36, e93_39, e93_40, e93_43, e93_44, e93_47, e93_49, e93_50, e93_53, e93_54, e93_56, e93_57, e93_60, e93_61, e93_64, e93_66, e93_67, e93_68, e93_71, e93_73, e93_76, e93_78, Option.toList_none, List.nil_append, e02, et2, e45, zg9_0, zp9_0, zg9_1, zp9_1, zg9_2, zp9_2, zg9_3, zp9_3, zg9_4, zp9_4, zg9_5, zp9_5, zg9_6, zp9_6, zg9_7, zp9_7, zg9_8, zp9_8, zg9_9, zp9_9, zg9_10, zp9_10, zg9_11, zp9_11, zg9_12, zp9_12, zg9_13, zp9_13, zg9_14, zp9_14, zg9_15, zp9_15, zg9_16, zp9_16, zg8_0, zp8_0, zg8_1, zp8_1, zg8_2, zp8_2, zg8_3, zp8_3, zg8_4, zp8_4, zrc_eq, zup_s, zup_n, zup_up, zal_i, zal_b, zal_z, zas_i, zas_b, zas_z, zan_eq, Option.toList_some, Option.toList_none, List.cons_append, List.nil_append, if_true, if_false, ite_true, ite_false, true_or, or_true, z10k, ez]
  have hO := zO_ok (S := S) (T := T) (p := p) (d := T.2.2.2.1 - T.2.2.2.1 / 100 * 100) (hc := hc) S.1.1
  rw [zO_n (q := 0) (e := 0) (hc' := 1)] at hO
  refine c94 (by omega) a12 hO.2.2.2 P2 (fun h3 x b1 b2 b3 => ?_)
  have b1' : pbt x (yPd S T p hc) := by
    unfold yPd
    rw [hy, nI_clamp (by omega), ← hy]
    exact b1
  have C3 := C2.sp b3 b2.qq
  have e03 := (b3 0 (by omega)).trans e02
  have et3 := (b3 t (by omega)).trans et2
  have hs3 := (hs1.kept F2 (by omega)).kept b3 (by omega)
  have ht3 := (ht1.kept F2 (by omega)).kept b3 (by omega)
  simp (disch := omega) only [e93_0, e93_1, e93_4, e93_5, e93_8, e93_9, e93_10, e93_11, e93_14, e93_16, e93_17, e93_18, e93_21, e93_22, e93_25, e93_26, e93_29, e93_30, e93_33, e93_36, e93_39, e93_40, e93_43, e93_44, e93_47, e93_49, e93_50, e93_53, e93_54, e93_56, e93_57, e93_60, e93_61, e93_64, e93_66, e93_67, e93_68, e93_71, e93_73, e93_76, e93_78, Option.toList_some, List.cons_append, List.nil_append, e03, et3, zg9_0, zp9_0, zg9_1, zp9_1, zg9_2, zp9_2, zg9_3, zp9_3, zg9_4, zp9_4, zg9_5, zp9_5, zg9_6, zp9_6, zg9_7, zp9_7, zg9_8, zp9_8, zg9_9, zp9_9, zg9_10, zp9_10, zg9_11, zp9_11, zg9_12, zp9_12, zg9_13, zp9_13, zg9_14, zp9_14, zg9_15, zp9_15, zg9_16, zp9_16, zrc_eq, zup_s, zup_n, zup_up, zal_i, zal_b, zal_z, zas_i, zas_b, zas_z, zan_eq, Option.toList_some, Option.toList_none, List.cons_append, List.nil_append, if_true, if_false, ite_true, ite_false, true_or, or_true]
  refine c95 (by omega) ok b1' hs3 ht3 (fun h4 d1 d2 => ?_)
  simp (disch := omega) only [e93_0, e93_1, e93_4, e93_5, e93_8, e93_9, e93_10, e93_11, e93_14, e93_16, e93_17, e93_18, e93_21, e93_22, e93_25, e93_26, e93_29, e93_30, e93_33, e93_36, e93_39, e93_40, e93_43, e93_44, e93_47, e93_49, e93_50, e93_53, e93_54, e93_56, e93_57, e93_60, e93_61, e93_64, e93_66, e93_67, e93_68, e93_71, e93_73, e93_76, e93_78, Option.toList_none, List.nil_append]
  exact K h4 x b1' d1 (C3.kept d2 (by omega)) (((F1.tr (F2.mono (fun a ha => by omega))).tr (b3.mono (fun a ha => by omega))).tr (d2.mono (fun a ha => by omega)))
set_option maxHeartbeats 2000000 in
theorem yPd_cnt (ok : sK S) : nSum (fun j => if yPd S T p hc j = true then 1 else 0) 24 = pSu S (oN S T) + pDr S (oN S T) := by
  have hO := zO_ok (S := S) (T := T) (p := p) (d := T.2.2.2.1 - T.2.2.2.1 / 100 * 100) (hc := hc) S.1.1
  rw [zO_n (q := 0) (e := 0) (hc' := 1)] at hO
  exact pdS_cnt (fun j hj => by have := (hO.2.1 j hj).1; have := ok.1.1; omega) hO.2.2.2
set_option maxHeartbeats 2000000 in
theorem yPd_in {j : Nat} (h : yPd S T p hc j = true) : j < S.1.1 ∧ tIn S T j := by
  have hO := zO_ok (S := S) (T := T) (p := p) (d := T.2.2.2.1 - T.2.2.2.1 / 100 * 100) (hc := hc) S.1.1
  rw [zO_n (q := 0) (e := 0) (hc' := 1)] at hO
  obtain ⟨i, h1, rfl⟩ := pdS_in hO.2.2.2 h
  exact hO.2.1 i h1
def aYear (S : zSh) (T : zTm) (p : Int32) : Int32 := if isPan S.2.1.1 p then nI (pSu S (oN S T) + pDr S (oN S T)) else -1
def uYear (S : zSh) (T : zTm) (p : Int32) : zTm := if isPan S.2.1.1 p then zYr S T (yPd S T p 1) else T
set_option maxHeartbeats 2000000 in
theorem c92 {yn : Nat} (hyn : yn < 100000) (hy : T.2.2.2.1 = nI yn) (hcr : zCR h ld dd kp S T) (K : ∀ h', pTm h' 21 (uYear S T p) → zCS h' → zfr (fun a => (21 ≤ a ∧ a ≤ 24) ∨ (37 ≤ a ∧ a ≤ 52)) h h' → Q (some (.int (aYear S T p))) N h') : zE X 92 0 [some (.ref 0), some (.int p)] [] (N, 0, 0) h Q := by
  obtain ⟨h0, hd, hs, ok, ht, cs⟩ := hcr
  have h0' := h0
  unfold pObj at h0
  unfold aYear uYear at K
  by_cases g1 : isPan S.2.1.1 p
  · rw [if_pos g1, if_pos g1] at K
    have g1' := eq_true g1
    simp (disch := omega) only [e92_0, e92_1, e92_2, e92_5, e92_8, e92_9, e92_10, e92_11, e92_12, e92_15, e92_16, e92_17, e92_20, e92_23, h0, zg9_0, zp9_0, zg9_1, zp9_1, zg9_2, zp9_2, zg9_3, zp9_3, zg9_4, zp9_4, zg9_5, zp9_5, zg9_6, zp9_6, zg9_7, zp9_7, zg9_8, zp9_8, zg9_9, zp9_9, zg9_10, zp9_10, zg9_11, zp9_11, zg9_12, zp9_12, zg9_13, zp9_13, zg9_14, zp9_14, zg9_15, zp9_15, zg9_16, zp9_16, zrc_eq, zup_s, zup_n, zup_up, zal_i, zal_b, zal_z, zas_i, zas_b, zas_z, zan_eq, Option.toList_some, Option.toList_none, List.cons_append, List.nil_append, if_true, if_false, ite_true, ite_false, true_or, or_true, c41 h0' hs, g1', ↓reduceIte, z10]
    refine c93 (Or.inl rfl) hyn hy h0' hd hs ok ht cs (fun h' x b1 b2 b3 b4 => ?_)
    have ec := b1.cnt
    rw [yPd_cnt ok] at ec
    simp (disch := omega) only [e92_0, e92_1, e92_2, e92_5, e92_8, e92_9, e92_10, e92_11, e92_12, e92_15, e92_16, e92_17, e92_20, e92_23, Option.toList_some, List.cons_append, List.nil_append, c77, ec]
    exact K h' b2 b3 (b4.mono (fun a ha => by omega))
  · rw [if_neg g1, if_neg g1] at K
    simp (disch := omega) only [e92_0, e92_1, e92_2, e92_5, e92_8, e92_9, e92_10, e92_11, e92_12, e92_15, e92_16, e92_17, e92_20, e92_23, h0, zg9_0, zp9_0, zg9_1, zp9_1, zg9_2, zp9_2, zg9_3, zp9_3, zg9_4, zp9_4, zg9_5, zp9_5, zg9_6, zp9_6, zg9_7, zp9_7, zg9_8, zp9_8, zg9_9, zp9_9, zg9_10, zp9_10, zg9_11, zp9_11, zg9_12, zp9_12, zg9_13, zp9_13, zg9_14, zp9_14, zg9_15, zp9_15, zg9_16, zp9_16, zrc_eq, zup_s, zup_n, zup_up, zal_i, zal_b, zal_z, zas_i, zas_b, zas_z, zan_eq, Option.toList_some, Option.toList_none, List.cons_append, List.nil_append, if_true, if_false, ite_true, ite_false, true_or, or_true, c41 h0' hs, g1, ↓reduceIte, z00]
    exact K h ht cs zfr.rf
end C53
