-- having
section C58
variable {X : Nat × (Nat → Int32)} {N : Nat} {h : zH} {Q : Option Value → Nat → zH → Prop} {S : zSh} {T : zTm} {F : Nat → zTm} {D : Nat → Prop} {ld dd : Nat} {p d n w kp hc : Int32}
variable {len at_ rp rj np_ nj_ su lo dr : Int32} {ab be : Int64}
/-- the times k years on -/
def tSq (S : zSh) (T : zTm) (p hc : Int32) : Nat → zTm
  | 0 => T
  | k + 1 => zYr S (tSq S T p hc k) (yPd S (tSq S T p hc k) p hc)
set_option maxHeartbeats 4000000 in
theorem tSq_y {yn : Nat} (hy : T.2.2.2.1 = nI yn) : ∀ k, (tSq S T p hc k).2.2.2.1 = nI (yn + k)
  | 0 => hy
  | k + 1 => by
    show (tSq S T p hc k).2.2.2.1 + 1 = nI (yn + (k + 1))
    rw [tSq_y hy k, nI_1]
    rfl
/-- payments of year k that there would not be without having -/
def hvK (S : zSh) (T : zTm) (p : Int32) (k : Nat) : Nat := nSum (fun i => if (yPd S (tSq S T p 1 k) p 1 i && !yPd S (tSq S T p 0 k) p 0 i) = true then 1 else 0) 24
set_option maxHeartbeats 4000000 in
theorem c99_33 {yn m : Nat} (hyn : yn + 100 < 100000) (hm : m ≤ 30) (hy : T.2.2.2.1 = nI yn) (hd : (ld = 4 ∧ dd = 12) ∨ (ld = 12 ∧ dd = 4)) (ok : sK S) : ∀ (l k : Nat) (pa : Nat → Int32) (h : zH), l + k = m → h 0 = pObj ld dd kp → pSh h ld S → pTm h 25 (tSq S T p 1 k) → zCS h → h 52 = .inl (.int, 30, pa) → (∀ j, j < k → pbt (pa j) (yPd S (tSq S T p 1 j) p 1)) → (∀ h' pa' T', pTm h' 25 T' → zCS h' → h' 52 = .inl (.int, 30, pa') → (∀ j, j < m → pbt (pa' j) (yPd S (tSq S T p 1 j) p 1)) → zfr (fun a => (25 ≤ a ∧ a ≤ 28) ∨ (37 ≤ a ∧ a ≤ 52)) h h' → zE X 99 60 [some (.ref 0), some (.int p), some (.int (nI m)), some (.int (nI m)), none] [] (N, 0, 0) h' Q) → zE X 99 33 [some (.ref 0), some (.int p), some (.int (nI m)), some (.int (nI k)), none] [] (N, 0, 0) h Q := by
  intro l
  induction l with
  | zero =>
    intro k pa h hk h0 hs ht cs h52 a1 K
    obtain rfl : k = m := by omega
    rw [e99_33]
    simp (disch := omega) only [e99_0, e99_1, e99_2, e99_5, e99_8, e99_9, e99_10, e99_12, e99_15, e99_18, e99_19, e99_20, e99_21, e99_24, e99_25, e99_28, e99_31, e99_32, e99_34, e99_35, e99_38, e99_39, e99_42, e99_43, e99_44, e99_45, e99_48, e99_49, e99_50, e99_53, e99_54, e99_57, e99_61, e99_64, e99_65, e99_68, e99_71, e99_72, e99_73, e99_74, e99_78, e99_79, e99_82, e99_83, e99_84, e99_87, e99_89, e99_90, e99_91, e99_92, e99_95, e99_96, e99_97, e99_100, e99_101, e99_102, e99_103, e99_106, e99_107, e99_108, e99_111, e99_114, e99_115, znI_le, if_pos]
    exact K h pa _ ht cs h52 a1 zfr.rf
  | succ l ih =>
    intro k pa h hk h0 hs ht cs h52 a1 K
    have h0' := h0
    unfold pObj at h0
    rw [e99_33]
    simp (disch := omega) only [e99_0, e99_1, e99_2, e99_5, e99_8, e99_9, e99_10, e99_12, e99_15, e99_18, e99_19, e99_20, e99_21, e99_24, e99_25, e99_28, e99_31, e99_32, e99_34, e99_35, e99_38, e99_39, e99_42, e99_43, e99_44, e99_45, e99_48, e99_49, e99_50, e99_53, e99_54, e99_57, e99_61, e99_64, e99_65, e99_68, e99_71, e99_72, e99_73, e99_74, e99_78, e99_79, e99_82, e99_83, e99_84, e99_87, e99_89, e99_90, e99_91, e99_92, e99_95, e99_96, e99_97, e99_100, e99_101, e99_102, e99_103, e99_106, e99_107, e99_108, e99_111, e99_114, e99_115, h0, zg9_0, zp9_0, zg9_1, zp9_1, zg9_2, zp9_2, zg9_3, zp9_3, zg9_4, zp9_4, zg9_5, zp9_5, zg9_6, zp9_6, zg9_7, zp9_7, zg9_8, zp9_8, zg9_9, zp9_9, zg9_10, zp9_10, zg9_11, zp9_11, zg9_12, zp9_12, zg9_13, zp9_13, zg9_14, zp9_14, zg9_15, zp9_15, zg9_16, zp9_16, zrc_eq, zup_s, zup_n, zup_up, zal_i, zal_b, zal_z, zas_i, zas_b, zas_z, zan_eq, Option.toList_some, Option.toList_none, List.cons_append, List.nil_append, if_true, if_false, ite_true, ite_false, true_or, or_true, znI_le, if_neg]
    refine c93 (yn := yn + k) (Or.inr rfl) (by omega) (tSq_y hy k) h0' hd hs ok ht cs (fun h' x b1 b2 b3 b4 => ?_)
    have p52 := (b4 52 (by omega)).trans h52
    simp (disch := omega) only [e99_0, e99_1, e99_2, e99_5, e99_8, e99_9, e99_10, e99_12, e99_15, e99_18, e99_19, e99_20, e99_21, e99_24, e99_25, e99_28, e99_31, e99_32, e99_34, e99_35, e99_38, e99_39, e99_42, e99_43, e99_44, e99_45, e99_48, e99_49, e99_50, e99_53, e99_54, e99_57, e99_61, e99_64, e99_65, e99_68, e99_71, e99_72, e99_73, e99_74, e99_78, e99_79, e99_82, e99_83, e99_84, e99_87, e99_89, e99_90, e99_91, e99_92, e99_95, e99_96, e99_97, e99_100, e99_101, e99_102, e99_103, e99_106, e99_107, e99_108, e99_111, e99_114, e99_115, Option.toList_some, List.cons_append, List.nil_append, p52, zrc_eq, zup_s, zup_n, zup_up, zal_i, zal_b, zal_z, zas_i, zas_b, zas_z, zan_eq, Option.toList_some, Option.toList_none, List.cons_append, List.nil_append, if_true, if_false, ite_true, ite_false, true_or, or_true, nI_1]
    have F2 : zfr (fun a => a = 52) h' (va_up h' 52 (.inl (.int, 30, upd pa k x))) := zfr.up rfl zfr.rf
    have F3 : zfr (fun a => (25 ≤ a ∧ a ≤ 28) ∨ (37 ≤ a ∧ a ≤ 52)) h (va_up h' 52 (.inl (.int, 30, upd pa k x))) := (b4.mono (fun a ha => by omega)).tr (F2.mono (fun a ha => by omega))
    refine ih (k + 1) (upd pa k x) _ (by omega) ((F3 0 (by omega)).trans h0') (hs.kept F3 (by omega)) (b2.kept F2 (by omega)) (b3.pa F2 ⟨_, zup_s⟩) zup_s (fun j hj => ?_) (fun h2 pa' T' c1 c2 c3 c4 c5 => K h2 pa' T' c1 c2 c3 c4 (F3.tr c5))
    by_cases q : j = k
    · subst q; rw [upd_s]; exact b1
    · rw [upd_n q]; exact a1 j (by omega)
set_option maxHeartbeats 4000000 in
theorem c99_76 {yn m : Nat} {pa : Nat → Int32} (hyn : yn + 100 < 100000) (hm : m ≤ 30) (hy : T.2.2.2.1 = nI yn) (hd : (ld = 4 ∧ dd = 12) ∨ (ld = 12 ∧ dd = 4)) (ok : sK S) (hpa : ∀ j, j < m → pbt (pa j) (yPd S (tSq S T p 1 j) p 1)) : ∀ (l k : Nat) (h : zH), l + k = m → h 0 = pObj ld dd kp → pSh h ld S → pTm h 25 (tSq S T p 0 k) → zCS h → h 52 = .inl (.int, 30, pa) → (∀ h' T', pTm h' 25 T' → zCS h' → zfr (fun a => (25 ≤ a ∧ a ≤ 28) ∨ (37 ≤ a ∧ a ≤ 52)) h h' → Q (some (.int (nI (nSum (hvK S T p) m)))) N h') → zE X 99 76 [some (.ref 0), some (.int p), some (.int (nI m)), some (.int (nI (nSum (hvK S T p) k))), some (.int (nI k))] [] (N, 0, 0) h Q := by
  intro l
  induction l with
  | zero =>
    intro k h hk h0 hs ht cs h52 K
    obtain rfl : k = m := by omega
    rw [e99_76]
    simp (disch := omega) only [e99_0, e99_1, e99_2, e99_5, e99_8, e99_9, e99_10, e99_12, e99_15, e99_18, e99_19, e99_20, e99_21, e99_24, e99_25, e99_28, e99_31, e99_32, e99_34, e99_35, e99_38, e99_39, e99_42, e99_43, e99_44, e99_45, e99_48, e99_49, e99_50, e99_53, e99_54, e99_57, e99_60, e99_61, e99_64, e99_65, e99_68, e99_71, e99_72, e99_73, e99_74, e99_78, e99_79, e99_82, e99_83, e99_84, e99_87, e99_89, e99_90, e99_91, e99_92, e99_95, e99_96, e99_97, e99_100, e99_101, e99_102, e99_103, e99_106, e99_107, e99_108, e99_111, e99_114, e99_115, znI_le, if_pos]
    exact K h _ ht cs zfr.rf
  | succ l ih =>
    intro k h hk h0 hs ht cs h52 K
    have h0' := h0
    unfold pObj at h0
    rw [e99_76]
    simp (disch := omega) only [e99_0, e99_1, e99_2, e99_5, e99_8, e99_9, e99_10, e99_12, e99_15, e99_18, e99_19, e99_20, e99_21, e99_24, e99_25, e99_28, e99_31, e99_32, e99_34, e99_35, e99_38, e99_39, e99_42, e99_43, e99_44, e99_45, e99_48, e99_49, e99_50, e99_53, e99_54, e99_57, e99_60, e99_61, e99_64, e99_65, e99_68, e99_71, e99_72, e99_73, e99_74, e99_78, e99_79, e99_82, e99_83, e99_84, e99_87, e99_89, e99_90, e99_91, e99_92, e99_95, e99_96, e99_97, e99_100, e99_101, e99_102, e99_103, e99_106, e99_107, e99_108, e99_111, e99_114, e99_115, h0, h52, zg9_0, zp9_0, zg9_1, zp9_1, zg9_2, zp9_2, zg9_3, zp9_3, zg9_4, zp9_4, zg9_5, zp9_5, zg9_6, zp9_6, zg9_7, zp9_7, zg9_8, zp9_8, zg9_9, zp9_9, zg9_10, zp9_10, zg9_11, zp9_11, zg9_12, zp9_12, zg9_13, zp9_13, zg9_14, zp9_14, zg9_15, zp9_15, zg9_16, zp9_16, zrc_eq, zup_s, zup_n, zup_up, zal_i, zal_b, zal_z, zas_i, zas_b, zas_z, zan_eq, Option.toList_some, Option.toList_none, List.cons_append, List.nil_append, if_true, if_false, ite_true, ite_false, true_or, or_true, znI_le, if_neg]
    refine c93 (yn := yn + k) (Or.inr rfl) (by omega) (tSq_y hy k) h0' hd hs ok ht cs (fun h' x b1 b2 b3 b4 => ?_)
    have ec := ((hpa k (by omega)).diff b1).cnt
    have ec' : zbc (pa k &&& (x ^^^ (-1))) = nI (hvK S T p k) := ec
    have es : nSum (hvK S T p) k + hvK S T p k = nSum (hvK S T p) (k + 1) := rfl
    simp (disch := omega) only [e99_0, e99_1, e99_2, e99_5, e99_8, e99_9, e99_10, e99_12, e99_15, e99_18, e99_19, e99_20, e99_21, e99_24, e99_25, e99_28, e99_31, e99_32, e99_34, e99_35, e99_38, e99_39, e99_42, e99_43, e99_44, e99_45, e99_48, e99_49, e99_50, e99_53, e99_54, e99_57, e99_60, e99_61, e99_64, e99_65, e99_68, e99_71, e99_72, e99_73, e99_74, e99_78, e99_79, e99_82, e99_83, e99_84, e99_87, e99_89, e99_90, e99_91, e99_92, e99_95, e99_96, e99_97, e99_100, e99_101, e99_102, e99_103, e99_106, e99_107, e99_108, e99_111, e99_114, e99_115, Option.toList_some, List.cons_append, List.nil_append, c77, ec', nI_add, es, nI_1]
    have F3 : zfr (fun a => (25 ≤ a ∧ a ≤ 28) ∨ (37 ≤ a ∧ a ≤ 52)) h h' := b4.mono (fun a ha => by omega)
    exact ih (k + 1) h' (by omega) ((F3 0 (by omega)).trans h0') (hs.kept F3 (by omega)) b2 b3 ((b4 52 (by omega)).trans h52) (fun h2 T' c1 c2 c3 => K h2 T' c1 c2 (F3.tr c3))
def aHaving (S : zSh) (T : zTm) (p n : Int32) : Int32 := if isPan S.2.1.1 p ∧ (1 ≤ n ∧ n ≤ 30) then nI (nSum (hvK S T p) n.toNatClampNeg) else -1
set_option maxHeartbeats 4000000 in
theorem c99 {yn : Nat} {T0 : zTm} (hyn : yn + 100 < 100000) (hy : T.2.2.2.1 = nI yn) (hcr : zCR h ld dd kp S T) (ht0 : pTm h 25 T0) (K : ∀ h' T', pTm h' 25 T' → zCS h' → zfr (fun a => (25 ≤ a ∧ a ≤ 28) ∨ (37 ≤ a ∧ a ≤ 52)) h h' → Q (some (.int (aHaving S T p n))) N h') : zE X 99 0 [some (.ref 0), some (.int p), some (.int n), none, none] [] (N, 0, 0) h Q := by
  obtain ⟨h0, hd, hs, ok, ht, cs⟩ := hcr
  have h0' := h0
  unfold pObj at h0
  simp only [e99_0, e99_1, e99_2, e99_5, e99_8, e99_9, e99_10, e99_12, e99_15, e99_18, e99_19, e99_21, e99_24, e99_25, e99_28, e99_31, e99_32, e99_34, e99_35, e99_38, e99_39, e99_42, e99_43, e99_44, e99_45, e99_48, e99_49, e99_50, e99_53, e99_54, e99_57, e99_60, e99_61, e99_64, e99_65, e99_68, e99_71, e99_72, e99_73, e99_74, e99_78, e99_79, e99_82, e99_83, e99_84, e99_87, e99_89, e99_90, e99_91, e99_92, e99_95, e99_96, e99_97, e99_100, e99_101, e99_102, e99_103, e99_106, e99_107, e99_108, e99_111, e99_114, e99_115, h0, c41 h0' hs, c13, zrc_eq, zup_s, zup_n, zup_up, zal_i, zal_b, zal_z, zas_i, zas_b, zas_z, zan_eq, Option.toList_some, Option.toList_none, List.cons_append, List.nil_append, if_true, if_false, ite_true, ite_false, true_or, or_true, z10, z00]
  unfold aHaving at K
  by_cases g1 : isPan S.2.1.1 p
  · rw [if_pos g1]
    by_cases g2 : 1 ≤ n ∧ n ≤ 30
    · rw [if_pos g2]
      rw [if_pos ⟨g1, g2⟩] at K
      obtain ⟨m, hm1, hm2, rfl⟩ := zrange (lo := 1) (hi := 30) (by decide) g2.1 g2.2 (by decide)
      rw [nI_clamp (by omega)] at K
      obtain ⟨fs, ht1⟩ := ht0.obj
      simp (disch := omega) only [e99_0, e99_1, e99_2, e99_5, e99_8, e99_9, e99_10, e99_12, e99_15, e99_18, e99_19, e99_20, e99_21, e99_24, e99_25, e99_28, e99_31, e99_32, e99_34, e99_35, e99_38, e99_39, e99_42, e99_43, e99_44, e99_45, e99_48, e99_49, e99_50, e99_53, e99_54, e99_57, e99_60, e99_61, e99_64, e99_65, e99_68, e99_71, e99_72, e99_73, e99_74, e99_78, e99_79, e99_82, e99_83, e99_84, e99_87, e99_89, e99_90, e99_91, e99_92, e99_95, e99_96, e99_97, e99_100, e99_101, e99_102, e99_103, e99_106, e99_107, e99_108, e99_111, e99_114, e99_115, h0, ht1, zg9_0, zp9_0, zg9_1, zp9_1, zg9_2, zp9_2, zg9_3, zp9_3, zg9_4, zp9_4, zg9_5, zp9_5, zg9_6, zp9_6, zg9_7, zp9_7, zg9_8, zp9_8, zg9_9, zp9_9, zg9_10, zp9_10, zg9_11, zp9_11, zg9_12, zp9_12, zg9_13, zp9_13, zg9_14, zp9_14, zg9_15, zp9_15, zg9_16, zp9_16, zrc_eq, zup_s, zup_n, zup_up, zal_i, zal_b, zal_z, zas_i, zas_b, zas_z, zan_eq, Option.toList_some, Option.toList_none, List.cons_append, List.nil_append, if_true, if_false, ite_true, ite_false, true_or, or_true]
      refine c100 (by omega) ht0 ht (fun h1 a1 a2 => ?_)
      have G1 : zfr (fun a => (25 ≤ a ∧ a ≤ 28) ∨ (37 ≤ a ∧ a ≤ 52)) h h1 := a2.mono (fun a ha => by omega)
      have cs1 := cs.kept a2 (by omega)
      obtain ⟨pa, p52⟩ := cs1.2.2.2.2.2.2
      simp (disch := omega) only [e99_0, e99_1, e99_2, e99_5, e99_8, e99_9, e99_10, e99_12, e99_15, e99_18, e99_19, e99_20, e99_21, e99_24, e99_25, e99_28, e99_31, e99_32, e99_34, e99_35, e99_38, e99_39, e99_42, e99_43, e99_44, e99_45, e99_48, e99_49, e99_50, e99_53, e99_54, e99_57, e99_60, e99_61, e99_64, e99_65, e99_68, e99_71, e99_72, e99_73, e99_74, e99_78, e99_79, e99_82, e99_83, e99_84, e99_87, e99_89, e99_90, e99_91, e99_92, e99_95, e99_96, e99_97, e99_100, e99_101, e99_102, e99_103, e99_106, e99_107, e99_108, e99_111, e99_114, e99_115, Option.toList_none, List.nil_append, zc0]
      refine c99_33 (T := T) hyn hm2 hy hd ok m 0 pa h1 (by omega) ((a2 0 (by omega)).trans h0') (hs.kept a2 (by omega)) a1 cs1 p52 (fun j hj => absurd hj (Nat.not_lt_zero j)) (fun h2 pa' T' b1 b2 b3 b4 b5 => ?_)
      have G2 := G1.tr b5
      have e02 := (G2 0 (by omega)).trans h0
      obtain ⟨fs2, ht2⟩ := b1.obj
      simp (disch := omega) only [e99_0, e99_1, e99_2, e99_5, e99_8, e99_9, e99_10, e99_12, e99_15, e99_18, e99_19, e99_20, e99_21, e99_24, e99_25, e99_28, e99_31, e99_32, e99_34, e99_35, e99_38, e99_39, e99_42, e99_43, e99_44, e99_45, e99_48, e99_49, e99_50, e99_53, e99_54, e99_57, e99_60, e99_61, e99_64, e99_65, e99_68, e99_71, e99_72, e99_73, e99_74, e99_78, e99_79, e99_82, e99_83, e99_84, e99_87, e99_89, e99_90, e99_91, e99_92, e99_95, e99_96, e99_97, e99_100, e99_101, e99_102, e99_103, e99_106, e99_107, e99_108, e99_111, e99_114, e99_115, e02, ht2, zg9_0, zp9_0, zg9_1, zp9_1, zg9_2, zp9_2, zg9_3, zp9_3, zg9_4, zp9_4, zg9_5, zp9_5, zg9_6, zp9_6, zg9_7, zp9_7, zg9_8, zp9_8, zg9_9, zp9_9, zg9_10, zp9_10, zg9_11, zp9_11, zg9_12, zp9_12, zg9_13, zp9_13, zg9_14, zp9_14, zg9_15, zp9_15, zg9_16, zp9_16, zrc_eq, zup_s, zup_n, zup_up, zal_i, zal_b, zal_z, zas_i, zas_b, zas_z, zan_eq, Option.toList_some, Option.toList_none, List.cons_append, List.nil_append, if_true, if_false, ite_true, ite_false, true_or, or_true]
      refine c100 (by omega) b1 (ht.kept G2 (by omega)) (fun h3 c1 c2 => ?_)
      have G3 := G2.tr (c2.mono (R := fun a => (25 ≤ a ∧ a ≤ 28) ∨ (37 ≤ a ∧ a ≤ 52)) (fun a ha => by omega))
      simp (disch := omega) only [e99_0, e99_1, e99_2, e99_5, e99_8, e99_9, e99_10, e99_12, e99_15, e99_18, e99_19, e99_20, e99_21, e99_24, e99_25, e99_28, e99_31, e99_32, e99_34, e99_35, e99_38, e99_39, e99_42, e99_43, e99_44, e99_45, e99_48, e99_49, e99_50, e99_53, e99_54, e99_57, e99_60, e99_61, e99_64, e99_65, e99_68, e99_71, e99_72, e99_73, e99_74, e99_78, e99_79, e99_82, e99_83, e99_84, e99_87, e99_89, e99_90, e99_91, e99_92, e99_95, e99_96, e99_97, e99_100, e99_101, e99_102, e99_103, e99_106, e99_107, e99_108, e99_111, e99_114, e99_115, Option.toList_none, List.nil_append, zc0]
      exact c99_76 (T := T) hyn hm2 hy hd ok b4 m 0 h3 (by omega) ((G3 0 (by omega)).trans h0') (hs.kept G3 (by omega)) c1 (b2.kept c2 (by omega)) ((c2 52 (by omega)).trans b3) (fun h4 T' d1 d2 d3 => K h4 T' d1 d2 (G3.tr d3))
    · rw [if_neg g2]
      rw [if_neg (fun z => g2 z.2)] at K
      exact K h T0 ht0 cs zfr.rf
  · rw [if_neg g1]
    rw [if_neg (fun z => g1 z.1)] at K
    exact K h T0 ht0 cs zfr.rf
set_option maxHeartbeats 4000000 in
theorem c155_56 {l1 l2 l3 l4 : Option Value} {P : Nat → Bool} : ∀ (m i : Nat) (g : Nat → Int32) (h : zH), m + i = 24 → h 53 = mObj len at_ rp rj np_ nj_ kp su lo dr ab be → pPd h P → h 74 = .inl (.boolean, 24, g) → (∀ j, j < i → g j = if P j = true then 1 else 0) → (∀ h' g, h' 74 = .inl (.boolean, 24, g) → (∀ j, j < 24 → g j = if P j = true then 1 else 0) → zfr (fun a => a = 74) h h' → zE X 155 83 [some (.ref 53), l1, l2, l3, l4, some (.int (nI 24))] [] (N, 0, 0) h' Q) → zE X 155 56 [some (.ref 53), l1, l2, l3, l4, some (.int (nI i))] [] (N, 0, 0) h Q := by
  intro m
  induction m with
  | zero =>
    intro i g h hm h1 hp h74 a1 K
    obtain rfl : i = 24 := by omega
    rw [e155_56]
    simp (disch := omega) only [e155_0, e155_1, e155_2, e155_5, e155_8, e155_9, e155_10, e155_11, e155_14, e155_17, e155_20, e155_21, e155_22, e155_23, e155_24, e155_25, e155_28, e155_29, e155_30, e155_31, e155_34, e155_35, e155_36, e155_37, e155_41, e155_42, e155_45, e155_46, e155_47, e155_48, e155_49, e155_52, e155_53, e155_54, e155_58, e155_60, e155_63, e155_64, e155_67, e155_69, e155_70, e155_73, e155_75, e155_76, e155_77, e155_80, e155_84, e155_85, e155_86, e155_87, e155_90, e155_91, e155_92, e155_96, e155_97, e155_100, e155_103, e155_104, e155_105, e155_108, e155_110, e155_111, e155_114, e155_115, e155_118, e155_120, e155_121, e155_124, e155_125, e155_128, e155_129, e155_130, e155_131, e155_134, e155_137, e155_140, e155_143, e155_144, zc24, znI_le, if_pos]
    exact K h g h74 a1 zfr.rf
  | succ m ih =>
    intro i g h hm h1 hp h74 a1 K
    have h1' := h1
    unfold mObj at h1
    obtain ⟨f, h73, hf⟩ := hp
    have h01 : f i = 0 ∨ f i = 1 := by
      rw [hf i (by omega)]
      split
      · exact Or.inr rfl
      · exact Or.inl rfl
    rw [e155_56]
    simp (disch := omega) only [e155_0, e155_1, e155_2, e155_5, e155_8, e155_9, e155_10, e155_11, e155_14, e155_17, e155_20, e155_21, e155_22, e155_23, e155_24, e155_25, e155_28, e155_29, e155_30, e155_31, e155_34, e155_35, e155_36, e155_37, e155_41, e155_42, e155_45, e155_46, e155_47, e155_48, e155_49, e155_52, e155_53, e155_54, e155_58, e155_60, e155_63, e155_64, e155_67, e155_69, e155_70, e155_73, e155_75, e155_76, e155_77, e155_80, e155_84, e155_85, e155_86, e155_87, e155_90, e155_91, e155_92, e155_96, e155_97, e155_100, e155_103, e155_104, e155_105, e155_108, e155_110, e155_111, e155_114, e155_115, e155_118, e155_120, e155_121, e155_124, e155_125, e155_128, e155_129, e155_130, e155_131, e155_134, e155_137, e155_140, e155_143, e155_144, h1, h73, h74, zg10_0, zp10_0, zg10_1, zp10_1, zg10_2, zp10_2, zg10_3, zp10_3, zg10_4, zp10_4, zg10_5, zp10_5, zg10_6, zp10_6, zg10_7, zp10_7, zg10_8, zp10_8, zg10_9, zp10_9, zg10_10, zp10_10, zg10_11, zp10_11, zg10_12, zp10_12, zg10_13, zp10_13, zg10_14, zp10_14, zg10_15, zp10_15, zg10_16, zp10_16, zg10_17, zp10_17, zg10_18, zp10_18, zg10_19, zp10_19, zg10_20, zp10_20, zg10_21, zp10_21, zg10_22, zp10_22, zg10_23, zp10_23, zg10_24, zp10_24, zg10_25, zp10_25, zg10_26, zp10_26, zg10_27, zp10_27, zg10_28, zp10_28, zg10_29, zp10_29, zg10_30, zp10_30, zg10_31, zp10_31, zg10_32, zp10_32, zrc_eq, zup_s, zup_n, zup_up, zal_i, zal_b, zal_z, zas_i, zas_b, zas_z, zan_eq, Option.toList_some, Option.toList_none, List.cons_append, List.nil_append, if_true, if_false, ite_true, ite_false, true_or, or_true, zc24, znI_le, if_neg, nI_1, z01 h01]
    refine ih (i + 1) _ _ (by omega) ((zup_n (by omega)).trans h1') ⟨f, (zup_n (by omega)).trans h73, hf⟩ zup_s (fun j hj => ?_) (fun h' g c1 c2 c3 => K h' g c1 c2 (zfr.up rfl c3))
    by_cases q : j = i
    · subst q; rw [upd_s]; exact hf j (by omega)
    · rw [upd_n q]; exact a1 j (by omega)
set_option maxHeartbeats 4000000 in
theorem c155_94 {l1 l2 l4 : Option Value} {P R : Nat → Bool} {f g : Nat → Int32} {s0 : Nat} (hnp : S.1.1 ≤ 24) (h1 : h 53 = mObj len at_ rp rj (nI S.1.1) nj_ kp su lo dr ab be) (h73 : h 73 = .inl (.boolean, 24, f)) (hf : ∀ i, i < 24 → f i = if P i = true then 1 else 0) (h74 : h 74 = .inl (.boolean, 24, g)) (hg : ∀ i, i < 24 → g i = if R i = true then 1 else 0) : ∀ m i, m + i = S.1.1 → zE X 155 94 [some (.ref 53), l1, l2, some (.int (nI (s0 + nSum (fun i => if (P i && !R i) = true then 1 else 0) i))), l4, some (.int (nI i))] [] (N, 0, 0) h Q = zE X 155 137 [some (.ref 53), l1, l2, some (.int (nI (s0 + nSum (fun i => if (P i && !R i) = true then 1 else 0) S.1.1))), l4, some (.int (nI S.1.1))] [] (N, 0, 0) h Q := by
  unfold mObj at h1
  intro m
  induction m with
  | zero =>
    intro i hi
    obtain rfl : i = S.1.1 := by omega
    rw [e155_94]
    simp (disch := omega) only [e155_0, e155_1, e155_2, e155_5, e155_8, e155_9, e155_10, e155_11, e155_14, e155_17, e155_20, e155_21, e155_22, e155_23, e155_24, e155_25, e155_28, e155_29, e155_30, e155_31, e155_34, e155_35, e155_36, e155_37, e155_41, e155_42, e155_45, e155_46, e155_47, e155_48, e155_49, e155_52, e155_53, e155_54, e155_58, e155_60, e155_63, e155_64, e155_67, e155_69, e155_70, e155_73, e155_75, e155_76, e155_77, e155_80, e155_83, e155_84, e155_85, e155_86, e155_87, e155_90, e155_91, e155_92, e155_96, e155_97, e155_100, e155_103, e155_104, e155_105, e155_108, e155_110, e155_111, e155_114, e155_115, e155_118, e155_120, e155_121, e155_124, e155_125, e155_128, e155_129, e155_130, e155_131, e155_134, e155_140, e155_143, e155_144, h1, zg10_0, zp10_0, zg10_1, zp10_1, zg10_2, zp10_2, zg10_3, zp10_3, zg10_4, zp10_4, zg10_5, zp10_5, zg10_6, zp10_6, zg10_7, zp10_7, zg10_8, zp10_8, zg10_9, zp10_9, zg10_10, zp10_10, zg10_11, zp10_11, zg10_12, zp10_12, zg10_13, zp10_13, zg10_14, zp10_14, zg10_15, zp10_15, zg10_16, zp10_16, zg10_17, zp10_17, zg10_18, zp10_18, zg10_19, zp10_19, zg10_20, zp10_20, zg10_21, zp10_21, zg10_22, zp10_22, zg10_23, zp10_23, zg10_24, zp10_24, zg10_25, zp10_25, zg10_26, zp10_26, zg10_27, zp10_27, zg10_28, zp10_28, zg10_29, zp10_29, zg10_30, zp10_30, zg10_31, zp10_31, zg10_32, zp10_32, zrc_eq, zup_s, zup_n, zup_up, zal_i, zal_b, zal_z, zas_i, zas_b, zas_z, zan_eq, Option.toList_some, Option.toList_none, List.cons_append, List.nil_append, if_true, if_false, ite_true, ite_false, true_or, or_true, znI_le, if_pos]
  | succ m ih =>
    intro i hi
    have ih' := ih (i + 1) (by omega)
    rw [nSum, ← Nat.add_assoc] at ih'
    have ef := hf i (by omega)
    have eg := hg i (by omega)
    rw [e155_94]
    by_cases gP : P i = true
    · rw [if_pos gP] at ef
      by_cases gR : R i = true
      · rw [if_pos gR] at eg
        rw [if_neg (by simp [gP, gR])] at ih'
        simp (disch := omega) only [e155_0, e155_1, e155_2, e155_5, e155_8, e155_9, e155_10, e155_11, e155_14, e155_17, e155_20, e155_21, e155_22, e155_23, e155_24, e155_25, e155_28, e155_29, e155_30, e155_31, e155_34, e155_35, e155_36, e155_37, e155_41, e155_42, e155_45, e155_46, e155_47, e155_48, e155_49, e155_52, e155_53, e155_54, e155_58, e155_60, e155_63, e155_64, e155_67, e155_69, e155_70, e155_73, e155_75, e155_76, e155_77, e155_80, e155_83, e155_84, e155_85, e155_86, e155_87, e155_90, e155_91, e155_92, e155_96, e155_97, e155_100, e155_103, e155_104, e155_105, e155_108, e155_110, e155_111, e155_114, e155_115, e155_118, e155_120, e155_121, e155_124, e155_125, e155_128, e155_129, e155_130, e155_131, e155_134, e155_140, e155_143, e155_144, h1, h73, h74, zg10_0, zp10_0, zg10_1, zp10_1, zg10_2, zp10_2, zg10_3, zp10_3, zg10_4, zp10_4, zg10_5, zp10_5, zg10_6, zp10_6, zg10_7, zp10_7, zg10_8, zp10_8, zg10_9, zp10_9, zg10_10, zp10_10, zg10_11, zp10_11, zg10_12, zp10_12, zg10_13, zp10_13, zg10_14, zp10_14, zg10_15, zp10_15, zg10_16, zp10_16, zg10_17, zp10_17, zg10_18, zp10_18, zg10_19, zp10_19, zg10_20, zp10_20, zg10_21, zp10_21, zg10_22, zp10_22, zg10_23, zp10_23, zg10_24, zp10_24, zg10_25, zp10_25, zg10_26, zp10_26, zg10_27, zp10_27, zg10_28, zp10_28, zg10_29, zp10_29, zg10_30, zp10_30, zg10_31, zp10_31, zg10_32, zp10_32, zrc_eq, zup_s, zup_n, zup_up, zal_i, zal_b, zal_z, zas_i, zas_b, zas_z, zan_eq, Option.toList_some, Option.toList_none, List.cons_append, List.nil_append, if_true, if_false, ite_true, ite_false, true_or, or_true, znI_le, if_neg, ef, eg, z10, nI_1, Int32.add_zero]
        exact ih'
      · rw [if_neg gR] at eg
        rw [if_pos (by simp [gP, gR])] at ih'
        simp (disch := omega) only [e155_0, e155_1, e155_2, e155_5, e155_8, e155_9, e155_10, e155_11, e155_14, e155_17, e155_20, e155_21, e155_22, e155_23, e155_24, e155_25, e155_28, e155_29, e155_30, e155_31, e155_34, e155_35, e155_36, e155_37, e155_41, e155_42, e155_45, e155_46, e155_47, e155_48, e155_49, e155_52, e155_53, e155_54, e155_58, e155_60, e155_63, e155_64, e155_67, e155_69, e155_70, e155_73, e155_75, e155_76, e155_77, e155_80, e155_83, e155_84, e155_85, e155_86, e155_87, e155_90, e155_91, e155_92, e155_96, e155_97, e155_100, e155_103, e155_104, e155_105, e155_108, e155_110, e155_111, e155_114, e155_115, e155_118, e155_120, e155_121, e155_124, e155_125, e155_128, e155_129, e155_130, e155_131, e155_134, e155_140, e155_143, e155_144, h1, h73, h74, zg10_0, zp10_0, zg10_1, zp10_1, zg10_2, zp10_2, zg10_3, zp10_3, zg10_4, zp10_4, zg10_5, zp10_5, zg10_6, zp10_6, zg10_7, zp10_7, zg10_8, zp10_8, zg10_9, zp10_9, zg10_10, zp10_10, zg10_11, zp10_11, zg10_12, zp10_12, zg10_13, zp10_13, zg10_14, zp10_14, zg10_15, zp10_15, zg10_16, zp10_16, zg10_17, zp10_17, zg10_18, zp10_18, zg10_19, zp10_19, zg10_20, zp10_20, zg10_21, zp10_21, zg10_22, zp10_22, zg10_23, zp10_23, zg10_24, zp10_24, zg10_25, zp10_25, zg10_26, zp10_26, zg10_27, zp10_27, zg10_28, zp10_28, zg10_29, zp10_29, zg10_30, zp10_30, zg10_31, zp10_31, zg10_32, zp10_32, zrc_eq, zup_s, zup_n, zup_up, zal_i, zal_b, zal_z, zas_i, zas_b, zas_z, zan_eq, Option.toList_some, Option.toList_none, List.cons_append, List.nil_append, if_true, if_false, ite_true, ite_false, true_or, or_true, znI_le, if_neg, ef, eg, z10, z00, nI_1]
        exact ih'
    · rw [if_neg gP] at ef
      rw [if_neg (by simp [gP])] at ih'
      simp (disch := omega) only [e155_0, e155_1, e155_2, e155_5, e155_8, e155_9, e155_10, e155_11, e155_14, e155_17, e155_20, e155_21, e155_22, e155_23, e155_24, e155_25, e155_28, e155_29, e155_30, e155_31, e155_34, e155_35, e155_36, e155_37, e155_41, e155_42, e155_45, e155_46, e155_47, e155_48, e155_49, e155_52, e155_53, e155_54, e155_58, e155_60, e155_63, e155_64, e155_67, e155_69, e155_70, e155_73, e155_75, e155_76, e155_77, e155_80, e155_83, e155_84, e155_85, e155_86, e155_87, e155_90, e155_91, e155_92, e155_96, e155_97, e155_100, e155_103, e155_104, e155_105, e155_108, e155_110, e155_111, e155_114, e155_115, e155_118, e155_120, e155_121, e155_124, e155_125, e155_128, e155_129, e155_130, e155_131, e155_134, e155_140, e155_143, e155_144, h1, h73, zg10_0, zp10_0, zg10_1, zp10_1, zg10_2, zp10_2, zg10_3, zp10_3, zg10_4, zp10_4, zg10_5, zp10_5, zg10_6, zp10_6, zg10_7, zp10_7, zg10_8, zp10_8, zg10_9, zp10_9, zg10_10, zp10_10, zg10_11, zp10_11, zg10_12, zp10_12, zg10_13, zp10_13, zg10_14, zp10_14, zg10_15, zp10_15, zg10_16, zp10_16, zg10_17, zp10_17, zg10_18, zp10_18, zg10_19, zp10_19, zg10_20, zp10_20, zg10_21, zp10_21, zg10_22, zp10_22, zg10_23, zp10_23, zg10_24, zp10_24, zg10_25, zp10_25, zg10_26, zp10_26, zg10_27, zp10_27, zg10_28, zp10_28, zg10_29, zp10_29, zg10_30, zp10_30, zg10_31, zp10_31, zg10_32, zp10_32, zrc_eq, zup_s, zup_n, zup_up, zal_i, zal_b, zal_z, zas_i, zas_b, zas_z, zan_eq, Option.toList_some, Option.toList_none, List.cons_append, List.nil_append, if_true, if_false, ite_true, ite_false, true_or, or_true, znI_le, if_neg, ef, z00, nI_1, Int32.add_zero]
      exact ih'
set_option maxHeartbeats 4000000 in
theorem hvK_np (ok : sK S) {k : Nat} : nSum (fun i => if (yPd S (tSq S T p 1 k) p 1 i && !yPd S (tSq S T p 0 k) p 0 i) = true then 1 else 0) S.1.1 = hvK S T p k := by
  unfold hvK
  symm
  apply nSum_ext ok.1.1
  intro i h1 h2
  rw [if_neg]
  intro z
  rw [Bool.and_eq_true] at z
  have := (yPd_in z.1).1
  omega
set_option maxHeartbeats 4000000 in
theorem c155_39 {yn m : Nat} (hyn : yn + 100 < 100000) (hm : m ≤ 30) (hy : (F 0).2.2.2.1 = nI yn) (ok : sK S) (hD3 : D 3) (hD4 : D 4) : ∀ (l k : Nat) (G : Nat → zTm) (su lo dr : Int32) (h : zH) (l5 : Option Value), l + k = m → zMR h S D G len at_ rp rj kp su lo dr ab be → G 3 = tSq S (F 0) p 1 k → G 4 = tSq S (F 0) p 0 k → (∀ s, s ≠ 3 → s ≠ 4 → G s = F s) → (∀ h' G', (∃ su lo dr, h' 53 = mObj len at_ rp rj (nI S.1.1) (nI S.2.1.1) kp su lo dr ab be) → pMz h' D G' → (∀ s, s ≠ 3 → s ≠ 4 → G' s = F s) → zMS h' → zfr (fun a => a = 53 ∨ (63 ≤ a ∧ a ≤ 74)) h h' → Q (some (.int (nI (nSum (hvK S (F 0) p) m)))) N h') → zE X 155 39 [some (.ref 53), some (.int p), some (.int (nI m)), some (.int (nI (nSum (hvK S (F 0) p) k))), some (.int (nI k)), l5] [] (N, 0, 0) h Q := by
  intro l
  induction l with
  | zero =>
    intro k G su lo dr h l5 hk hmr g3 g4 g0 K
    obtain rfl : k = m := by omega
    rw [e155_39]
    simp (disch := omega) only [e155_0, e155_1, e155_2, e155_5, e155_8, e155_9, e155_10, e155_11, e155_14, e155_17, e155_20, e155_21, e155_22, e155_23, e155_24, e155_25, e155_28, e155_29, e155_30, e155_31, e155_34, e155_35, e155_36, e155_37, e155_41, e155_42, e155_45, e155_46, e155_47, e155_48, e155_49, e155_52, e155_53, e155_54, e155_58, e155_60, e155_63, e155_64, e155_67, e155_69, e155_70, e155_73, e155_75, e155_76, e155_77, e155_80, e155_83, e155_84, e155_85, e155_86, e155_87, e155_90, e155_91, e155_92, e155_96, e155_97, e155_100, e155_103, e155_104, e155_105, e155_108, e155_110, e155_111, e155_114, e155_115, e155_118, e155_120, e155_121, e155_124, e155_125, e155_128, e155_129, e155_130, e155_131, e155_134, e155_137, e155_140, e155_143, e155_144, znI_le, if_pos]
    exact K h G ⟨_, _, _, hmr.1⟩ hmr.2.2.2.1 g0 hmr.2.2.2.2.2 zfr.rf
  | succ l ih =>
    intro k G su lo dr h l5 hk hmr g3 g4 g0 K
    have h1 := hmr.1
    unfold mObj at h1
    have E4 := fun Q' => c152 (X := X) (N := N) (Q := Q') (p := p) (hc := 0) (s := 4) (yn := yn + k) (by omega) hD4 (by omega) (by rw [g4]; exact tSq_y hy k) hmr
    rw [show nI 4 = (4 : Int32) from rfl] at E4
    rw [e155_39]
    simp (disch := omega) only [e155_0, e155_1, e155_2, e155_5, e155_8, e155_9, e155_10, e155_11, e155_14, e155_17, e155_20, e155_21, e155_22, e155_23, e155_24, e155_25, e155_28, e155_29, e155_30, e155_31, e155_34, e155_35, e155_36, e155_37, e155_41, e155_42, e155_45, e155_46, e155_47, e155_48, e155_49, e155_52, e155_53, e155_54, e155_58, e155_60, e155_63, e155_64, e155_67, e155_69, e155_70, e155_73, e155_75, e155_76, e155_77, e155_80, e155_83, e155_84, e155_85, e155_86, e155_87, e155_90, e155_91, e155_92, e155_96, e155_97, e155_100, e155_103, e155_104, e155_105, e155_108, e155_110, e155_111, e155_114, e155_115, e155_118, e155_120, e155_121, e155_124, e155_125, e155_128, e155_129, e155_130, e155_131, e155_134, e155_137, e155_140, e155_143, e155_144, h1, zrc_eq, zup_s, zup_n, zup_up, zal_i, zal_b, zal_z, zas_i, zas_b, zas_z, zan_eq, Option.toList_some, Option.toList_none, List.cons_append, List.nil_append, if_true, if_false, ite_true, ite_false, true_or, or_true, znI_le, if_neg]
    refine E4 _ (fun h' k1 k2 k3 k4 k5 => ?_)
    simp (disch := omega) only [e155_0, e155_1, e155_2, e155_5, e155_8, e155_9, e155_10, e155_11, e155_14, e155_17, e155_20, e155_21, e155_22, e155_23, e155_24, e155_25, e155_28, e155_29, e155_30, e155_31, e155_34, e155_35, e155_36, e155_37, e155_41, e155_42, e155_45, e155_46, e155_47, e155_48, e155_49, e155_52, e155_53, e155_54, e155_58, e155_60, e155_63, e155_64, e155_67, e155_69, e155_70, e155_73, e155_75, e155_76, e155_77, e155_80, e155_83, e155_84, e155_85, e155_86, e155_87, e155_90, e155_91, e155_92, e155_96, e155_97, e155_100, e155_103, e155_104, e155_105, e155_108, e155_110, e155_111, e155_114, e155_115, e155_118, e155_120, e155_121, e155_124, e155_125, e155_128, e155_129, e155_130, e155_131, e155_134, e155_137, e155_140, e155_143, e155_144, Option.toList_some, List.cons_append, List.nil_append, zc0]
    obtain ⟨qf, h74⟩ := k4.2.2.2
    refine c155_56 24 0 qf h' (by omega) k1 k3 h74 (fun j hj => absurd hj (Nat.not_lt_zero j)) (fun h2 q2 d1 d2 d3 => ?_)
    have F2 : zfr (fun a => a = 53 ∨ (63 ≤ a ∧ a ≤ 74)) h h2 := (k5.mono (fun a ha => by omega)).tr (d3.mono (fun a ha => by omega))
    have hm2 : zMR h2 S D (fUp G 4 (zYr S (G 4) (yPd S (G 4) p 0))) len at_ rp rj kp _ _ _ ab be := ⟨(d3 53 (by omega)).trans k1, hmr.2.1.kept2 F2 (by omega), ok, k2.kept d3 (by omega), hmr.2.2.2.2.1, by
      obtain ⟨r0, ⟨wf, hw⟩, ⟨pf, hp⟩, -⟩ := k4
      exact ⟨r0.kept d3 (by omega), ⟨wf, (d3 _ (by omega)).trans hw⟩, ⟨pf, (d3 _ (by omega)).trans hp⟩, ⟨q2, d1⟩⟩⟩
    have f3 : fUp G 4 (zYr S (G 4) (yPd S (G 4) p 0)) 3 = tSq S (F 0) p 1 k := (if_neg (by decide)).trans g3
    have f4 : fUp G 4 (zYr S (G 4) (yPd S (G 4) p 0)) 4 = tSq S (F 0) p 0 (k + 1) := by
      show (if 4 = 4 then _ else _) = _
      rw [if_pos rfl, g4]
      rfl
    have E3 := fun Q' => c152 (X := X) (N := N) (Q := Q') (p := p) (hc := 1) (s := 3) (yn := yn + k) (by omega) hD3 (by omega) (by rw [f3]; exact tSq_y hy k) hm2
    rw [show nI 3 = (3 : Int32) from rfl] at E3
    have h12 := hm2.1
    unfold mObj at h12
    simp (disch := omega) only [e155_0, e155_1, e155_2, e155_5, e155_8, e155_9, e155_10, e155_11, e155_14, e155_17, e155_20, e155_21, e155_22, e155_23, e155_24, e155_25, e155_28, e155_29, e155_30, e155_31, e155_34, e155_35, e155_36, e155_37, e155_41, e155_42, e155_45, e155_46, e155_47, e155_48, e155_49, e155_52, e155_53, e155_54, e155_58, e155_60, e155_63, e155_64, e155_67, e155_69, e155_70, e155_73, e155_75, e155_76, e155_77, e155_80, e155_83, e155_84, e155_85, e155_86, e155_87, e155_90, e155_91, e155_92, e155_96, e155_97, e155_100, e155_103, e155_104, e155_105, e155_108, e155_110, e155_111, e155_114, e155_115, e155_118, e155_120, e155_121, e155_124, e155_125, e155_128, e155_129, e155_130, e155_131, e155_134, e155_137, e155_140, e155_143, e155_144, h12, zrc_eq, zup_s, zup_n, zup_up, zal_i, zal_b, zal_z, zas_i, zas_b, zas_z, zan_eq, Option.toList_some, Option.toList_none, List.cons_append, List.nil_append, if_true, if_false, ite_true, ite_false, true_or, or_true]
    refine E3 _ (fun h3 j1 j2 j3 j4 j5 => ?_)
    rw [f3] at j2 j3
    rw [g4] at d2
    obtain ⟨pf, j73, jP⟩ := j3
    have e74 := (j5 74 (by omega)).trans d1
    simp (disch := omega) only [e155_0, e155_1, e155_2, e155_5, e155_8, e155_9, e155_10, e155_11, e155_14, e155_17, e155_20, e155_21, e155_22, e155_23, e155_24, e155_25, e155_28, e155_29, e155_30, e155_31, e155_34, e155_35, e155_36, e155_37, e155_41, e155_42, e155_45, e155_46, e155_47, e155_48, e155_49, e155_52, e155_53, e155_54, e155_58, e155_60, e155_63, e155_64, e155_67, e155_69, e155_70, e155_73, e155_75, e155_76, e155_77, e155_80, e155_83, e155_84, e155_85, e155_86, e155_87, e155_90, e155_91, e155_92, e155_96, e155_97, e155_100, e155_103, e155_104, e155_105, e155_108, e155_110, e155_111, e155_114, e155_115, e155_118, e155_120, e155_121, e155_124, e155_125, e155_128, e155_129, e155_130, e155_131, e155_134, e155_137, e155_140, e155_143, e155_144, Option.toList_some, List.cons_append, List.nil_append, zc0]
    have key := c155_94 (X := X) (N := N) (Q := Q) (S := S) (s0 := nSum (hvK S (F 0) p) k) (l1 := some (.int p)) (l2 := some (.int (nI m))) (l4 := some (.int (nI k))) ok.1.1 j1 j73 jP e74 d2 S.1.1 0 (by omega)
    rw [hvK_np ok] at key
    refine Eq.mpr key ?_
    simp (disch := omega) only [e155_0, e155_1, e155_2, e155_5, e155_8, e155_9, e155_10, e155_11, e155_14, e155_17, e155_20, e155_21, e155_22, e155_23, e155_24, e155_25, e155_28, e155_29, e155_30, e155_31, e155_34, e155_35, e155_36, e155_37, e155_41, e155_42, e155_45, e155_46, e155_47, e155_48, e155_49, e155_52, e155_53, e155_54, e155_58, e155_60, e155_63, e155_64, e155_67, e155_69, e155_70, e155_73, e155_75, e155_76, e155_77, e155_80, e155_83, e155_84, e155_85, e155_86, e155_87, e155_90, e155_91, e155_92, e155_96, e155_97, e155_100, e155_103, e155_104, e155_105, e155_108, e155_110, e155_111, e155_114, e155_115, e155_118, e155_120, e155_121, e155_124, e155_125, e155_128, e155_129, e155_130, e155_131, e155_134, e155_137, e155_140, e155_143, e155_144, nI_1]
    have F3 := F2.tr (j5.mono (R := fun a => a = 53 ∨ (63 ≤ a ∧ a ≤ 74)) (fun a ha => by omega))
    refine ih (k + 1) _ _ _ _ h3 _ (by omega) ⟨j1, hmr.2.1.kept2 F3 (by omega), ok, j2, hmr.2.2.2.2.1, j4⟩ ?_ ?_ (fun s s3 s4 => ?_) (fun h4 G' c1 c2 c3 c4 c5 => K h4 G' c1 c2 c3 c4 (F3.tr c5))
    · show (if 3 = 3 then _ else _) = _
      rw [if_pos rfl]
      rfl
    · show (if 4 = 3 then _ else _) = _
      rw [if_neg (by decide)]
      exact f4
    · show (if s = 3 then _ else (if s = 4 then _ else G s)) = _
      rw [if_neg s3, if_neg s4]
      exact g0 s s3 s4
set_option maxHeartbeats 4000000 in
theorem zn30 {v : Int32} : ((1 : Int64) ≤ v.toInt64 ∧ v.toInt64 ≤ 30) = (1 ≤ v ∧ v ≤ 30) := by
  rw [show (1 : Int64) = (1 : Int32).toInt64 from by decide, show (30 : Int64) = (30 : Int32).toInt64 from by decide, zl_le, zl_le]
set_option maxHeartbeats 4000000 in
theorem c155 {yn : Nat} (hyn : yn + 100 < 100000) (hy : (F 0).2.2.2.1 = nI yn) (hD : ∀ s, D s → s ≤ 2) (hm : zMR h S D F len at_ rp rj kp su lo dr ab be) (K : ∀ h', (∃ su lo dr, h' 53 = mObj len at_ rp rj (nI S.1.1) (nI S.2.1.1) kp su lo dr ab be) → pMz h' D F → zMS h' → zfr (fun a => a = 53 ∨ (63 ≤ a ∧ a ≤ 74)) h h' → Q (some (.int (aHaving S (F 0) p n))) N h') : zE X 155 0 [some (.ref 53), some (.int p), some (.int n), none, none, none] [] (N, 0, 0) h Q := by
  have hm' := hm
  obtain ⟨h1, hs, ok, hT, hD0, ms⟩ := hm
  have h1' := h1
  unfold mObj at h1
  simp only [e155_0, e155_1, e155_2, e155_5, e155_8, e155_9, e155_10, e155_11, e155_14, e155_17, e155_20, e155_21, e155_23, e155_24, e155_25, e155_28, e155_29, e155_30, e155_31, e155_34, e155_35, e155_36, e155_37, e155_41, e155_42, e155_45, e155_46, e155_47, e155_48, e155_49, e155_52, e155_53, e155_54, e155_58, e155_60, e155_63, e155_64, e155_67, e155_69, e155_70, e155_73, e155_75, e155_76, e155_77, e155_80, e155_83, e155_84, e155_85, e155_86, e155_87, e155_90, e155_91, e155_92, e155_96, e155_97, e155_100, e155_103, e155_104, e155_105, e155_108, e155_110, e155_111, e155_114, e155_115, e155_118, e155_120, e155_121, e155_124, e155_125, e155_128, e155_129, e155_130, e155_131, e155_134, e155_137, e155_140, e155_143, e155_144, h1, c122 h1', c108, zrc_eq, zup_s, zup_n, zup_up, zal_i, zal_b, zal_z, zas_i, zas_b, zas_z, zan_eq, Option.toList_some, Option.toList_none, List.cons_append, List.nil_append, if_true, if_false, ite_true, ite_false, true_or, or_true, z10, z00, zn30]
  unfold aHaving at K
  by_cases g1 : isPan S.2.1.1 p
  · rw [if_pos g1]
    by_cases g2 : 1 ≤ n ∧ n ≤ 30
    · rw [if_pos g2]
      rw [if_pos ⟨g1, g2⟩] at K
      obtain ⟨m, hm1, hm2, rfl⟩ := zrange (lo := 1) (hi := 30) (by decide) g2.1 g2.2 (by decide)
      rw [nI_clamp (by omega)] at K
      have E3 := fun Q' => c156 (X := X) (N := N) (Q := Q') (u := 0) (v := 3) (by omega) (by omega) (by omega) hD0 h1' hT
      rw [nI_0, show nI 3 = (3 : Int32) from rfl] at E3
      simp (disch := omega) only [e155_0, e155_1, e155_2, e155_5, e155_8, e155_9, e155_10, e155_11, e155_14, e155_17, e155_20, e155_21, e155_22, e155_23, e155_24, e155_25, e155_28, e155_29, e155_30, e155_31, e155_34, e155_35, e155_36, e155_37, e155_41, e155_42, e155_45, e155_46, e155_47, e155_48, e155_49, e155_52, e155_53, e155_54, e155_58, e155_60, e155_63, e155_64, e155_67, e155_69, e155_70, e155_73, e155_75, e155_76, e155_77, e155_80, e155_83, e155_84, e155_85, e155_86, e155_87, e155_90, e155_91, e155_92, e155_96, e155_97, e155_100, e155_103, e155_104, e155_105, e155_108, e155_110, e155_111, e155_114, e155_115, e155_118, e155_120, e155_121, e155_124, e155_125, e155_128, e155_129, e155_130, e155_131, e155_134, e155_137, e155_140, e155_143, e155_144, h1, zrc_eq, zup_s, zup_n, zup_up, zal_i, zal_b, zal_z, zas_i, zas_b, zas_z, zan_eq, Option.toList_some, Option.toList_none, List.cons_append, List.nil_append, if_true, if_false, ite_true, ite_false, true_or, or_true]
      refine E3 _ (fun h2 a1 a2 => ?_)
      have e2' := (a2 53 (by omega)).trans h1'
      have e2 := e2'
      unfold mObj at e2
      have E4 := fun Q' => c156 (X := X) (N := N) (Q := Q') (u := 0) (v := 4) (by omega) (by omega) (by omega) (Or.inl hD0) e2' a1
      rw [nI_0, show nI 4 = (4 : Int32) from rfl] at E4
      simp (disch := omega) only [e155_0, e155_1, e155_2, e155_5, e155_8, e155_9, e155_10, e155_11, e155_14, e155_17, e155_20, e155_21, e155_22, e155_23, e155_24, e155_25, e155_28, e155_29, e155_30, e155_31, e155_34, e155_35, e155_36, e155_37, e155_41, e155_42, e155_45, e155_46, e155_47, e155_48, e155_49, e155_52, e155_53, e155_54, e155_58, e155_60, e155_63, e155_64, e155_67, e155_69, e155_70, e155_73, e155_75, e155_76, e155_77, e155_80, e155_83, e155_84, e155_85, e155_86, e155_87, e155_90, e155_91, e155_92, e155_96, e155_97, e155_100, e155_103, e155_104, e155_105, e155_108, e155_110, e155_111, e155_114, e155_115, e155_118, e155_120, e155_121, e155_124, e155_125, e155_128, e155_129, e155_130, e155_131, e155_134, e155_137, e155_140, e155_143, e155_144, Option.toList_none, List.nil_append, e2, zrc_eq, zup_s, zup_n, zup_up, zal_i, zal_b, zal_z, zas_i, zas_b, zas_z, zan_eq, Option.toList_some, Option.toList_none, List.cons_append, List.nil_append, if_true, if_false, ite_true, ite_false, true_or, or_true]
      refine E4 _ (fun h3 b1 b2 => ?_)
      have F3 : zfr (fun a => a = 53 ∨ (63 ≤ a ∧ a ≤ 74)) h h3 := (a2.mono (fun a ha => by omega)).tr (b2.mono (fun a ha => by omega))
      simp (disch := omega) only [e155_0, e155_1, e155_2, e155_5, e155_8, e155_9, e155_10, e155_11, e155_14, e155_17, e155_20, e155_21, e155_22, e155_23, e155_24, e155_25, e155_28, e155_29, e155_30, e155_31, e155_34, e155_35, e155_36, e155_37, e155_41, e155_42, e155_45, e155_46, e155_47, e155_48, e155_49, e155_52, e155_53, e155_54, e155_58, e155_60, e155_63, e155_64, e155_67, e155_69, e155_70, e155_73, e155_75, e155_76, e155_77, e155_80, e155_83, e155_84, e155_85, e155_86, e155_87, e155_90, e155_91, e155_92, e155_96, e155_97, e155_100, e155_103, e155_104, e155_105, e155_108, e155_110, e155_111, e155_114, e155_115, e155_118, e155_120, e155_121, e155_124, e155_125, e155_128, e155_129, e155_130, e155_131, e155_134, e155_137, e155_140, e155_143, e155_144, Option.toList_none, List.nil_append, zc0]
      refine c155_39 (F := F) (D := fun s => (D s ∨ s = 3) ∨ s = 4) hyn hm2 hy ok (Or.inl (Or.inr rfl)) (Or.inr rfl) m 0 _ su lo dr h3 none (by omega) ⟨(b2 53 (by omega)).trans e2', hs.kept2 ((a2.mono (R := fun a => 63 ≤ a ∧ a ≤ 67) (fun a ha => by omega)).tr b2) (by omega), ok, b1, Or.inl (Or.inl hD0), (ms.kept a2 (by omega)).kept b2 (by omega)⟩ ?_ ?_ (fun s s3 s4 => ?_) (fun h4 G' c1 c2 c3 c4 c5 => K h4 c1 (c2.sub (fun s h5 hs => ⟨Or.inl (Or.inl hs), c3 s (by have := hD s hs; omega) (by have := hD s hs; omega)⟩)) c4 (F3.tr c5))
      · show (if 3 = 4 then _ else (if 3 = 3 then F 0 else _)) = _
        rw [if_neg (by decide), if_pos rfl]
        rfl
      · show (if 4 = 4 then (if 0 = 3 then _ else F 0) else _) = _
        rw [if_pos rfl, if_neg (by decide)]
        rfl
      · show (if s = 4 then _ else (if s = 3 then _ else F s)) = _
        rw [if_neg s4, if_neg s3]
    · rw [if_neg g2]
      rw [if_neg (fun z => g2 z.2)] at K
      exact K h ⟨_, _, _, h1'⟩ hT ms zfr.rf
  · rw [if_neg g1]
    rw [if_neg (fun z => g1 z.1)] at K
    exact K h ⟨_, _, _, h1'⟩ hT ms zfr.rf
end C58
