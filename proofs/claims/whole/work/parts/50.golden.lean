-- golden
section C50
variable {X : Nat × (Nat → Int32)} {N : Nat} {h : zH} {Q : Option Value → Nat → zH → Prop} {S : zSh} {T : zTm} {F : Nat → zTm} {D : Nat → Prop} {ld dd : Nat} {j p n m w kp : Int32}
variable {len at_ rp rj np_ nj_ su lo dr : Int32} {ab be : Int64}
/-- the first place, from u on, whose rank is n or more -/
def fnA (R : Nat → Nat) (n : Nat) : Nat → Nat → Nat
  | 0, u => u
  | m + 1, u => if R u < n then fnA R n m (u + 1) else u
set_option maxHeartbeats 2000000 in
theorem fnA_lt {R : Nat → Nat} {n : Nat} : ∀ m u, (∃ v, u ≤ v ∧ v < u + m ∧ n ≤ R v) → fnA R n m u < u + m ∧ n ≤ R (fnA R n m u)
  | 0, u, ⟨v, h1, h2, _⟩ => by omega
  | m + 1, u, ⟨v, h1, h2, h3⟩ => by
    rw [fnA]
    split
    · next g =>
      have : v ≠ u := fun e => by rw [e] at h3; omega
      have := fnA_lt m (u + 1) ⟨v, by omega, by omega, h3⟩
      exact ⟨by omega, this.2⟩
    · next g => exact ⟨by omega, by omega⟩
set_option maxHeartbeats 2000000 in
theorem fnA_no {R : Nat → Nat} {n : Nat} : ∀ m u, (∀ v, u ≤ v → v < u + m → R v < n) → fnA R n m u = u + m
  | 0, u, _ => rfl
  | m + 1, u, h => by
    rw [fnA, if_pos (h u (Nat.le_refl _) (by omega)), fnA_no m (u + 1) (fun v h1 h2 => h v (by omega) (by omega))]
    omega
set_option maxHeartbeats 2000000 in
theorem c91_loop {N' n : Nat} {f g : Nat → Nat} {l2 : Option Value} (hg : pRn h 41 N' g) (hr : pRn h 37 N' f) (hin : ∀ k, k < N' → ∃ j, j < N' ∧ f j = g k) (hn : n ≤ 24) : ∀ m u, m + u = N' → fnA (rT g f N') n m u < N' → zE X 91 2 [some (.ref 41), some (.ref 37), some (.int (nI n)), some (.int (nI u))] [] (N, 0, 0) h Q = Q (some (.int (nI (g (fnA (rT g f N') n m u))))) N h := by
  obtain ⟨o1, o2⟩ := hg.obj
  intro m
  induction m with
  | zero =>
    intro u hu hl
    rw [fnA] at hl
    omega
  | succ m ih =>
    intro u hu hl
    rw [fnA] at hl ⊢
    have q1 := rT_lt (f := g) (g := f) hin (k := u) (by omega)
    rw [e91_2]
    by_cases g1 : rT g f N' u < n
    · rw [if_pos g1] at hl ⊢
      simp (disch := omega) only [e91_0, e91_1, e91_3, e91_4, e91_7, e91_10, e91_11, e91_12, e91_13, e91_16, e91_17, e91_20, e91_21, e91_22, e91_25, e91_26, e91_29, e91_32, e91_34, o1, zg2_0, zp2_0, zg2_1, zp2_1, zg2_2, zp2_2, zg2_3, zp2_3, zrc_eq, zup_s, zup_n, zup_up, zal_i, zal_b, zal_z, zas_i, zas_b, zas_z, zan_eq, Option.toList_some, Option.toList_none, List.cons_append, List.nil_append, if_true, if_false, ite_true, ite_false, true_or, or_true, c52 hg hr hin, znI_le, znI_lt, if_neg, if_pos, nI_1]
      exact ih (u + 1) (by omega) hl
    · rw [if_neg g1] at hl ⊢
      simp (disch := omega) only [e91_0, e91_1, e91_3, e91_4, e91_7, e91_10, e91_11, e91_12, e91_13, e91_16, e91_17, e91_20, e91_21, e91_22, e91_25, e91_26, e91_29, e91_32, e91_34, o1, zg2_0, zp2_0, zg2_1, zp2_1, zg2_2, zp2_2, zg2_3, zp2_3, zrc_eq, zup_s, zup_n, zup_up, zal_i, zal_b, zal_z, zas_i, zas_b, zas_z, zan_eq, Option.toList_some, Option.toList_none, List.cons_append, List.nil_append, if_true, if_false, ite_true, ite_false, true_or, or_true, c52 hg hr hin, c46 hg, znI_le, znI_lt, if_neg]
set_option maxHeartbeats 2000000 in
theorem c91 {N' n : Nat} {f g : Nat → Nat} (hg : pRn h 41 N' g) (hr : pRn h 37 N' f) (hin : ∀ k, k < N' → ∃ j, j < N' ∧ f j = g k) (hn : n ≤ 24) (hl : fnA (rT g f N') n N' 0 < N') : zE X 91 0 [some (.ref 41), some (.ref 37), some (.int (nI n)), none] [] (N, 0, 0) h Q = Q (some (.int (nI (g (fnA (rT g f N') n N' 0))))) N h := by
  simp (disch := omega) only [e91_0, e91_1, e91_3, e91_4, e91_7, e91_10, e91_11, e91_12, e91_13, e91_16, e91_17, e91_20, e91_21, e91_22, e91_25, e91_26, e91_29, e91_32, e91_34, zc0]
  exact c91_loop (l2 := none) hg hr hin hn N' 0 (by omega) hl
/-- whether the judge is right in draw k -/
def gR (S : zSh) (T : zTm) (j : Nat) (p : Int32) (n k : Nat) : Nat := if sW S (oF S T p (nI k) (n - 1)) < sW S (oF S T (1 <<< (nI j &&& 31)) (nI k) (fnA (rT (oF S T (1 <<< (nI j &&& 31)) (nI k)) (oF S T p (nI k)) (oN S T)) n (oN S T) 0)) then 1 else 0
set_option maxHeartbeats 2000000 in
theorem fnA_ok {p q d e : Int32} {n : Nat} (hn : n < oN S T) : fnA (rT (oF S T q e) (oF S T p d) (oN S T)) n (oN S T) 0 < oN S T := by
  have hO := oOkN (S := S) (T := T) (p := p) (d := d)
  obtain ⟨v, hv, e1⟩ := oIn (S := S) (T := T) (p := p) (d := d) (q := q) (e := e) n hn
  have hin := oIn (S := S) (T := T) (p := q) (d := e) (q := p) (e := d) v hv
  obtain ⟨a1, a2⟩ := zIx_lt _ hin
  have e2 : rT (oF S T q e) (oF S T p d) (oN S T) v = n := hO.2.2.2 _ _ a1 hn (a2.trans e1)
  have := fnA_lt (R := rT (oF S T q e) (oF S T p d) (oN S T)) (n := n) (oN S T) 0 ⟨v, by omega, by omega, by omega⟩
  omega
set_option maxHeartbeats 2000000 in
theorem c90_loop {j n m : Nat} (hn1 : 1 ≤ n) (hn : n < oN S T) (hm : m ≤ 100) : ∀ (l k : Nat) (h : zH) (l7 : Option Value), l + k = m → zCR h ld dd kp S T → (∀ h', zCS h' → zcf h h' → Q (some (.int (nI (nSum (gR S T j p n) m)))) N h') → zE X 90 6 [some (.ref 0), some (.int (nI j)), some (.int p), some (.int (nI n)), some (.int (nI m)), some (.int (nI (nSum (gR S T j p n) k))), some (.int (nI k)), l7] [] (N, 0, 0) h Q := by
  intro l
  induction l with
  | zero =>
    intro k h l7 hk hc K
    obtain rfl : k = m := by omega
    rw [e90_6]
    simp (disch := omega) only [e90_0, e90_1, e90_3, e90_4, e90_8, e90_10, e90_13, e90_14, e90_17, e90_18, e90_21, e90_22, e90_25, e90_26, e90_28, e90_29, e90_32, e90_33, e90_36, e90_37, e90_40, e90_41, e90_44, e90_45, e90_46, e90_47, e90_49, e90_50, e90_53, e90_54, e90_57, e90_58, e90_61, e90_62, e90_65, e90_67, e90_68, e90_71, e90_73, e90_76, e90_77, e90_80, e90_81, e90_84, e90_85, e90_86, e90_87, e90_90, e90_93, e90_96, e90_99, e90_102, e90_105, e90_107, znI_le, if_pos]
    exact K h hc.2.2.2.2.2 zfr.rf
  | succ l ih =>
    intro k h l7 hk hc K
    have hc' := hc
    obtain ⟨h0, hd, hs, ok, ht, cs⟩ := hc
    unfold pObj at h0
    obtain ⟨x, pl, po, ra, q1, -⟩ := cs.1
    obtain ⟨x2, pl2, po2, ra2, q2, -⟩ := cs.2.1
    rw [e90_6]
    simp (disch := omega) only [e90_0, e90_1, e90_3, e90_4, e90_8, e90_10, e90_13, e90_14, e90_17, e90_18, e90_21, e90_22, e90_25, e90_26, e90_28, e90_29, e90_32, e90_33, e90_36, e90_37, e90_40, e90_41, e90_44, e90_45, e90_46, e90_47, e90_49, e90_50, e90_53, e90_54, e90_57, e90_58, e90_61, e90_62, e90_65, e90_67, e90_68, e90_71, e90_73, e90_76, e90_77, e90_80, e90_81, e90_84, e90_85, e90_86, e90_87, e90_90, e90_93, e90_96, e90_99, e90_102, e90_105, e90_107, h0, q1, zg9_0, zp9_0, zg9_1, zp9_1, zg9_2, zp9_2, zg9_3, zp9_3, zg9_4, zp9_4, zg9_5, zp9_5, zg9_6, zp9_6, zg9_7, zp9_7, zg9_8, zp9_8, zg9_9, zp9_9, zg9_10, zp9_10, zg9_11, zp9_11, zg9_12, zp9_12, zg9_13, zp9_13, zg9_14, zp9_14, zg9_15, zp9_15, zg9_16, zp9_16, zrc_eq, zup_s, zup_n, zup_up, zal_i, zal_b, zal_z, zas_i, zas_b, zas_z, zan_eq, Option.toList_some, Option.toList_none, List.cons_append, List.nil_append, if_true, if_false, ite_true, ite_false, true_or, or_true, znI_le, if_neg]
    refine c42n (Or.inl rfl) hc' cs.1 (fun h' a1 a2 => ?_)
    have F1 : zcf h h' := a2.mono (fun a ha => by omega)
    have C1 : zCS h' := cs.two (a2.mono (fun a ha => by omega)) a1.r0 (cs.2.1.kept a2 (by omega))
    have e0 := (F1 0 (by omega)).trans h0
    have e41 := (a2 41 (by omega)).trans q2
    simp (disch := omega) only [e90_0, e90_1, e90_3, e90_4, e90_8, e90_10, e90_13, e90_14, e90_17, e90_18, e90_21, e90_22, e90_25, e90_26, e90_28, e90_29, e90_32, e90_33, e90_36, e90_37, e90_40, e90_41, e90_44, e90_45, e90_46, e90_47, e90_49, e90_50, e90_53, e90_54, e90_57, e90_58, e90_61, e90_62, e90_65, e90_67, e90_68, e90_71, e90_73, e90_76, e90_77, e90_80, e90_81, e90_84, e90_85, e90_86, e90_87, e90_90, e90_93, e90_96, e90_99, e90_102, e90_105, e90_107, Option.toList_none, List.nil_append, e0, e41, zg9_0, zp9_0, zg9_1, zp9_1, zg9_2, zp9_2, zg9_3, zp9_3, zg9_4, zp9_4, zg9_5, zp9_5, zg9_6, zp9_6, zg9_7, zp9_7, zg9_8, zp9_8, zg9_9, zp9_9, zg9_10, zp9_10, zg9_11, zp9_11, zg9_12, zp9_12, zg9_13, zp9_13, zg9_14, zp9_14, zg9_15, zp9_15, zg9_16, zp9_16, zrc_eq, zup_s, zup_n, zup_up, zal_i, zal_b, zal_z, zas_i, zas_b, zas_z, zan_eq, Option.toList_some, Option.toList_none, List.cons_append, List.nil_append, if_true, if_false, ite_true, ite_false, true_or, or_true]
    refine c42n (Or.inr rfl) (hc'.kept F1 C1) C1.2.1 (fun h2 b1 b2 => ?_)
    have F2 : zcf h h2 := F1.tr (b2.mono (fun a ha => by omega))
    have C2 : zCS h2 := C1.two (b2.mono (fun a ha => by omega)) (C1.1.kept b2 (by omega)) b1.r0
    have R2 := hc'.kept F2 C2
    have a12 := a1.kept b2 (by omega)
    have e02 := (F2 0 (by omega)).trans h0
    obtain ⟨o1, o2⟩ := a12.obj
    obtain ⟨o3, -⟩ := b1.obj
    obtain ⟨v2, v3, v4, v5, v6, v7, v8, v9, v10, v11, v12, v13, v14, v15, s1, -⟩ := R2.2.2.1.wo
    have hO := oOkN (S := S) (T := T) (p := p) (d := nI k)
    have hO2 := oOkN (S := S) (T := T) (p := 1 <<< (nI j &&& 31)) (d := nI k)
    have hl := fnA_ok (S := S) (T := T) (q := 1 <<< (nI j &&& 31)) (e := nI k) (p := p) (d := nI k) hn
    have w1 := (hO2.2.1 _ hl).1
    have w2 := (hO.2.1 (n - 1) (by omega)).1
    have l1 := (ok.wo w1).2
    have l2 := (ok.wo w2).2
    have en : nI n - 1 = nI (n - 1) := pk_sub (b := 1) hn1
    have E1 := fun Q' => c91 (X := X) (N := N) (Q := Q') (n := n) b1 a12 oIn (by omega) hl
    have E2 := fun Q' => c46 (X := X) (N := N) (Q := Q') a12 (k := n - 1) (by omega)
    have E3 := fun Q' => c72 (X := X) (N := N) (Q := Q') R2.2.2.1 ok w1
    have E4 := fun Q' => c72 (X := X) (N := N) (Q := Q') R2.2.2.1 ok w2
    simp (disch := omega) only [e90_0, e90_1, e90_3, e90_4, e90_8, e90_10, e90_13, e90_14, e90_17, e90_18, e90_21, e90_22, e90_25, e90_26, e90_28, e90_29, e90_32, e90_33, e90_36, e90_37, e90_40, e90_41, e90_44, e90_45, e90_46, e90_47, e90_49, e90_50, e90_53, e90_54, e90_57, e90_58, e90_61, e90_62, e90_65, e90_67, e90_68, e90_71, e90_73, e90_76, e90_77, e90_80, e90_81, e90_84, e90_85, e90_86, e90_87, e90_90, e90_96, e90_99, e90_102, e90_105, e90_107, Option.toList_none, List.nil_append, e02, o1, o3, s1, zg9_0, zp9_0, zg9_1, zp9_1, zg9_2, zp9_2, zg9_3, zp9_3, zg9_4, zp9_4, zg9_5, zp9_5, zg9_6, zp9_6, zg9_7, zp9_7, zg9_8, zp9_8, zg9_9, zp9_9, zg9_10, zp9_10, zg9_11, zp9_11, zg9_12, zp9_12, zg9_13, zp9_13, zg9_14, zp9_14, zg9_15, zp9_15, zg9_16, zp9_16, zrc_eq, zup_s, zup_n, zup_up, zal_i, zal_b, zal_z, zas_i, zas_b, zas_z, zan_eq, Option.toList_some, Option.toList_none, List.cons_append, List.nil_append, if_true, if_false, ite_true, ite_false, true_or, or_true, E1, en, E2, E3, E4]
    simp (disch := omega) only [e90_93, znI_le]
    have ih' := fun l7 => ih (k + 1) h2 l7 (by omega) R2 (fun h3 d1 d2 => K h3 d1 (F2.tr d2))
    rw [nSum] at ih'
    by_cases g : sW S (oF S T p (nI k) (n - 1)) < sW S (oF S T (1 <<< (nI j &&& 31)) (nI k) (fnA (rT (oF S T (1 <<< (nI j &&& 31)) (nI k)) (oF S T p (nI k)) (oN S T)) n (oN S T) 0))
    · rw [show gR S T j p n k = 1 from if_pos g] at ih'
      rw [if_neg (by omega)]
      simp (disch := omega) only [e90_0, e90_1, e90_3, e90_4, e90_8, e90_10, e90_13, e90_14, e90_17, e90_18, e90_21, e90_22, e90_25, e90_26, e90_28, e90_29, e90_32, e90_33, e90_36, e90_37, e90_40, e90_41, e90_44, e90_45, e90_46, e90_47, e90_49, e90_50, e90_53, e90_54, e90_57, e90_58, e90_61, e90_62, e90_65, e90_67, e90_68, e90_71, e90_73, e90_76, e90_77, e90_80, e90_81, e90_84, e90_85, e90_86, e90_87, e90_90, e90_93, e90_96, e90_99, e90_102, e90_105, e90_107, nI_1]
      exact ih' _
    · rw [show gR S T j p n k = 0 from if_neg g, Nat.add_zero] at ih'
      rw [if_pos (by omega)]
      simp (disch := omega) only [e90_0, e90_1, e90_3, e90_4, e90_8, e90_10, e90_13, e90_14, e90_17, e90_18, e90_21, e90_22, e90_25, e90_26, e90_28, e90_29, e90_32, e90_33, e90_36, e90_37, e90_40, e90_41, e90_44, e90_45, e90_46, e90_47, e90_49, e90_50, e90_53, e90_54, e90_57, e90_58, e90_61, e90_62, e90_65, e90_67, e90_68, e90_71, e90_73, e90_76, e90_77, e90_80, e90_81, e90_84, e90_85, e90_86, e90_87, e90_90, e90_93, e90_96, e90_99, e90_102, e90_105, e90_107, nI_1]
      exact ih' _
set_option maxHeartbeats 2000000 in
theorem c90 {j n m : Nat} (hn1 : 1 ≤ n) (hn : n < oN S T) (hm : m ≤ 100) (hc : zCR h ld dd kp S T) (K : ∀ h', zCS h' → zcf h h' → Q (some (.int (nI (nSum (gR S T j p n) m)))) N h') : zE X 90 0 [some (.ref 0), some (.int (nI j)), some (.int p), some (.int (nI n)), some (.int (nI m)), none, none, none] [] (N, 0, 0) h Q := by
  simp (disch := omega) only [e90_0, e90_1, e90_3, e90_4, e90_8, e90_10, e90_13, e90_14, e90_17, e90_18, e90_21, e90_22, e90_25, e90_26, e90_28, e90_29, e90_32, e90_33, e90_36, e90_37, e90_40, e90_41, e90_44, e90_45, e90_46, e90_47, e90_49, e90_50, e90_53, e90_54, e90_57, e90_58, e90_61, e90_62, e90_65, e90_67, e90_68, e90_71, e90_73, e90_76, e90_77, e90_80, e90_81, e90_84, e90_85, e90_86, e90_87, e90_90, e90_93, e90_96, e90_99, e90_102, e90_105, e90_107, zc0]
  exact c90_loop hn1 hn hm m 0 h none (by omega) hc K
def aGolden (S : zSh) (T : zTm) (j p n m w : Int32) : Int32 := if isNo S.2.1.1 j ∧ isPan S.2.1.1 p ∧ (1 ≤ n ∧ n ≤ 23) ∧ (1 ≤ m ∧ m ≤ 100) ∧ (0 ≤ w ∧ w ≤ 1) then (if oN S T ≤ n.toNatClampNeg then 0 else if w = 1 then m else nI (nSum (gR S T j.toNatClampNeg p n.toNatClampNeg) m.toNatClampNeg)) else -1
set_option maxHeartbeats 2000000 in
theorem c89 (hc : zCR h ld dd kp S T) (K : ∀ h', zCS h' → zcf h h' → Q (some (.int (aGolden S T j p n m w))) N h') : zE X 89 0 [some (.ref 0), some (.int j), some (.int p), some (.int n), some (.int m), some (.int w)] [] (N, 0, 0) h Q := by
  have hc' := hc
  obtain ⟨h0, hd, hs, ok, ht, cs⟩ := hc
  have h0' := h0
  unfold pObj at h0
  simp only [e89_0, e89_1, e89_2, e89_5, e89_8, e89_9, e89_10, e89_13, e89_16, e89_17, e89_18, e89_20, e89_23, e89_26, e89_28, e89_29, e89_31, e89_34, e89_37, e89_39, e89_40, e89_41, e89_44, e89_47, e89_48, e89_50, e89_53, e89_54, e89_57, e89_60, e89_61, e89_64, e89_65, e89_66, e89_68, e89_69, e89_72, e89_74, e89_77, e89_78, e89_79, e89_80, e89_81, e89_83, e89_86, h0, c36 h0' hs, c41 h0' hs, c13, zrc_eq, zup_s, zup_n, zup_up, zal_i, zal_b, zal_z, zas_i, zas_b, zas_z, zan_eq, Option.toList_some, Option.toList_none, List.cons_append, List.nil_append, if_true, if_false, ite_true, ite_false, true_or, or_true, z10, z00]
  unfold aGolden at K
  by_cases g1 : isNo S.2.1.1 j
  · rw [if_pos g1]
    by_cases g2 : isPan S.2.1.1 p
    · rw [if_pos g2]
      by_cases g3 : 1 ≤ n ∧ n ≤ 23
      · rw [if_pos g3]
        by_cases g4 : 1 ≤ m ∧ m ≤ 100
        · rw [if_pos g4]
          by_cases g5 : 0 ≤ w ∧ w ≤ 1
          · rw [if_pos g5]
            rw [if_pos ⟨g1, g2, g3, g4, g5⟩] at K
            obtain ⟨jn, hj, rfl⟩ := g1.nat (by have := ok.2.1.1; omega)
            obtain ⟨nn, hn1, hn2, rfl⟩ := zrange (lo := 1) (hi := 23) (by decide) g3.1 g3.2 (by decide)
            obtain ⟨mn, hm1, hm2, rfl⟩ := zrange (lo := 1) (hi := 100) (by decide) g4.1 g4.2 (by decide)
            have en : (nI nn).toNatClampNeg = nn := nI_clamp (by omega)
            have em : (nI mn).toNatClampNeg = mn := nI_clamp (by omega)
            have ej : (nI jn).toNatClampNeg = jn := nI_clamp (by have := ok.2.1.1; omega)
            rw [en, em, ej] at K
            have on24 : oN S T ≤ 24 := by have := (oOkN (S := S) (T := T) (p := 0) (d := 0)).1; have := ok.1.1; omega
            obtain ⟨fs, ht1⟩ := ht.obj
            by_cases g6 : oN S T ≤ nn
            · rw [if_pos g6] at K
              simp (disch := omega) only [e89_0, e89_1, e89_2, e89_5, e89_8, e89_9, e89_10, e89_13, e89_16, e89_17, e89_18, e89_20, e89_23, e89_26, e89_28, e89_29, e89_31, e89_34, e89_37, e89_39, e89_40, e89_41, e89_44, e89_47, e89_48, e89_49, e89_50, e89_53, e89_54, e89_57, e89_60, e89_61, e89_64, e89_65, e89_66, e89_68, e89_69, e89_72, e89_74, e89_77, e89_78, e89_79, e89_80, e89_81, e89_83, e89_86, h0, ht1, zg9_0, zp9_0, zg9_1, zp9_1, zg9_2, zp9_2, zg9_3, zp9_3, zg9_4, zp9_4, zg9_5, zp9_5, zg9_6, zp9_6, zg9_7, zp9_7, zg9_8, zp9_8, zg9_9, zp9_9, zg9_10, zp9_10, zg9_11, zp9_11, zg9_12, zp9_12, zg9_13, zp9_13, zg9_14, zp9_14, zg9_15, zp9_15, zg9_16, zp9_16, zrc_eq, zup_s, zup_n, zup_up, zal_i, zal_b, zal_z, zas_i, zas_b, zas_z, zan_eq, Option.toList_some, Option.toList_none, List.cons_append, List.nil_append, if_true, if_false, ite_true, ite_false, true_or, or_true, c85 hs ok ht, znI_lt, if_neg]
              exact K h cs zfr.rf
            · rw [if_neg g6] at K
              by_cases g7 : w = 1
              · rw [if_pos g7] at K
                simp (disch := omega) only [e89_0, e89_1, e89_2, e89_5, e89_8, e89_9, e89_10, e89_13, e89_16, e89_17, e89_18, e89_20, e89_23, e89_26, e89_28, e89_29, e89_31, e89_34, e89_37, e89_39, e89_40, e89_41, e89_44, e89_47, e89_48, e89_49, e89_50, e89_53, e89_54, e89_57, e89_60, e89_61, e89_64, e89_65, e89_66, e89_68, e89_69, e89_72, e89_74, e89_77, e89_78, e89_79, e89_80, e89_81, e89_83, e89_86, h0, ht1, zg9_0, zp9_0, zg9_1, zp9_1, zg9_2, zp9_2, zg9_3, zp9_3, zg9_4, zp9_4, zg9_5, zp9_5, zg9_6, zp9_6, zg9_7, zp9_7, zg9_8, zp9_8, zg9_9, zp9_9, zg9_10, zp9_10, zg9_11, zp9_11, zg9_12, zp9_12, zg9_13, zp9_13, zg9_14, zp9_14, zg9_15, zp9_15, zg9_16, zp9_16, zrc_eq, zup_s, zup_n, zup_up, zal_i, zal_b, zal_z, zas_i, zas_b, zas_z, zan_eq, Option.toList_some, Option.toList_none, List.cons_append, List.nil_append, if_true, if_false, ite_true, ite_false, true_or, or_true, c85 hs ok ht, znI_lt, if_pos, g7, ↓reduceIte]
                exact K h cs zfr.rf
              · rw [if_neg g7] at K
                simp (disch := omega) only [e89_0, e89_1, e89_2, e89_5, e89_8, e89_9, e89_10, e89_13, e89_16, e89_17, e89_18, e89_20, e89_23, e89_26, e89_28, e89_29, e89_31, e89_34, e89_37, e89_39, e89_40, e89_41, e89_44, e89_47, e89_48, e89_49, e89_50, e89_53, e89_54, e89_57, e89_60, e89_61, e89_64, e89_65, e89_66, e89_68, e89_69, e89_72, e89_74, e89_77, e89_78, e89_79, e89_80, e89_81, e89_83, e89_86, h0, ht1, zg9_0, zp9_0, zg9_1, zp9_1, zg9_2, zp9_2, zg9_3, zp9_3, zg9_4, zp9_4, zg9_5, zp9_5, zg9_6, zp9_6, zg9_7, zp9_7, zg9_8, zp9_8, zg9_9, zp9_9, zg9_10, zp9_10, zg9_11, zp9_11, zg9_12, zp9_12, zg9_13, zp9_13, zg9_14, zp9_14, zg9_15, zp9_15, zg9_16, zp9_16, zrc_eq, zup_s, zup_n, zup_up, zal_i, zal_b, zal_z, zas_i, zas_b, zas_z, zan_eq, Option.toList_some, Option.toList_none, List.cons_append, List.nil_append, if_true, if_false, ite_true, ite_false, true_or, or_true, c85 hs ok ht, znI_lt, if_pos, g7, ↓reduceIte]
                refine c90 hn1 (by omega) hm2 hc' (fun h' d1 d2 => ?_)
                simp (disch := omega) only [e89_0, e89_1, e89_2, e89_5, e89_8, e89_9, e89_10, e89_13, e89_16, e89_17, e89_18, e89_20, e89_23, e89_26, e89_28, e89_29, e89_31, e89_34, e89_37, e89_39, e89_40, e89_41, e89_44, e89_47, e89_48, e89_49, e89_50, e89_53, e89_54, e89_57, e89_60, e89_61, e89_64, e89_65, e89_66, e89_68, e89_69, e89_72, e89_74, e89_77, e89_78, e89_79, e89_80, e89_81, e89_83, e89_86, Option.toList_some, List.cons_append, List.nil_append]
                exact K h' d1 d2
          · rw [if_neg g5]
            rw [if_neg (fun z => g5 z.2.2.2.2)] at K
            exact K h cs zfr.rf
        · rw [if_neg g4]
          rw [if_neg (fun z => g4 z.2.2.2.1)] at K
          exact K h cs zfr.rf
      · rw [if_neg g3]
        rw [if_neg (fun z => g3 z.2.2.1)] at K
        exact K h cs zfr.rf
    · rw [if_neg g2]
      rw [if_neg (fun z => g2 z.2.1)] at K
      exact K h cs zfr.rf
  · rw [if_neg g1]
    rw [if_neg (fun z => g1 z.1)] at K
    exact K h cs zfr.rf
set_option maxHeartbeats 2000000 in
/-- the second order's plans and their ranks in the first, as the model finds them -/
theorem pMn.ranks0 {n : Nat} {f g : Nat → Nat} (h0 : pMn h 0 n f) (h1 : pMn h 1 n g) (hin : ∀ k, k < n → ∃ j, j < n ∧ f j = g k) : ∃ mn od rk : Nat → Int32, h 68 = .inl (.int, 2, mn) ∧ mn 1 = nI n ∧ h 69 = .inl (.int, 48, od) ∧ h 70 = .inl (.int, 48, rk) ∧ n ≤ 24 ∧ (∀ j, j < n → od j = nI (f j)) ∧ (∀ j, j < n → od (24 + j) = nI (g j)) ∧ (∀ j, j < n → f j < 24) ∧ (∀ j, j < n → g j < 24) ∧ (∀ j, j < n → rk (g j) = nI (rT g f n j) ∧ rT g f n j < 24) := by
  obtain ⟨mn, od, rk, mk, n1, n2, n3, n4, n5, n6, n7, n8, n9⟩ := h0
  obtain ⟨mn', od', rk', mk', m1, m2, m3, m4, m5, m6, m7, m8, m9⟩ := h1
  rw [n1] at m1; rw [n2] at m2
  cases m1; cases m2
  refine ⟨mn, od, rk, n1, m6, n2, n3, n5, fun j hj => ?_, fun j hj => m7 j hj, n9, m9, fun j hj => ?_⟩
  · have := n7 j hj
    rwa [Nat.mul_zero, Nat.zero_add] at this
  · obtain ⟨a1, a2⟩ := zIx_lt n (hin j hj)
    have := n8 _ a1
    rw [a2, Nat.mul_zero, Nat.zero_add] at this
    refine ⟨this, ?_⟩
    show zIx f (g j) n < 24
    omega
set_option maxHeartbeats 2000000 in
theorem c150_95 {mn od rk : Nat → Int32} {n0 n : Nat} {R g : Nat → Nat} {l1 l2 l4 l5 l6 l7 l8 : Option Value} (h1 : h 53 = mObj len at_ rp rj np_ nj_ kp su lo dr ab be) (h68 : h 68 = .inl (.int, 2, mn)) (hmn : mn 1 = nI n0) (h2 : h 69 = .inl (.int, 48, od)) (h3 : h 70 = .inl (.int, 48, rk)) (hn0 : n0 ≤ 24) (hn : n ≤ 24) (ho : ∀ j, j < n0 → od (24 + j) = nI (g j)) (hg : ∀ j, j < n0 → g j < 24) (hR : ∀ j, j < n0 → rk (g j) = nI (R j) ∧ R j < 24) : ∀ m u, m + u = n0 → zE X 150 95 [some (.ref 53), l1, l2, some (.int (nI n)), l4, l5, l6, l7, l8, some (.int (nI u))] [] (N, 0, 0) h Q = zE X 150 131 [some (.ref 53), l1, l2, some (.int (nI n)), l4, l5, l6, l7, l8, some (.int (nI (fnA R n m u)))] [] (N, 0, 0) h Q := by
  unfold mObj at h1
  intro m
  induction m with
  | zero =>
    intro u hu
    obtain rfl : u = n0 := by omega
    rw [e150_95, fnA]
    simp (disch := omega) only [e150_0, e150_1, e150_2, e150_5, e150_8, e150_9, e150_10, e150_13, e150_16, e150_17, e150_18, e150_19, e150_22, e150_25, e150_28, e150_30, e150_31, e150_32, e150_35, e150_38, e150_41, e150_43, e150_44, e150_45, e150_46, e150_49, e150_52, e150_53, e150_54, e150_55, e150_57, e150_58, e150_60, e150_61, e150_65, e150_67, e150_70, e150_71, e150_72, e150_73, e150_75, e150_76, e150_77, e150_80, e150_81, e150_82, e150_83, e150_84, e150_85, e150_87, e150_88, e150_89, e150_92, e150_93, e150_97, e150_98, e150_101, e150_102, e150_103, e150_106, e150_107, e150_110, e150_111, e150_114, e150_116, e150_118, e150_119, e150_120, e150_121, e150_122, e150_125, e150_128, e150_133, e150_134, e150_137, e150_138, e150_139, e150_142, e150_145, e150_147, e150_148, e150_151, e150_152, e150_153, e150_156, e150_158, e150_160, e150_161, e150_162, e150_163, e150_164, e150_165, e150_168, e150_169, e150_170, e150_173, e150_174, e150_175, e150_176, e150_177, e150_178, e150_179, e150_182, e150_183, e150_186, e150_187, e150_188, e150_190, e150_193, e150_196, e150_198, e150_201, e150_203, e150_206, e150_208, h1, h68, hmn, zg10_0, zp10_0, zg10_1, zp10_1, zg10_2, zp10_2, zg10_3, zp10_3, zg10_4, zp10_4, zg10_5, zp10_5, zg10_6, zp10_6, zg10_7, zp10_7, zg10_8, zp10_8, zg10_9, zp10_9, zg10_10, zp10_10, zg10_11, zp10_11, zg10_12, zp10_12, zg10_13, zp10_13, zg10_14, zp10_14, zg10_15, zp10_15, zg10_16, zp10_16, zg10_17, zp10_17, zg10_18, zp10_18, zg10_19, zp10_19, zg10_20, zp10_20, zg10_21, zp10_21, zg10_22, zp10_22, zg10_23, zp10_23, zg10_24, zp10_24, zg10_25, zp10_25, zg10_26, zp10_26, zg10_27, zp10_27, zg10_28, zp10_28, zg10_29, zp10_29, zg10_30, zp10_30, zg10_31, zp10_31, zg10_32, zp10_32, zrc_eq, zup_s, zup_n, zup_up, zal_i, zal_b, zal_z, zas_i, zas_b, zas_z, zan_eq, Option.toList_some, Option.toList_none, List.cons_append, List.nil_append, if_true, if_false, ite_true, ite_false, true_or, or_true, zc1, znI_le, if_pos]
  | succ m ih =>
    intro u hu
    have ih' := ih (u + 1) (by omega)
    obtain ⟨r1, r2⟩ := hR u (by omega)
    have hgu := hg u (by omega)
    have e1 : (24 : Int32) + nI u = nI (24 + u) := by rw [zc24, nI_add]
    rw [e150_95, fnA]
    simp (disch := omega) only [e150_0, e150_1, e150_2, e150_5, e150_8, e150_9, e150_10, e150_13, e150_16, e150_17, e150_18, e150_19, e150_22, e150_25, e150_28, e150_30, e150_31, e150_32, e150_35, e150_38, e150_41, e150_43, e150_44, e150_45, e150_46, e150_49, e150_52, e150_53, e150_54, e150_55, e150_57, e150_58, e150_60, e150_61, e150_65, e150_67, e150_70, e150_71, e150_72, e150_73, e150_75, e150_76, e150_77, e150_80, e150_81, e150_82, e150_83, e150_84, e150_85, e150_87, e150_88, e150_89, e150_92, e150_93, e150_97, e150_98, e150_101, e150_102, e150_103, e150_107, e150_110, e150_111, e150_114, e150_116, e150_118, e150_119, e150_120, e150_121, e150_122, e150_125, e150_128, e150_133, e150_134, e150_137, e150_138, e150_139, e150_142, e150_145, e150_147, e150_148, e150_151, e150_152, e150_153, e150_156, e150_158, e150_160, e150_161, e150_162, e150_163, e150_164, e150_165, e150_168, e150_169, e150_170, e150_173, e150_174, e150_175, e150_176, e150_177, e150_178, e150_179, e150_182, e150_183, e150_186, e150_187, e150_188, e150_190, e150_193, e150_196, e150_198, e150_201, e150_203, e150_206, e150_208, h1, h68, hmn, zg10_0, zp10_0, zg10_1, zp10_1, zg10_2, zp10_2, zg10_3, zp10_3, zg10_4, zp10_4, zg10_5, zp10_5, zg10_6, zp10_6, zg10_7, zp10_7, zg10_8, zp10_8, zg10_9, zp10_9, zg10_10, zp10_10, zg10_11, zp10_11, zg10_12, zp10_12, zg10_13, zp10_13, zg10_14, zp10_14, zg10_15, zp10_15, zg10_16, zp10_16, zg10_17, zp10_17, zg10_18, zp10_18, zg10_19, zp10_19, zg10_20, zp10_20, zg10_21, zp10_21, zg10_22, zp10_22, zg10_23, zp10_23, zg10_24, zp10_24, zg10_25, zp10_25, zg10_26, zp10_26, zg10_27, zp10_27, zg10_28, zp10_28, zg10_29, zp10_29, zg10_30, zp10_30, zg10_31, zp10_31, zg10_32, zp10_32, zrc_eq, zup_s, zup_n, zup_up, zal_i, zal_b, zal_z, zas_i, zas_b, zas_z, zan_eq, Option.toList_some, Option.toList_none, List.cons_append, List.nil_append, if_true, if_false, ite_true, ite_false, true_or, or_true, zc1, znI_le, if_neg]
    simp (disch := omega) only [e150_0, e150_1, e150_2, e150_5, e150_8, e150_9, e150_10, e150_13, e150_16, e150_17, e150_18, e150_19, e150_22, e150_25, e150_28, e150_30, e150_31, e150_32, e150_35, e150_38, e150_41, e150_43, e150_44, e150_45, e150_46, e150_49, e150_52, e150_53, e150_54, e150_55, e150_57, e150_58, e150_60, e150_61, e150_65, e150_67, e150_70, e150_71, e150_72, e150_73, e150_75, e150_76, e150_77, e150_80, e150_81, e150_82, e150_83, e150_84, e150_85, e150_87, e150_88, e150_89, e150_92, e150_93, e150_97, e150_98, e150_101, e150_102, e150_103, e150_106, e150_107, e150_110, e150_111, e150_114, e150_116, e150_118, e150_119, e150_121, e150_122, e150_125, e150_128, e150_133, e150_134, e150_137, e150_138, e150_139, e150_142, e150_145, e150_147, e150_148, e150_151, e150_152, e150_153, e150_156, e150_158, e150_160, e150_161, e150_162, e150_163, e150_164, e150_165, e150_168, e150_169, e150_170, e150_173, e150_174, e150_175, e150_176, e150_177, e150_178, e150_179, e150_182, e150_183, e150_186, e150_187, e150_188, e150_190, e150_193, e150_196, e150_198, e150_201, e150_203, e150_206, e150_208, h1, h2, zg10_0, zp10_0, zg10_1, zp10_1, zg10_2, zp10_2, zg10_3, zp10_3, zg10_4, zp10_4, zg10_5, zp10_5, zg10_6, zp10_6, zg10_7, zp10_7, zg10_8, zp10_8, zg10_9, zp10_9, zg10_10, zp10_10, zg10_11, zp10_11, zg10_12, zp10_12, zg10_13, zp10_13, zg10_14, zp10_14, zg10_15, zp10_15, zg10_16, zp10_16, zg10_17, zp10_17, zg10_18, zp10_18, zg10_19, zp10_19, zg10_20, zp10_20, zg10_21, zp10_21, zg10_22, zp10_22, zg10_23, zp10_23, zg10_24, zp10_24, zg10_25, zp10_25, zg10_26, zp10_26, zg10_27, zp10_27, zg10_28, zp10_28, zg10_29, zp10_29, zg10_30, zp10_30, zg10_31, zp10_31, zg10_32, zp10_32, zrc_eq, zup_s, zup_n, zup_up, zal_i, zal_b, zal_z, zas_i, zas_b, zas_z, zan_eq, Option.toList_some, Option.toList_none, List.cons_append, List.nil_append, if_true, if_false, ite_true, ite_false, true_or, or_true, e1, ho]
    by_cases g1 : R u < n
    · rw [if_pos g1]
      simp (disch := omega) only [e150_0, e150_1, e150_2, e150_5, e150_8, e150_9, e150_10, e150_13, e150_16, e150_17, e150_18, e150_19, e150_22, e150_25, e150_28, e150_30, e150_31, e150_32, e150_35, e150_38, e150_41, e150_43, e150_44, e150_45, e150_46, e150_49, e150_52, e150_53, e150_54, e150_55, e150_57, e150_58, e150_60, e150_61, e150_65, e150_67, e150_70, e150_71, e150_72, e150_73, e150_75, e150_76, e150_77, e150_80, e150_81, e150_82, e150_83, e150_84, e150_85, e150_87, e150_88, e150_89, e150_92, e150_93, e150_97, e150_98, e150_101, e150_102, e150_103, e150_106, e150_107, e150_110, e150_111, e150_114, e150_116, e150_118, e150_119, e150_120, e150_121, e150_122, e150_125, e150_128, e150_133, e150_134, e150_137, e150_138, e150_139, e150_142, e150_145, e150_147, e150_148, e150_151, e150_152, e150_153, e150_156, e150_158, e150_160, e150_161, e150_162, e150_163, e150_164, e150_165, e150_168, e150_169, e150_170, e150_173, e150_174, e150_175, e150_176, e150_177, e150_178, e150_179, e150_182, e150_183, e150_186, e150_187, e150_188, e150_190, e150_193, e150_196, e150_198, e150_201, e150_203, e150_206, e150_208, h3, zrc_eq, zup_s, zup_n, zup_up, zal_i, zal_b, zal_z, zas_i, zas_b, zas_z, zan_eq, Option.toList_some, Option.toList_none, List.cons_append, List.nil_append, if_true, if_false, ite_true, ite_false, true_or, or_true, r1, znI_le, if_neg, nI_1]
      exact ih'
    · rw [if_neg g1]
      simp (disch := omega) only [e150_0, e150_1, e150_2, e150_5, e150_8, e150_9, e150_10, e150_13, e150_16, e150_17, e150_18, e150_19, e150_22, e150_25, e150_28, e150_30, e150_31, e150_32, e150_35, e150_38, e150_41, e150_43, e150_44, e150_45, e150_46, e150_49, e150_52, e150_53, e150_54, e150_55, e150_57, e150_58, e150_60, e150_61, e150_65, e150_67, e150_70, e150_71, e150_72, e150_73, e150_75, e150_76, e150_77, e150_80, e150_81, e150_82, e150_83, e150_84, e150_85, e150_87, e150_88, e150_89, e150_92, e150_93, e150_97, e150_98, e150_101, e150_102, e150_103, e150_106, e150_107, e150_110, e150_111, e150_114, e150_116, e150_118, e150_119, e150_120, e150_121, e150_122, e150_125, e150_128, e150_133, e150_134, e150_137, e150_138, e150_139, e150_142, e150_145, e150_147, e150_148, e150_151, e150_152, e150_153, e150_156, e150_158, e150_160, e150_161, e150_162, e150_163, e150_164, e150_165, e150_168, e150_169, e150_170, e150_173, e150_174, e150_175, e150_176, e150_177, e150_178, e150_179, e150_182, e150_183, e150_186, e150_187, e150_188, e150_190, e150_193, e150_196, e150_198, e150_201, e150_203, e150_206, e150_208, h3, zrc_eq, zup_s, zup_n, zup_up, zal_i, zal_b, zal_z, zas_i, zas_b, zas_z, zan_eq, Option.toList_some, Option.toList_none, List.cons_append, List.nil_append, if_true, if_false, ite_true, ite_false, true_or, or_true, r1, znI_le, if_pos]
set_option maxHeartbeats 2000000 in
theorem c150_63 {j n m : Nat} (hn1 : 1 ≤ n) (hn : n ≤ 23) (hm : m ≤ 100) : ∀ (l k : Nat) (h : zH) (l9 : Option Value), l + k = m → zMR h S D F len at_ rp rj kp su lo dr ab be → (∀ h' l8 l9, zMk' h h' S len at_ rp rj kp → zE X 150 196 [some (.ref 53), some (.int (nI j)), some (.int p), some (.int (nI n)), some (.int (nI m)), some (.int w), some (.int (nI (if oN S (F 0) ≤ n then 0 else nSum (gR S (F 0) j p n) m))), some (.int (nI (if oN S (F 0) ≤ n then 0 else m))), l8, l9] [] (N, 0, 0) h' Q) → zE X 150 63 [some (.ref 53), some (.int (nI j)), some (.int p), some (.int (nI n)), some (.int (nI m)), some (.int w), some (.int (nI (if oN S (F 0) ≤ n then 0 else nSum (gR S (F 0) j p n) k))), some (.int (nI (if oN S (F 0) ≤ n then 0 else k))), some (.int (nI k)), l9] [] (N, 0, 0) h Q := by
  intro l
  induction l with
  | zero =>
    intro k h l9 hk hm' K
    obtain rfl : k = m := by omega
    rw [e150_63]
    simp (disch := omega) only [e150_0, e150_1, e150_2, e150_5, e150_8, e150_9, e150_10, e150_13, e150_16, e150_17, e150_18, e150_19, e150_22, e150_25, e150_28, e150_30, e150_31, e150_32, e150_35, e150_38, e150_41, e150_43, e150_44, e150_45, e150_46, e150_49, e150_52, e150_53, e150_54, e150_55, e150_57, e150_58, e150_60, e150_61, e150_65, e150_67, e150_70, e150_71, e150_72, e150_73, e150_75, e150_76, e150_77, e150_80, e150_81, e150_82, e150_83, e150_84, e150_85, e150_87, e150_88, e150_89, e150_92, e150_93, e150_97, e150_98, e150_101, e150_102, e150_103, e150_106, e150_107, e150_110, e150_111, e150_114, e150_116, e150_118, e150_119, e150_120, e150_121, e150_122, e150_125, e150_128, e150_131, e150_133, e150_134, e150_137, e150_138, e150_139, e150_142, e150_145, e150_147, e150_148, e150_151, e150_152, e150_153, e150_156, e150_158, e150_160, e150_161, e150_162, e150_163, e150_164, e150_165, e150_168, e150_169, e150_170, e150_173, e150_174, e150_175, e150_176, e150_177, e150_178, e150_179, e150_182, e150_183, e150_186, e150_187, e150_188, e150_190, e150_193, e150_198, e150_201, e150_203, e150_206, e150_208, znI_le, if_pos]
    exact K h _ _ ⟨⟨_, _, _, _, _, hm'.1⟩, hm'.2.2.2.2.2, zfr.rf⟩
  | succ l ih =>
    intro k h l9 hk hm' K
    have ok := hm'.2.2.1
    have e53 : ∃ fs, h 53 = .inr (10, fs) := ⟨_, hm'.1⟩
    obtain ⟨fs, e53⟩ := e53
    have E0 := fun h p d Q => c124n (X := X) (N := N) (h := h) (Q := Q) (S := S) (F := F) (D := D) (p := p) (d := d) (len := len) (at_ := at_) (rp := rp) (rj := rj) (kp := kp) (su := su) (lo := lo) (dr := dr) (ab := ab) (be := be) (v := 0) (by omega)
    have E1 := fun h p d Q => c124n (X := X) (N := N) (h := h) (Q := Q) (S := S) (F := F) (D := D) (p := p) (d := d) (len := len) (at_ := at_) (rp := rp) (rj := rj) (kp := kp) (su := su) (lo := lo) (dr := dr) (ab := ab) (be := be) (v := 1) (by omega)
    rw [nI_0] at E0
    rw [nI_0, ← zc1] at E1
    rw [e150_63]
    simp (disch := omega) only [e150_0, e150_1, e150_2, e150_5, e150_8, e150_9, e150_10, e150_13, e150_16, e150_17, e150_18, e150_19, e150_22, e150_25, e150_28, e150_30, e150_31, e150_32, e150_35, e150_38, e150_41, e150_43, e150_44, e150_45, e150_46, e150_49, e150_52, e150_53, e150_54, e150_55, e150_57, e150_58, e150_60, e150_61, e150_65, e150_67, e150_70, e150_71, e150_72, e150_73, e150_75, e150_76, e150_77, e150_80, e150_81, e150_82, e150_83, e150_84, e150_85, e150_87, e150_88, e150_89, e150_92, e150_93, e150_97, e150_98, e150_101, e150_102, e150_103, e150_106, e150_107, e150_110, e150_111, e150_114, e150_116, e150_118, e150_119, e150_120, e150_121, e150_122, e150_125, e150_128, e150_131, e150_133, e150_134, e150_137, e150_138, e150_139, e150_142, e150_145, e150_147, e150_148, e150_151, e150_152, e150_153, e150_156, e150_158, e150_160, e150_161, e150_162, e150_163, e150_164, e150_165, e150_168, e150_169, e150_170, e150_173, e150_174, e150_175, e150_176, e150_177, e150_178, e150_179, e150_182, e150_183, e150_186, e150_187, e150_188, e150_190, e150_193, e150_196, e150_198, e150_201, e150_203, e150_206, e150_208, e53, zrc_eq, zup_s, zup_n, zup_up, zal_i, zal_b, zal_z, zas_i, zas_b, zas_z, zan_eq, Option.toList_some, Option.toList_none, List.cons_append, List.nil_append, if_true, if_false, ite_true, ite_false, true_or, or_true, znI_le, if_neg]
    refine E0 _ _ _ _ hm' (fun h' a1 a2 a3 a4 => ?_)
    have F1 : zmf h h' := a4.mono (fun a ha => by omega)
    have hm2 : zMR h' S D F len at_ rp rj kp su lo dr ab be := hm'.kept F1 a3 ((a4 53 (by omega)).trans hm'.1)
    have e53' : ∃ fs, h' 53 = .inr (10, fs) := ⟨_, hm2.1⟩
    obtain ⟨fs', e53'⟩ := e53'
    simp (disch := omega) only [e150_0, e150_1, e150_2, e150_5, e150_8, e150_9, e150_10, e150_13, e150_16, e150_17, e150_18, e150_19, e150_22, e150_25, e150_28, e150_30, e150_31, e150_32, e150_35, e150_38, e150_41, e150_43, e150_44, e150_45, e150_46, e150_49, e150_52, e150_53, e150_54, e150_55, e150_57, e150_58, e150_60, e150_61, e150_65, e150_67, e150_70, e150_71, e150_72, e150_73, e150_75, e150_76, e150_77, e150_80, e150_81, e150_82, e150_83, e150_84, e150_85, e150_87, e150_88, e150_89, e150_92, e150_93, e150_97, e150_98, e150_101, e150_102, e150_103, e150_106, e150_107, e150_110, e150_111, e150_114, e150_116, e150_118, e150_119, e150_120, e150_121, e150_122, e150_125, e150_128, e150_131, e150_133, e150_134, e150_137, e150_138, e150_139, e150_142, e150_145, e150_147, e150_148, e150_151, e150_152, e150_153, e150_156, e150_158, e150_160, e150_161, e150_162, e150_163, e150_164, e150_165, e150_168, e150_169, e150_170, e150_173, e150_174, e150_175, e150_176, e150_177, e150_178, e150_179, e150_182, e150_183, e150_186, e150_187, e150_188, e150_190, e150_193, e150_196, e150_198, e150_201, e150_203, e150_206, e150_208, Option.toList_none, List.nil_append, e53', zrc_eq, zup_s, zup_n, zup_up, zal_i, zal_b, zal_z, zas_i, zas_b, zas_z, zan_eq, Option.toList_some, Option.toList_none, List.cons_append, List.nil_append, if_true, if_false, ite_true, ite_false, true_or, or_true]
    refine E1 _ _ _ _ hm2 (fun h2 b1 b2 b3 b4 => ?_)
    have F2 : zmf h h2 := F1.tr (b4.mono (fun a ha => by omega))
    have hm3 : zMR h2 S D F len at_ rp rj kp su lo dr ab be := hm2.kept (b4.mono (fun a ha => by omega)) b3 ((b4 53 (by omega)).trans hm2.1)
    have a12 := b2 0 _ _ (by omega) (by omega) a1
    have hO := oOkN (S := S) (T := F 0) (p := p) (d := nI k)
    have hO2 := oOkN (S := S) (T := F 0) (p := 1 <<< (nI j &&& 31)) (d := nI k)
    have hin := oIn (S := S) (T := F 0) (p := 1 <<< (nI j &&& 31)) (d := nI k) (q := p) (e := nI k)
    obtain ⟨mn, od, rk, n1, n2, n3, n4, n5, n6, n7, n8, n9, n10⟩ := pMn.ranks0 a12 b1 hin
    have key := c150_95 (X := X) (N := N) (Q := Q) (l1 := some (.int (nI j))) (l2 := some (.int p)) (l4 := some (.int (nI m))) (l5 := some (.int w)) (l6 := some (.int (nI (if oN S (F 0) ≤ n then 0 else nSum (gR S (F 0) j p n) k)))) (l7 := some (.int (nI (if oN S (F 0) ≤ n then 0 else k)))) (l8 := some (.int (nI k))) (n := n) hm3.1 n1 n2 n3 n4 n5 (by omega) n7 n9 n10 (oN S (F 0)) 0 (by omega)
    simp (disch := omega) only [e150_0, e150_1, e150_2, e150_5, e150_8, e150_9, e150_10, e150_13, e150_16, e150_17, e150_18, e150_19, e150_22, e150_25, e150_28, e150_30, e150_31, e150_32, e150_35, e150_38, e150_41, e150_43, e150_44, e150_45, e150_46, e150_49, e150_52, e150_53, e150_54, e150_55, e150_57, e150_58, e150_60, e150_61, e150_65, e150_67, e150_70, e150_71, e150_72, e150_73, e150_75, e150_76, e150_77, e150_80, e150_81, e150_82, e150_83, e150_84, e150_85, e150_87, e150_88, e150_89, e150_92, e150_93, e150_97, e150_98, e150_101, e150_102, e150_103, e150_106, e150_107, e150_110, e150_111, e150_114, e150_116, e150_118, e150_119, e150_120, e150_121, e150_122, e150_125, e150_128, e150_131, e150_133, e150_134, e150_137, e150_138, e150_139, e150_142, e150_145, e150_147, e150_148, e150_151, e150_152, e150_153, e150_156, e150_158, e150_160, e150_161, e150_162, e150_163, e150_164, e150_165, e150_168, e150_169, e150_170, e150_173, e150_174, e150_175, e150_176, e150_177, e150_178, e150_179, e150_182, e150_183, e150_186, e150_187, e150_188, e150_190, e150_193, e150_196, e150_198, e150_201, e150_203, e150_206, e150_208, Option.toList_none, List.nil_append, zc0]
    refine Eq.mpr key ?_
    clear key
    have ih' := fun l9 => ih (k + 1) h2 l9 (by omega) hm3 (fun h3 l8 l9 d1 => K h3 l8 l9 ⟨d1.1, d1.2.1, F2.tr d1.2.2⟩)
    have h1 := hm3.1
    unfold mObj at h1
    by_cases g : oN S (F 0) ≤ n
    · rw [if_pos g, if_pos g] at ih'
      rw [if_pos g, if_pos g]
      have ef := fnA_no (R := rT (oF S (F 0) (1 <<< (nI j &&& 31)) (nI k)) (oF S (F 0) p (nI k)) (oN S (F 0))) (n := n) (oN S (F 0)) 0 (fun v _ hv => by
        have := rT_lt (f := oF S (F 0) (1 <<< (nI j &&& 31)) (nI k)) (g := oF S (F 0) p (nI k)) hin (k := v) (by omega)
        omega)
      rw [ef, Nat.zero_add]
      simp (disch := omega) only [e150_0, e150_1, e150_2, e150_5, e150_8, e150_9, e150_10, e150_13, e150_16, e150_17, e150_18, e150_19, e150_22, e150_25, e150_28, e150_30, e150_31, e150_32, e150_35, e150_38, e150_41, e150_43, e150_44, e150_45, e150_46, e150_49, e150_52, e150_53, e150_54, e150_55, e150_57, e150_58, e150_60, e150_61, e150_65, e150_67, e150_70, e150_71, e150_72, e150_73, e150_75, e150_76, e150_77, e150_80, e150_81, e150_82, e150_83, e150_84, e150_85, e150_87, e150_88, e150_89, e150_92, e150_93, e150_97, e150_98, e150_101, e150_102, e150_103, e150_106, e150_107, e150_110, e150_111, e150_114, e150_116, e150_118, e150_119, e150_120, e150_121, e150_122, e150_125, e150_128, e150_131, e150_133, e150_134, e150_137, e150_138, e150_139, e150_142, e150_145, e150_147, e150_148, e150_151, e150_152, e150_153, e150_156, e150_158, e150_160, e150_161, e150_162, e150_163, e150_164, e150_165, e150_168, e150_169, e150_170, e150_173, e150_174, e150_175, e150_176, e150_177, e150_178, e150_179, e150_182, e150_183, e150_186, e150_187, e150_188, e150_190, e150_193, e150_196, e150_198, e150_201, e150_203, e150_206, e150_208, h1, n1, n2, zg10_0, zp10_0, zg10_1, zp10_1, zg10_2, zp10_2, zg10_3, zp10_3, zg10_4, zp10_4, zg10_5, zp10_5, zg10_6, zp10_6, zg10_7, zp10_7, zg10_8, zp10_8, zg10_9, zp10_9, zg10_10, zp10_10, zg10_11, zp10_11, zg10_12, zp10_12, zg10_13, zp10_13, zg10_14, zp10_14, zg10_15, zp10_15, zg10_16, zp10_16, zg10_17, zp10_17, zg10_18, zp10_18, zg10_19, zp10_19, zg10_20, zp10_20, zg10_21, zp10_21, zg10_22, zp10_22, zg10_23, zp10_23, zg10_24, zp10_24, zg10_25, zp10_25, zg10_26, zp10_26, zg10_27, zp10_27, zg10_28, zp10_28, zg10_29, zp10_29, zg10_30, zp10_30, zg10_31, zp10_31, zg10_32, zp10_32, zrc_eq, zup_s, zup_n, zup_up, zal_i, zal_b, zal_z, zas_i, zas_b, zas_z, zan_eq, Option.toList_some, Option.toList_none, List.cons_append, List.nil_append, if_true, if_false, ite_true, ite_false, true_or, or_true, zc1, znI_le, if_pos, nI_add]
      exact ih' _
    · rw [if_neg g, if_neg g] at ih'
      rw [if_neg g, if_neg g]
      rw [nSum] at ih'
      have hl := fnA_ok (S := S) (T := F 0) (q := 1 <<< (nI j &&& 31)) (e := nI k) (p := p) (d := nI k) (n := n) (by omega)
      have gRe : gR S (F 0) j p n k = if sW S (oF S (F 0) p (nI k) (n - 1)) < sW S (oF S (F 0) (1 <<< (nI j &&& 31)) (nI k) (fnA (rT (oF S (F 0) (1 <<< (nI j &&& 31)) (nI k)) (oF S (F 0) p (nI k)) (oN S (F 0))) n (oN S (F 0)) 0)) then 1 else 0 := rfl
      generalize fnA (rT (oF S (F 0) (1 <<< (nI j &&& 31)) (nI k)) (oF S (F 0) p (nI k)) (oN S (F 0))) n (oN S (F 0)) 0 = own at *
      have w1 := (hO2.2.1 _ hl).1
      have w2 := (hO.2.1 (n - 1) (by omega)).1
      have l1 := (ok.wo w1).2
      have l2 := (ok.wo w2).2
      obtain ⟨rpl, t1, t2⟩ := hm3.2.1.wo ok
      have b24 := ok.1.1
      have en : nI n - 1 = nI (n - 1) := pk_sub (b := 1) hn1
      have e1 : (24 : Int32) + nI own = nI (24 + own) := by rw [zc24, nI_add]
      have e3 : (3 : Int32) * nI (oF S (F 0) (1 <<< (nI j &&& 31)) (nI k) own) = nI (3 * oF S (F 0) (1 <<< (nI j &&& 31)) (nI k) own) := by rw [zc3, pk_mul]
      have e4 : (3 : Int32) * nI (oF S (F 0) p (nI k) (n - 1)) = nI (3 * oF S (F 0) p (nI k) (n - 1)) := by rw [zc3, pk_mul]
      have t3 := t2 _ w1
      have t4 := t2 _ w2
      simp (disch := omega) only [e150_0, e150_1, e150_2, e150_5, e150_8, e150_9, e150_10, e150_13, e150_16, e150_17, e150_18, e150_19, e150_22, e150_25, e150_28, e150_30, e150_31, e150_32, e150_35, e150_38, e150_41, e150_43, e150_44, e150_45, e150_46, e150_49, e150_52, e150_53, e150_54, e150_55, e150_57, e150_58, e150_60, e150_61, e150_65, e150_67, e150_70, e150_71, e150_72, e150_73, e150_75, e150_76, e150_77, e150_80, e150_81, e150_82, e150_83, e150_84, e150_85, e150_87, e150_88, e150_89, e150_92, e150_93, e150_97, e150_98, e150_101, e150_102, e150_103, e150_106, e150_107, e150_110, e150_111, e150_114, e150_116, e150_118, e150_119, e150_120, e150_121, e150_122, e150_125, e150_128, e150_131, e150_133, e150_134, e150_137, e150_138, e150_139, e150_145, e150_147, e150_148, e150_151, e150_152, e150_153, e150_156, e150_158, e150_160, e150_161, e150_162, e150_163, e150_164, e150_165, e150_168, e150_169, e150_170, e150_173, e150_174, e150_175, e150_176, e150_177, e150_178, e150_179, e150_182, e150_183, e150_186, e150_187, e150_188, e150_190, e150_193, e150_196, e150_198, e150_201, e150_203, e150_206, e150_208, h1, n1, n2, zg10_0, zp10_0, zg10_1, zp10_1, zg10_2, zp10_2, zg10_3, zp10_3, zg10_4, zp10_4, zg10_5, zp10_5, zg10_6, zp10_6, zg10_7, zp10_7, zg10_8, zp10_8, zg10_9, zp10_9, zg10_10, zp10_10, zg10_11, zp10_11, zg10_12, zp10_12, zg10_13, zp10_13, zg10_14, zp10_14, zg10_15, zp10_15, zg10_16, zp10_16, zg10_17, zp10_17, zg10_18, zp10_18, zg10_19, zp10_19, zg10_20, zp10_20, zg10_21, zp10_21, zg10_22, zp10_22, zg10_23, zp10_23, zg10_24, zp10_24, zg10_25, zp10_25, zg10_26, zp10_26, zg10_27, zp10_27, zg10_28, zp10_28, zg10_29, zp10_29, zg10_30, zp10_30, zg10_31, zp10_31, zg10_32, zp10_32, zrc_eq, zup_s, zup_n, zup_up, zal_i, zal_b, zal_z, zas_i, zas_b, zas_z, zan_eq, Option.toList_some, Option.toList_none, List.cons_append, List.nil_append, if_true, if_false, ite_true, ite_false, true_or, or_true, zc1, znI_le, if_neg]
      simp (disch := omega) only [e150_0, e150_1, e150_2, e150_5, e150_8, e150_9, e150_10, e150_13, e150_16, e150_17, e150_18, e150_19, e150_22, e150_25, e150_28, e150_30, e150_31, e150_32, e150_35, e150_38, e150_41, e150_43, e150_44, e150_45, e150_46, e150_49, e150_52, e150_53, e150_54, e150_55, e150_57, e150_58, e150_60, e150_61, e150_65, e150_67, e150_70, e150_71, e150_72, e150_73, e150_75, e150_76, e150_77, e150_80, e150_81, e150_82, e150_83, e150_84, e150_85, e150_87, e150_88, e150_89, e150_92, e150_93, e150_97, e150_98, e150_101, e150_102, e150_103, e150_106, e150_107, e150_110, e150_111, e150_114, e150_116, e150_118, e150_119, e150_120, e150_121, e150_122, e150_125, e150_128, e150_131, e150_133, e150_134, e150_137, e150_138, e150_139, e150_142, e150_145, e150_147, e150_148, e150_151, e150_152, e150_153, e150_156, e150_158, e150_160, e150_161, e150_163, e150_164, e150_165, e150_168, e150_169, e150_170, e150_173, e150_174, e150_175, e150_176, e150_177, e150_178, e150_179, e150_182, e150_183, e150_186, e150_187, e150_188, e150_190, e150_193, e150_196, e150_198, e150_201, e150_203, e150_206, e150_208, h1, n3, zg10_0, zp10_0, zg10_1, zp10_1, zg10_2, zp10_2, zg10_3, zp10_3, zg10_4, zp10_4, zg10_5, zp10_5, zg10_6, zp10_6, zg10_7, zp10_7, zg10_8, zp10_8, zg10_9, zp10_9, zg10_10, zp10_10, zg10_11, zp10_11, zg10_12, zp10_12, zg10_13, zp10_13, zg10_14, zp10_14, zg10_15, zp10_15, zg10_16, zp10_16, zg10_17, zp10_17, zg10_18, zp10_18, zg10_19, zp10_19, zg10_20, zp10_20, zg10_21, zp10_21, zg10_22, zp10_22, zg10_23, zp10_23, zg10_24, zp10_24, zg10_25, zp10_25, zg10_26, zp10_26, zg10_27, zp10_27, zg10_28, zp10_28, zg10_29, zp10_29, zg10_30, zp10_30, zg10_31, zp10_31, zg10_32, zp10_32, zrc_eq, zup_s, zup_n, zup_up, zal_i, zal_b, zal_z, zas_i, zas_b, zas_z, zan_eq, Option.toList_some, Option.toList_none, List.cons_append, List.nil_append, if_true, if_false, ite_true, ite_false, true_or, or_true, e1, n7 _ hl, nI_1]
      simp (disch := omega) only [e150_0, e150_1, e150_2, e150_5, e150_8, e150_9, e150_10, e150_13, e150_16, e150_17, e150_18, e150_19, e150_22, e150_25, e150_28, e150_30, e150_31, e150_32, e150_35, e150_38, e150_41, e150_43, e150_44, e150_45, e150_46, e150_49, e150_52, e150_53, e150_54, e150_55, e150_57, e150_58, e150_60, e150_61, e150_65, e150_67, e150_70, e150_71, e150_72, e150_73, e150_75, e150_76, e150_77, e150_80, e150_81, e150_82, e150_83, e150_84, e150_85, e150_87, e150_88, e150_89, e150_92, e150_93, e150_97, e150_98, e150_101, e150_102, e150_103, e150_106, e150_107, e150_110, e150_111, e150_114, e150_116, e150_118, e150_119, e150_120, e150_121, e150_122, e150_125, e150_128, e150_131, e150_133, e150_134, e150_137, e150_138, e150_139, e150_142, e150_145, e150_147, e150_148, e150_151, e150_152, e150_153, e150_156, e150_158, e150_160, e150_161, e150_162, e150_163, e150_164, e150_165, e150_168, e150_169, e150_170, e150_173, e150_174, e150_175, e150_176, e150_178, e150_179, e150_182, e150_183, e150_186, e150_187, e150_188, e150_190, e150_193, e150_196, e150_198, e150_201, e150_203, e150_206, e150_208, h1, n3, t1, zg10_0, zp10_0, zg10_1, zp10_1, zg10_2, zp10_2, zg10_3, zp10_3, zg10_4, zp10_4, zg10_5, zp10_5, zg10_6, zp10_6, zg10_7, zp10_7, zg10_8, zp10_8, zg10_9, zp10_9, zg10_10, zp10_10, zg10_11, zp10_11, zg10_12, zp10_12, zg10_13, zp10_13, zg10_14, zp10_14, zg10_15, zp10_15, zg10_16, zp10_16, zg10_17, zp10_17, zg10_18, zp10_18, zg10_19, zp10_19, zg10_20, zp10_20, zg10_21, zp10_21, zg10_22, zp10_22, zg10_23, zp10_23, zg10_24, zp10_24, zg10_25, zp10_25, zg10_26, zp10_26, zg10_27, zp10_27, zg10_28, zp10_28, zg10_29, zp10_29, zg10_30, zp10_30, zg10_31, zp10_31, zg10_32, zp10_32, zrc_eq, zup_s, zup_n, zup_up, zal_i, zal_b, zal_z, zas_i, zas_b, zas_z, zan_eq, Option.toList_some, Option.toList_none, List.cons_append, List.nil_append, if_true, if_false, ite_true, ite_false, true_or, or_true, e3, t3, en, n6 (n - 1) (by omega)]
      simp (disch := omega) only [e150_0, e150_1, e150_2, e150_5, e150_8, e150_9, e150_10, e150_13, e150_16, e150_17, e150_18, e150_19, e150_22, e150_25, e150_28, e150_30, e150_31, e150_32, e150_35, e150_38, e150_41, e150_43, e150_44, e150_45, e150_46, e150_49, e150_52, e150_53, e150_54, e150_55, e150_57, e150_58, e150_60, e150_61, e150_65, e150_67, e150_70, e150_71, e150_72, e150_73, e150_75, e150_76, e150_77, e150_80, e150_81, e150_82, e150_83, e150_84, e150_85, e150_87, e150_88, e150_89, e150_92, e150_93, e150_97, e150_98, e150_101, e150_102, e150_103, e150_106, e150_107, e150_110, e150_111, e150_114, e150_116, e150_118, e150_119, e150_120, e150_121, e150_122, e150_125, e150_128, e150_131, e150_133, e150_134, e150_137, e150_138, e150_139, e150_142, e150_145, e150_147, e150_148, e150_151, e150_152, e150_153, e150_156, e150_158, e150_160, e150_161, e150_162, e150_163, e150_164, e150_165, e150_168, e150_169, e150_170, e150_173, e150_174, e150_175, e150_176, e150_177, e150_178, e150_182, e150_183, e150_186, e150_187, e150_188, e150_190, e150_193, e150_196, e150_198, e150_201, e150_203, e150_206, e150_208, t1, zrc_eq, zup_s, zup_n, zup_up, zal_i, zal_b, zal_z, zas_i, zas_b, zas_z, zan_eq, Option.toList_some, Option.toList_none, List.cons_append, List.nil_append, if_true, if_false, ite_true, ite_false, true_or, or_true, e4, t4]
      simp (disch := omega) only [e150_179, znI_le]
      by_cases g2 : sW S (oF S (F 0) p (nI k) (n - 1)) < sW S (oF S (F 0) (1 <<< (nI j &&& 31)) (nI k) own)
      · rw [if_pos g2] at gRe
        rw [gRe] at ih'
        rw [if_neg (by omega)]
        simp (disch := omega) only [e150_0, e150_1, e150_2, e150_5, e150_8, e150_9, e150_10, e150_13, e150_16, e150_17, e150_18, e150_19, e150_22, e150_25, e150_28, e150_30, e150_31, e150_32, e150_35, e150_38, e150_41, e150_43, e150_44, e150_45, e150_46, e150_49, e150_52, e150_53, e150_54, e150_55, e150_57, e150_58, e150_60, e150_61, e150_65, e150_67, e150_70, e150_71, e150_72, e150_73, e150_75, e150_76, e150_77, e150_80, e150_81, e150_82, e150_83, e150_84, e150_85, e150_87, e150_88, e150_89, e150_92, e150_93, e150_97, e150_98, e150_101, e150_102, e150_103, e150_106, e150_107, e150_110, e150_111, e150_114, e150_116, e150_118, e150_119, e150_120, e150_121, e150_122, e150_125, e150_128, e150_131, e150_133, e150_134, e150_137, e150_138, e150_139, e150_142, e150_145, e150_147, e150_148, e150_151, e150_152, e150_153, e150_156, e150_158, e150_160, e150_161, e150_162, e150_163, e150_164, e150_165, e150_168, e150_169, e150_170, e150_173, e150_174, e150_175, e150_176, e150_177, e150_178, e150_179, e150_182, e150_183, e150_186, e150_187, e150_188, e150_190, e150_193, e150_196, e150_198, e150_201, e150_203, e150_206, e150_208, nI_1]
        exact ih' _
      · rw [if_neg g2] at gRe
        rw [gRe] at ih'
        rw [if_pos (by omega)]
        simp (disch := omega) only [e150_0, e150_1, e150_2, e150_5, e150_8, e150_9, e150_10, e150_13, e150_16, e150_17, e150_18, e150_19, e150_22, e150_25, e150_28, e150_30, e150_31, e150_32, e150_35, e150_38, e150_41, e150_43, e150_44, e150_45, e150_46, e150_49, e150_52, e150_53, e150_54, e150_55, e150_57, e150_58, e150_60, e150_61, e150_65, e150_67, e150_70, e150_71, e150_72, e150_73, e150_75, e150_76, e150_77, e150_80, e150_81, e150_82, e150_83, e150_84, e150_85, e150_87, e150_88, e150_89, e150_92, e150_93, e150_97, e150_98, e150_101, e150_102, e150_103, e150_106, e150_107, e150_110, e150_111, e150_114, e150_116, e150_118, e150_119, e150_120, e150_121, e150_122, e150_125, e150_128, e150_131, e150_133, e150_134, e150_137, e150_138, e150_139, e150_142, e150_145, e150_147, e150_148, e150_151, e150_152, e150_153, e150_156, e150_158, e150_160, e150_161, e150_162, e150_163, e150_164, e150_165, e150_168, e150_169, e150_170, e150_173, e150_174, e150_175, e150_176, e150_177, e150_178, e150_179, e150_182, e150_183, e150_186, e150_187, e150_188, e150_190, e150_193, e150_196, e150_198, e150_201, e150_203, e150_206, e150_208, nI_1, Int32.add_zero]
        exact ih' _
set_option maxHeartbeats 2000000 in
theorem zn23 {v : Int32} : ((1 : Int64) ≤ v.toInt64 ∧ v.toInt64 ≤ 23) = (1 ≤ v ∧ v ≤ 23) := by
  rw [show (1 : Int64) = (1 : Int32).toInt64 from by decide, show (23 : Int64) = (23 : Int32).toInt64 from by decide, zl_le, zl_le]
set_option maxHeartbeats 2000000 in
theorem zn100 {v : Int32} : ((1 : Int64) ≤ v.toInt64 ∧ v.toInt64 ≤ 100) = (1 ≤ v ∧ v ≤ 100) := by
  rw [show (1 : Int64) = (1 : Int32).toInt64 from by decide, show (100 : Int64) = (100 : Int32).toInt64 from by decide, zl_le, zl_le]
set_option maxHeartbeats 2000000 in
theorem c150 (hm : zMR h S D F len at_ rp rj kp su lo dr ab be) (K : ∀ h', zMk' h h' S len at_ rp rj kp → Q (some (.int (aGolden S (F 0) j p n m w))) N h') : zE X 150 0 [some (.ref 53), some (.int j), some (.int p), some (.int n), some (.int m), some (.int w), none, none, none, none] [] (N, 0, 0) h Q := by
  have hm' := hm
  obtain ⟨h1, hs, ok, hT, hD, ms⟩ := hm
  have h1' := h1
  have rf : zMk' h h S len at_ rp rj kp := ⟨⟨_, _, _, _, _, h1⟩, ms, zfr.rf⟩
  have b6 := ok.2.1.1
  unfold mObj at h1
  simp only [e150_0, e150_1, e150_2, e150_5, e150_8, e150_9, e150_10, e150_13, e150_16, e150_17, e150_18, e150_19, e150_22, e150_25, e150_28, e150_30, e150_31, e150_32, e150_35, e150_38, e150_41, e150_43, e150_44, e150_45, e150_46, e150_49, e150_52, e150_53, e150_55, e150_57, e150_58, e150_60, e150_61, e150_65, e150_67, e150_70, e150_71, e150_72, e150_73, e150_75, e150_76, e150_77, e150_80, e150_81, e150_82, e150_83, e150_84, e150_85, e150_87, e150_88, e150_89, e150_92, e150_93, e150_97, e150_98, e150_101, e150_102, e150_103, e150_106, e150_107, e150_110, e150_111, e150_114, e150_116, e150_118, e150_119, e150_120, e150_121, e150_122, e150_125, e150_128, e150_131, e150_133, e150_134, e150_137, e150_138, e150_139, e150_142, e150_145, e150_147, e150_148, e150_151, e150_152, e150_153, e150_156, e150_158, e150_160, e150_161, e150_162, e150_163, e150_164, e150_165, e150_168, e150_169, e150_170, e150_173, e150_174, e150_175, e150_176, e150_177, e150_178, e150_179, e150_182, e150_183, e150_186, e150_187, e150_188, e150_190, e150_193, e150_196, e150_198, e150_201, e150_203, e150_206, e150_208, h1, c118 b6 h1', c122 h1', c108, zrc_eq, zup_s, zup_n, zup_up, zal_i, zal_b, zal_z, zas_i, zas_b, zas_z, zan_eq, Option.toList_some, Option.toList_none, List.cons_append, List.nil_append, if_true, if_false, ite_true, ite_false, true_or, or_true, z10, z00, zl64, zw01, zn23, zn100]
  unfold aGolden at K
  by_cases g1 : isNo S.2.1.1 j
  · rw [if_pos g1]
    by_cases g2 : isPan S.2.1.1 p
    · rw [if_pos g2]
      by_cases g3 : 1 ≤ n ∧ n ≤ 23
      · rw [if_pos g3]
        by_cases g4 : 1 ≤ m ∧ m ≤ 100
        · rw [if_pos g4]
          by_cases g5 : 0 ≤ w ∧ w ≤ 1
          · rw [if_pos g5]
            rw [if_pos ⟨g1, g2, g3, g4, g5⟩] at K
            obtain ⟨jn, hj, rfl⟩ := g1.nat (by omega)
            obtain ⟨nn, hn1, hn2, rfl⟩ := zrange (lo := 1) (hi := 23) (by decide) g3.1 g3.2 (by decide)
            obtain ⟨mn, hm1, hm2, rfl⟩ := zrange (lo := 1) (hi := 100) (by decide) g4.1 g4.2 (by decide)
            have en : (nI nn).toNatClampNeg = nn := nI_clamp (by omega)
            have em : (nI mn).toNatClampNeg = mn := nI_clamp (by omega)
            have ej : (nI jn).toNatClampNeg = jn := nI_clamp (by omega)
            rw [en, em, ej] at K
            have key := c150_63 (X := X) (N := N) (Q := Q) (p := p) (w := w) (j := jn) hn1 hn2 hm2 mn 0 h none (by omega) hm' (fun h' l8 l9 kk => by
              have k2 := K h' kk
              by_cases g6 : oN S (F 0) ≤ nn
              · rw [if_pos g6] at k2
                rw [if_pos g6, if_pos g6, nI_0]
                by_cases g7 : w = 0
                · simp (disch := omega) only [e150_0, e150_1, e150_2, e150_5, e150_8, e150_9, e150_10, e150_13, e150_16, e150_17, e150_18, e150_19, e150_22, e150_25, e150_28, e150_30, e150_31, e150_32, e150_35, e150_38, e150_41, e150_43, e150_44, e150_45, e150_46, e150_49, e150_52, e150_53, e150_54, e150_55, e150_57, e150_58, e150_60, e150_61, e150_65, e150_67, e150_70, e150_71, e150_72, e150_73, e150_75, e150_76, e150_77, e150_80, e150_81, e150_82, e150_83, e150_84, e150_85, e150_87, e150_88, e150_89, e150_92, e150_93, e150_97, e150_98, e150_101, e150_102, e150_103, e150_106, e150_107, e150_110, e150_111, e150_114, e150_116, e150_118, e150_119, e150_120, e150_121, e150_122, e150_125, e150_128, e150_131, e150_133, e150_134, e150_137, e150_138, e150_139, e150_142, e150_145, e150_147, e150_148, e150_151, e150_152, e150_153, e150_156, e150_158, e150_160, e150_161, e150_162, e150_163, e150_164, e150_165, e150_168, e150_169, e150_170, e150_173, e150_174, e150_175, e150_176, e150_177, e150_178, e150_179, e150_182, e150_183, e150_186, e150_187, e150_188, e150_190, e150_193, e150_196, e150_198, e150_201, e150_203, e150_206, e150_208, g7, ↓reduceIte]; exact k2
                · simp (disch := omega) only [e150_0, e150_1, e150_2, e150_5, e150_8, e150_9, e150_10, e150_13, e150_16, e150_17, e150_18, e150_19, e150_22, e150_25, e150_28, e150_30, e150_31, e150_32, e150_35, e150_38, e150_41, e150_43, e150_44, e150_45, e150_46, e150_49, e150_52, e150_53, e150_54, e150_55, e150_57, e150_58, e150_60, e150_61, e150_65, e150_67, e150_70, e150_71, e150_72, e150_73, e150_75, e150_76, e150_77, e150_80, e150_81, e150_82, e150_83, e150_84, e150_85, e150_87, e150_88, e150_89, e150_92, e150_93, e150_97, e150_98, e150_101, e150_102, e150_103, e150_106, e150_107, e150_110, e150_111, e150_114, e150_116, e150_118, e150_119, e150_120, e150_121, e150_122, e150_125, e150_128, e150_131, e150_133, e150_134, e150_137, e150_138, e150_139, e150_142, e150_145, e150_147, e150_148, e150_151, e150_152, e150_153, e150_156, e150_158, e150_160, e150_161, e150_162, e150_163, e150_164, e150_165, e150_168, e150_169, e150_170, e150_173, e150_174, e150_175, e150_176, e150_177, e150_178, e150_179, e150_182, e150_183, e150_186, e150_187, e150_188, e150_190, e150_193, e150_196, e150_198, e150_201, e150_203, e150_206, e150_208, g7, ↓reduceIte]; exact k2
              · rw [if_neg g6] at k2
                rw [if_neg g6, if_neg g6]
                by_cases g7 : w = 0
                · rw [if_neg (by rw [g7]; decide)] at k2
                  simp (disch := omega) only [e150_0, e150_1, e150_2, e150_5, e150_8, e150_9, e150_10, e150_13, e150_16, e150_17, e150_18, e150_19, e150_22, e150_25, e150_28, e150_30, e150_31, e150_32, e150_35, e150_38, e150_41, e150_43, e150_44, e150_45, e150_46, e150_49, e150_52, e150_53, e150_54, e150_55, e150_57, e150_58, e150_60, e150_61, e150_65, e150_67, e150_70, e150_71, e150_72, e150_73, e150_75, e150_76, e150_77, e150_80, e150_81, e150_82, e150_83, e150_84, e150_85, e150_87, e150_88, e150_89, e150_92, e150_93, e150_97, e150_98, e150_101, e150_102, e150_103, e150_106, e150_107, e150_110, e150_111, e150_114, e150_116, e150_118, e150_119, e150_120, e150_121, e150_122, e150_125, e150_128, e150_131, e150_133, e150_134, e150_137, e150_138, e150_139, e150_142, e150_145, e150_147, e150_148, e150_151, e150_152, e150_153, e150_156, e150_158, e150_160, e150_161, e150_162, e150_163, e150_164, e150_165, e150_168, e150_169, e150_170, e150_173, e150_174, e150_175, e150_176, e150_177, e150_178, e150_179, e150_182, e150_183, e150_186, e150_187, e150_188, e150_190, e150_193, e150_196, e150_198, e150_201, e150_203, e150_206, e150_208, g7, ↓reduceIte]; exact k2
                · have g8 : w = 1 := by
                    obtain ⟨z, -, hz, rfl⟩ := zrange (lo := 0) (hi := 1) (by decide) g5.1 g5.2 (by decide)
                    have : z ≠ 0 := fun e => g7 (by rw [e]; rfl)
                    rw [show z = 1 by omega]; rfl
                  rw [if_pos g8] at k2
                  simp (disch := omega) only [e150_0, e150_1, e150_2, e150_5, e150_8, e150_9, e150_10, e150_13, e150_16, e150_17, e150_18, e150_19, e150_22, e150_25, e150_28, e150_30, e150_31, e150_32, e150_35, e150_38, e150_41, e150_43, e150_44, e150_45, e150_46, e150_49, e150_52, e150_53, e150_54, e150_55, e150_57, e150_58, e150_60, e150_61, e150_65, e150_67, e150_70, e150_71, e150_72, e150_73, e150_75, e150_76, e150_77, e150_80, e150_81, e150_82, e150_83, e150_84, e150_85, e150_87, e150_88, e150_89, e150_92, e150_93, e150_97, e150_98, e150_101, e150_102, e150_103, e150_106, e150_107, e150_110, e150_111, e150_114, e150_116, e150_118, e150_119, e150_120, e150_121, e150_122, e150_125, e150_128, e150_131, e150_133, e150_134, e150_137, e150_138, e150_139, e150_142, e150_145, e150_147, e150_148, e150_151, e150_152, e150_153, e150_156, e150_158, e150_160, e150_161, e150_162, e150_163, e150_164, e150_165, e150_168, e150_169, e150_170, e150_173, e150_174, e150_175, e150_176, e150_177, e150_178, e150_179, e150_182, e150_183, e150_186, e150_187, e150_188, e150_190, e150_193, e150_196, e150_198, e150_201, e150_203, e150_206, e150_208, g7, ↓reduceIte]; exact k2)
            have z1 : (if oN S (F 0) ≤ nn then 0 else nSum (gR S (F 0) jn p nn) 0) = 0 := by split <;> rfl
            have z2 : (if oN S (F 0) ≤ nn then 0 else 0) = 0 := by split <;> rfl
            rw [z1, z2, nI_0] at key
            simp (disch := omega) only [e150_0, e150_1, e150_2, e150_5, e150_8, e150_9, e150_10, e150_13, e150_16, e150_17, e150_18, e150_19, e150_22, e150_25, e150_28, e150_30, e150_31, e150_32, e150_35, e150_38, e150_41, e150_43, e150_44, e150_45, e150_46, e150_49, e150_52, e150_53, e150_54, e150_55, e150_57, e150_58, e150_60, e150_61, e150_65, e150_67, e150_70, e150_71, e150_72, e150_73, e150_75, e150_76, e150_77, e150_80, e150_81, e150_82, e150_83, e150_84, e150_85, e150_87, e150_88, e150_89, e150_92, e150_93, e150_97, e150_98, e150_101, e150_102, e150_103, e150_106, e150_107, e150_110, e150_111, e150_114, e150_116, e150_118, e150_119, e150_120, e150_121, e150_122, e150_125, e150_128, e150_131, e150_133, e150_134, e150_137, e150_138, e150_139, e150_142, e150_145, e150_147, e150_148, e150_151, e150_152, e150_153, e150_156, e150_158, e150_160, e150_161, e150_162, e150_163, e150_164, e150_165, e150_168, e150_169, e150_170, e150_173, e150_174, e150_175, e150_176, e150_177, e150_178, e150_179, e150_182, e150_183, e150_186, e150_187, e150_188, e150_190, e150_193, e150_196, e150_198, e150_201, e150_203, e150_206, e150_208]
            exact key
          · rw [if_neg g5]
            rw [if_neg (fun z => g5 z.2.2.2.2)] at K
            exact K h rf
        · rw [if_neg g4]
          rw [if_neg (fun z => g4 z.2.2.2.1)] at K
          exact K h rf
      · rw [if_neg g3]
        rw [if_neg (fun z => g3 z.2.2.1)] at K
        exact K h rf
    · rw [if_neg g2]
      rw [if_neg (fun z => g2 z.2.1)] at K
      exact K h rf
  · rw [if_neg g1]
    rw [if_neg (fun z => g1 z.1)] at K
    exact K h rf
end C50
