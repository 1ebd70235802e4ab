-- later, hair
section C44
variable {X : Nat × (Nat → Int32)} {N : Nat} {h : zH} {Q : Option Value → Nat → zH → Prop} {S : zSh} {T : zTm} {F : Nat → zTm} {D : Nat → Prop} {ld dd : Nat} {i j p q d e r w k z t m v n hh : Int32}
variable {len at_ rp rj np_ nj_ kp su lo dr : Int32} {ab be : Int64} {la : Nat → Int32}
def iSum (f : Nat → Int32) : Nat → Int32
  | 0 => 0
  | k + 1 => iSum f k + f k
set_option maxHeartbeats 2000000 in
theorem iSum_congr {f g : Nat → Int32} : ∀ n, (∀ k, k < n → f k = g k) → iSum f n = iSum g n
  | 0, _ => rfl
  | n + 1, h => by rw [iSum, iSum, iSum_congr n (fun k hk => h k (by omega)), h n (by omega)]
set_option maxHeartbeats 2000000 in
theorem iSum_sub {f g : Nat → Int32} : ∀ n, iSum (fun k => f k - g k) n = iSum f n - iSum g n
  | 0 => by
    show (0 : Int32) = 0 - 0
    decide
  | n + 1 => by
    rw [iSum, iSum, iSum, iSum_sub n]
    simp only [Int32.sub_eq_add_neg, Int32.neg_add]
    ac_rfl
set_option maxHeartbeats 2000000 in
theorem iSum_front {f : Nat → Int32} : ∀ n, iSum f (n + 1) = f 0 + iSum (fun k => f (k + 1)) n
  | 0 => by
    show 0 + f 0 = f 0 + 0
    exact Int32.add_comm _ _
  | n + 1 => by
    rw [iSum, iSum_front n, iSum, Int32.add_assoc]
set_option maxHeartbeats 2000000 in
theorem iSum_rev {f : Nat → Int32} : ∀ n, iSum (fun k => f (n - 1 - k)) n = iSum f n
  | 0 => rfl
  | n + 1 => by
    rw [iSum_front, iSum, ← iSum_rev n, Int32.add_comm]
    congr 1
    apply iSum_congr
    intro k hk
    congr 1
    omega
def aLater (S : zSh) (la : Nat → Int32) (i v : Int32) : Int32 := if isNo S.1.1 i ∧ (0 ≤ v ∧ v ≤ 999) then la i.toNatClampNeg else -1
def uLater (S : zSh) (la : Nat → Int32) (i v : Int32) : Nat → Int32 := if isNo S.1.1 i ∧ (0 ≤ v ∧ v ≤ 999) then upd la i.toNatClampNeg v else la
set_option maxHeartbeats 2000000 in
theorem c86 {la0 : Nat → Int32} (h0 : h 0 = pObj ld dd kp) (hs : pSh h ld S) (ok : sK S) (h20 : h 20 = .inl (.int, 24, la0)) (hla : ∀ j, j < 24 → la0 j = la j) (K : ∀ h' la1, h' 20 = .inl (.int, 24, la1) → (∀ j, j < 24 → la1 j = uLater S la i v j) → zfr (fun a => a = 20) h h' → Q (some (.int (aLater S la i v))) N h') : zE X 86 0 [some (.ref 0), some (.int i), some (.int v), none] [] (N, 0, 0) h Q := by
  have h0' := h0
  unfold pObj at h0
  have b1 := ok.1.1
  simp only [e86_0, e86_1, e86_2, e86_5, e86_8, e86_9, e86_10, e86_13, e86_16, e86_19, e86_20, e86_22, e86_25, e86_26, e86_27, e86_28, e86_29, e86_32, e86_33, e86_34, e86_35, e86_36, h0, c35 h0' hs, c13, zrc_eq, zup_s, zup_n, zup_up, zal_i, zal_b, zal_z, zas_i, zas_b, zas_z, zan_eq, Option.toList_some, Option.toList_none, List.cons_append, List.nil_append, if_true, if_false, ite_true, ite_false, true_or, or_true, z10, z00]
  unfold aLater uLater at K
  by_cases g1 : isNo S.1.1 i
  · rw [if_pos g1]
    by_cases g2 : 0 ≤ v ∧ v ≤ 999
    · rw [if_pos g2]
      rw [if_pos ⟨g1, g2⟩, if_pos ⟨g1, g2⟩] at K
      obtain ⟨a, ha, rfl⟩ := g1.nat (by omega)
      rw [nI_clamp (by omega)] at K
      simp (disch := omega) only [e86_0, e86_1, e86_2, e86_5, e86_8, e86_9, e86_10, e86_13, e86_16, e86_19, e86_20, e86_21, e86_22, e86_25, e86_26, e86_27, e86_28, e86_29, e86_32, e86_33, e86_34, e86_35, e86_36, h0, h20, zg9_0, zp9_0, zg9_1, zp9_1, zg9_2, zp9_2, zg9_3, zp9_3, zg9_4, zp9_4, zg9_5, zp9_5, zg9_6, zp9_6, zg9_7, zp9_7, zg9_8, zp9_8, zg9_9, zp9_9, zg9_10, zp9_10, zg9_11, zp9_11, zg9_12, zp9_12, zg9_13, zp9_13, zg9_14, zp9_14, zg9_15, zp9_15, zg9_16, zp9_16, zrc_eq, zup_s, zup_n, zup_up, zal_i, zal_b, zal_z, zas_i, zas_b, zas_z, zan_eq, Option.toList_some, Option.toList_none, List.cons_append, List.nil_append, if_true, if_false, ite_true, ite_false, true_or, or_true]
      rw [hla a (by omega)]
      refine K _ _ zup_s (fun j hj => ?_) (zfr.up rfl zfr.rf)
      by_cases q : j = a
      · subst q; rw [upd_s, upd_s]
      · rw [upd_n q, upd_n q]; exact hla j hj
    · rw [if_neg g2]
      rw [if_neg (fun z => g2 z.2), if_neg (fun z => g2 z.2)] at K
      exact K h _ h20 hla zfr.rf
  · rw [if_neg g1]
    rw [if_neg (fun z => g1 z.1), if_neg (fun z => g1 z.1)] at K
    exact K h _ h20 hla zfr.rf
set_option maxHeartbeats 2000000 in
theorem zv999 {v : Int32} : ((0 : Int32).toInt64 ≤ v.toInt64 ∧ v.toInt64 ≤ 999) = (0 ≤ v ∧ v ≤ 999) := by
  rw [show (999 : Int64) = (999 : Int32).toInt64 from by decide, zl_le, zl_le]
set_option maxHeartbeats 2000000 in
theorem c148 {la0 : Nat → Int32} (h1 : h 53 = mObj len at_ rp rj (nI S.1.1) nj_ kp su lo dr ab be) (ok : sK S) (h20 : h 62 = .inl (.int, 24, la0)) (hla : ∀ j, j < 24 → la0 j = la j) (K : ∀ h' la1, h' 62 = .inl (.int, 24, la1) → (∀ j, j < 24 → la1 j = uLater S la i v j) → zfr (fun a => a = 62) h h' → Q (some (.int (aLater S la i v))) N h') : zE X 148 0 [some (.ref 53), some (.int i), some (.int v), none] [] (N, 0, 0) h Q := by
  have h1' := h1
  unfold mObj at h1
  have b1 := ok.1.1
  simp only [e148_0, e148_1, e148_2, e148_5, e148_8, e148_9, e148_10, e148_11, e148_14, e148_17, e148_20, e148_21, e148_23, e148_26, e148_27, e148_28, e148_29, e148_30, e148_33, e148_34, e148_35, e148_36, e148_37, h1, c117 b1 h1', c108, zrc_eq, zup_s, zup_n, zup_up, zal_i, zal_b, zal_z, zas_i, zas_b, zas_z, zan_eq, Option.toList_some, Option.toList_none, List.cons_append, List.nil_append, if_true, if_false, ite_true, ite_false, true_or, or_true, z10, z00, zl64, zv999]
  unfold aLater uLater at K
  by_cases g1 : isNo S.1.1 i
  · rw [if_pos g1]
    by_cases g2 : 0 ≤ v ∧ v ≤ 999
    · rw [if_pos g2]
      rw [if_pos ⟨g1, g2⟩, if_pos ⟨g1, g2⟩] at K
      obtain ⟨a, ha, rfl⟩ := g1.nat (by omega)
      rw [nI_clamp (by omega)] at K
      simp (disch := omega) only [e148_0, e148_1, e148_2, e148_5, e148_8, e148_9, e148_10, e148_11, e148_14, e148_17, e148_20, e148_21, e148_22, e148_23, e148_26, e148_27, e148_28, e148_29, e148_30, e148_33, e148_34, e148_35, e148_36, e148_37, h1, h20, zg10_0, zp10_0, zg10_1, zp10_1, zg10_2, zp10_2, zg10_3, zp10_3, zg10_4, zp10_4, zg10_5, zp10_5, zg10_6, zp10_6, zg10_7, zp10_7, zg10_8, zp10_8, zg10_9, zp10_9, zg10_10, zp10_10, zg10_11, zp10_11, zg10_12, zp10_12, zg10_13, zp10_13, zg10_14, zp10_14, zg10_15, zp10_15, zg10_16, zp10_16, zg10_17, zp10_17, zg10_18, zp10_18, zg10_19, zp10_19, zg10_20, zp10_20, zg10_21, zp10_21, zg10_22, zp10_22, zg10_23, zp10_23, zg10_24, zp10_24, zg10_25, zp10_25, zg10_26, zp10_26, zg10_27, zp10_27, zg10_28, zp10_28, zg10_29, zp10_29, zg10_30, zp10_30, zg10_31, zp10_31, zg10_32, zp10_32, zrc_eq, zup_s, zup_n, zup_up, zal_i, zal_b, zal_z, zas_i, zas_b, zas_z, zan_eq, Option.toList_some, Option.toList_none, List.cons_append, List.nil_append, if_true, if_false, ite_true, ite_false, true_or, or_true]
      rw [hla a (by omega)]
      refine K _ _ zup_s (fun j hj => ?_) (zfr.up rfl zfr.rf)
      by_cases q : j = a
      · subst q; rw [upd_s, upd_s]
      · rw [upd_n q, upd_n q]; exact hla j hj
    · rw [if_neg g2]
      rw [if_neg (fun z => g2 z.2), if_neg (fun z => g2 z.2)] at K
      exact K h _ h20 hla zfr.rf
  · rw [if_neg g1]
    rw [if_neg (fun z => g1 z.1), if_neg (fun z => g1 z.1)] at K
    exact K h _ h20 hla zfr.rf
set_option maxHeartbeats 2000000 in
theorem c88_loop {a b n : Nat} {f : Nat → Nat} {la0 : Nat → Int32} {l1 : Option Value} (h0 : h 0 = pObj ld dd kp) (hs : pSh h ld S) (h24 : S.1.1 ≤ 24) (hr : pRn h 37 n f) (hf : ∀ j, j < n → f j < S.1.1) (h20 : h 20 = .inl (.int, 24, la0)) (hla : ∀ j, j < 24 → la0 j = la j) (hb : a + b ≤ n) : ∀ (m u : Nat) (l5 : Option Value), m + u = b → zE X 88 5 [some (.ref 0), l1, some (.int (nI (a + b))), some (.int (iSum (fun k => la (f (a + k))) u)), some (.int (nI (a + u))), l5] [] (N, 0, 0) h Q = Q (some (.int (iSum (fun k => la (f (a + k))) b))) N h := by
  have h0' := h0
  unfold pObj at h0
  obtain ⟨o1, o2⟩ := hr.obj
  intro m
  induction m with
  | zero =>
    intro u l5 hu
    obtain rfl : u = b := by omega
    rw [e88_5]
    simp (disch := omega) only [e88_0, e88_1, e88_2, e88_3, e88_7, e88_8, e88_11, e88_12, e88_15, e88_17, e88_20, e88_22, e88_23, e88_25, e88_28, e88_31, e88_32, e88_33, e88_36, e88_38, e88_39, e88_40, e88_41, e88_44, e88_47, e88_48, znI_le, if_pos]
  | succ m ih =>
    intro u l5 hu
    have ih' := ih (u + 1) (some (.int (nI (f (a + u))))) (by omega)
    rw [iSum, ← Nat.add_assoc] at ih'
    have hfu := hf (a + u) (by omega)
    have g : isNo S.1.1 (nI (f (a + u))) := ⟨nI_pos' (by omega), (nI_ltI (by omega) (by omega)).mpr hfu⟩
    have g' := eq_true g
    rw [e88_5]
    simp (disch := omega) only [e88_0, e88_1, e88_2, e88_3, e88_7, e88_8, e88_11, e88_12, e88_15, e88_17, e88_20, e88_22, e88_23, e88_25, e88_28, e88_31, e88_32, e88_33, e88_36, e88_38, e88_39, e88_40, e88_41, e88_44, e88_47, e88_48, h0, o1, h20, zg9_0, zp9_0, zg9_1, zp9_1, zg9_2, zp9_2, zg9_3, zp9_3, zg9_4, zp9_4, zg9_5, zp9_5, zg9_6, zp9_6, zg9_7, zp9_7, zg9_8, zp9_8, zg9_9, zp9_9, zg9_10, zp9_10, zg9_11, zp9_11, zg9_12, zp9_12, zg9_13, zp9_13, zg9_14, zp9_14, zg9_15, zp9_15, zg9_16, zp9_16, zrc_eq, zup_s, zup_n, zup_up, zal_i, zal_b, zal_z, zas_i, zas_b, zas_z, zan_eq, Option.toList_some, Option.toList_none, List.cons_append, List.nil_append, if_true, if_false, ite_true, ite_false, true_or, or_true, znI_le, if_neg, c46 hr, c35 h0' hs, g', ↓reduceIte, z10, nI_1, hla]
    exact ih'
set_option maxHeartbeats 2000000 in
theorem c88 {a b n : Nat} {f : Nat → Nat} {la0 : Nat → Int32} (h0 : h 0 = pObj ld dd kp) (hs : pSh h ld S) (h24 : S.1.1 ≤ 24) (hr : pRn h 37 n f) (hf : ∀ j, j < n → f j < S.1.1) (h20 : h 20 = .inl (.int, 24, la0)) (hla : ∀ j, j < 24 → la0 j = la j) (hb : a + b ≤ n) : zE X 88 0 [some (.ref 0), some (.int (nI a)), some (.int (nI (a + b))), none, none, none] [] (N, 0, 0) h Q = Q (some (.int (iSum (fun k => la (f (a + k))) b))) N h := by
  simp only [e88_0, e88_1, e88_2, e88_3, e88_7, e88_8, e88_11, e88_12, e88_15, e88_17, e88_20, e88_22, e88_23, e88_25, e88_28, e88_31, e88_32, e88_33, e88_36, e88_38, e88_39, e88_40, e88_41, e88_44, e88_47, e88_48]
  exact c88_loop h0 hs h24 hr hf h20 hla hb b 0 none (by omega)
def aHair (S : zSh) (T : zTm) (la : Nat → Int32) (p d n hh : Int32) : Int32 := if isPan S.2.1.1 p ∧ isDr d ∧ (1 ≤ n ∧ n ≤ 12) ∧ (1 ≤ hh ∧ hh ≤ 12) then (if hh.toNatClampNeg ≤ n.toNatClampNeg ∧ n.toNatClampNeg + hh.toNatClampNeg ≤ oN S T then iSum (fun k => la (oF S T p d (n.toNatClampNeg - hh.toNatClampNeg + k))) hh.toNatClampNeg - iSum (fun k => la (oF S T p d (n.toNatClampNeg + k))) hh.toNatClampNeg else -1000002) else -1000000
set_option maxHeartbeats 2000000 in
theorem c87 {la0 : Nat → Int32} (hc : zCR h ld dd kp S T) (h20 : h 20 = .inl (.int, 24, la0)) (hla : ∀ j, j < 24 → la0 j = la j) (K : ∀ h', zCS h' → zcf h h' → Q (some (.int (aHair S T la p d n hh))) N h') : zE X 87 0 [some (.ref 0), some (.int p), some (.int d), some (.int n), some (.int hh)] [] (N, 0, 0) h Q := by
  have hc' := hc
  obtain ⟨h0, hd, hs, ok, ht, cs⟩ := hc
  have h0' := h0
  unfold pObj at h0
  simp only [e87_0, e87_1, e87_2, e87_5, e87_8, e87_9, e87_12, e87_15, e87_16, e87_17, e87_19, e87_22, e87_25, e87_27, e87_28, e87_30, e87_33, e87_36, e87_38, e87_40, e87_43, e87_44, e87_47, e87_48, e87_51, e87_52, e87_53, e87_54, e87_57, e87_59, e87_60, e87_63, e87_64, e87_66, e87_67, e87_68, e87_71, e87_74, e87_77, e87_79, e87_80, e87_81, e87_82, e87_84, e87_85, e87_86, e87_89, e87_90, e87_91, e87_92, e87_94, e87_95, e87_98, e87_99, h0, c41 h0' hs, c37, c13, zrc_eq, zup_s, zup_n, zup_up, zal_i, zal_b, zal_z, zas_i, zas_b, zas_z, zan_eq, Option.toList_some, Option.toList_none, List.cons_append, List.nil_append, if_true, if_false, ite_true, ite_false, true_or, or_true, z10, z00]
  unfold aHair at K
  by_cases g1 : isPan S.2.1.1 p
  · rw [if_pos g1]
    by_cases g2 : isDr d
    · rw [if_pos g2]
      by_cases g3 : 1 ≤ n ∧ n ≤ 12
      · rw [if_pos g3]
        by_cases g4 : 1 ≤ hh ∧ hh ≤ 12
        · rw [if_pos g4]
          rw [if_pos ⟨g1, g2, g3, g4⟩] at K
          obtain ⟨nn, hn1, hn2, rfl⟩ := zrange (lo := 1) (hi := 12) (by decide) g3.1 g3.2 (by decide)
          obtain ⟨hn, hh1, hh2, rfl⟩ := zrange (lo := 1) (hi := 12) (by decide) g4.1 g4.2 (by decide)
          have en : (nI nn).toNatClampNeg = nn := nI_clamp (by omega)
          have eh : (nI hn).toNatClampNeg = hn := nI_clamp (by omega)
          rw [en, eh] at K
          obtain ⟨x, pl, po, ra, q1, -⟩ := cs.1
          simp (disch := omega) only [e87_0, e87_1, e87_2, e87_5, e87_8, e87_9, e87_12, e87_15, e87_16, e87_17, e87_19, e87_22, e87_25, e87_27, e87_28, e87_30, e87_33, e87_36, e87_38, e87_39, e87_40, e87_43, e87_44, e87_47, e87_48, e87_51, e87_52, e87_53, e87_54, e87_57, e87_59, e87_60, e87_63, e87_64, e87_66, e87_67, e87_68, e87_71, e87_74, e87_77, e87_79, e87_80, e87_81, e87_82, e87_84, e87_85, e87_86, e87_89, e87_90, e87_91, e87_92, e87_94, e87_95, e87_98, e87_99, h0, q1, zg9_0, zp9_0, zg9_1, zp9_1, zg9_2, zp9_2, zg9_3, zp9_3, zg9_4, zp9_4, zg9_5, zp9_5, zg9_6, zp9_6, zg9_7, zp9_7, zg9_8, zp9_8, zg9_9, zp9_9, zg9_10, zp9_10, zg9_11, zp9_11, zg9_12, zp9_12, zg9_13, zp9_13, zg9_14, zp9_14, zg9_15, zp9_15, zg9_16, zp9_16, zrc_eq, zup_s, zup_n, zup_up, zal_i, zal_b, zal_z, zas_i, zas_b, zas_z, zan_eq, Option.toList_some, Option.toList_none, List.cons_append, List.nil_append, if_true, if_false, ite_true, ite_false, true_or, or_true]
          refine c42n (Or.inl rfl) hc' cs.1 (fun h' a1 a2 => ?_)
          have F1 : zcf h h' := a2.mono (fun a ha => by omega)
          have C1 : zCS h' := cs.two (a2.mono (fun a ha => by omega)) a1.r0 (cs.2.1.kept a2 (by omega))
          have R1 := hc'.kept F1 C1
          have e0 := (F1 0 (by omega)).trans h0
          have e20 := (F1 20 (by omega)).trans h20
          obtain ⟨o1, o2⟩ := a1.obj
          have hO := oOkN (S := S) (T := T) (p := p) (d := d)
          have hf : ∀ j, j < oN S T → oF S T p d j < S.1.1 := fun j hj => (hO.2.1 j hj).1
          by_cases g5 : hn ≤ nn
          · by_cases g6 : nn + hn ≤ oN S T
            · rw [if_pos ⟨g5, g6⟩] at K
              have E1 := fun Q' => c88 (X := X) (N := N) (Q := Q') (a := nn - hn) (b := hn) R1.1 R1.2.2.1 ok.1.1 a1 hf e20 hla (by omega)
              have E2 := fun Q' => c88 (X := X) (N := N) (Q := Q') (a := nn) (b := hn) R1.1 R1.2.2.1 ok.1.1 a1 hf e20 hla (by omega)
              rw [show nn - hn + hn = nn by omega] at E1
              simp (disch := omega) only [e87_0, e87_1, e87_2, e87_5, e87_8, e87_9, e87_12, e87_15, e87_16, e87_17, e87_19, e87_22, e87_25, e87_27, e87_28, e87_30, e87_33, e87_36, e87_38, e87_39, e87_40, e87_43, e87_44, e87_47, e87_48, e87_51, e87_52, e87_53, e87_54, e87_57, e87_59, e87_60, e87_63, e87_64, e87_66, e87_67, e87_68, e87_71, e87_74, e87_77, e87_79, e87_80, e87_81, e87_82, e87_84, e87_85, e87_86, e87_89, e87_90, e87_91, e87_92, e87_94, e87_95, e87_98, e87_99, Option.toList_none, List.nil_append, e0, o1, zg9_0, zp9_0, zg9_1, zp9_1, zg9_2, zp9_2, zg9_3, zp9_3, zg9_4, zp9_4, zg9_5, zp9_5, zg9_6, zp9_6, zg9_7, zp9_7, zg9_8, zp9_8, zg9_9, zp9_9, zg9_10, zp9_10, zg9_11, zp9_11, zg9_12, zp9_12, zg9_13, zp9_13, zg9_14, zp9_14, zg9_15, zp9_15, zg9_16, zp9_16, zg2_0, zp2_0, zg2_1, zp2_1, zg2_2, zp2_2, zg2_3, zp2_3, zrc_eq, zup_s, zup_n, zup_up, zal_i, zal_b, zal_z, zas_i, zas_b, zas_z, zan_eq, Option.toList_some, Option.toList_none, List.cons_append, List.nil_append, if_true, if_false, ite_true, ite_false, true_or, or_true, znI_lt, znI_le, if_neg, if_pos, nI_add, pk_sub, E1, E2]
              exact K h' C1 F1
            · rw [if_neg (fun z => g6 z.2)] at K
              simp (disch := omega) only [e87_0, e87_1, e87_2, e87_5, e87_8, e87_9, e87_12, e87_15, e87_16, e87_17, e87_19, e87_22, e87_25, e87_27, e87_28, e87_30, e87_33, e87_36, e87_38, e87_39, e87_40, e87_43, e87_44, e87_47, e87_48, e87_51, e87_52, e87_53, e87_54, e87_57, e87_59, e87_60, e87_63, e87_64, e87_66, e87_67, e87_68, e87_71, e87_74, e87_77, e87_79, e87_80, e87_81, e87_82, e87_84, e87_85, e87_86, e87_89, e87_90, e87_91, e87_92, e87_94, e87_95, e87_98, e87_99, Option.toList_none, List.nil_append, e0, o1, zg9_0, zp9_0, zg9_1, zp9_1, zg9_2, zp9_2, zg9_3, zp9_3, zg9_4, zp9_4, zg9_5, zp9_5, zg9_6, zp9_6, zg9_7, zp9_7, zg9_8, zp9_8, zg9_9, zp9_9, zg9_10, zp9_10, zg9_11, zp9_11, zg9_12, zp9_12, zg9_13, zp9_13, zg9_14, zp9_14, zg9_15, zp9_15, zg9_16, zp9_16, zg2_0, zp2_0, zg2_1, zp2_1, zg2_2, zp2_2, zg2_3, zp2_3, zrc_eq, zup_s, zup_n, zup_up, zal_i, zal_b, zal_z, zas_i, zas_b, zas_z, zan_eq, Option.toList_some, Option.toList_none, List.cons_append, List.nil_append, if_true, if_false, ite_true, ite_false, true_or, or_true, znI_lt, znI_le, if_neg, nI_add]
              exact K h' C1 F1
          · rw [if_neg (fun z => g5 z.1)] at K
            simp (disch := omega) only [e87_0, e87_1, e87_2, e87_5, e87_8, e87_9, e87_12, e87_15, e87_16, e87_17, e87_19, e87_22, e87_25, e87_27, e87_28, e87_30, e87_33, e87_36, e87_38, e87_39, e87_40, e87_43, e87_44, e87_47, e87_48, e87_51, e87_52, e87_53, e87_54, e87_57, e87_59, e87_60, e87_63, e87_64, e87_66, e87_67, e87_68, e87_71, e87_74, e87_77, e87_79, e87_80, e87_81, e87_82, e87_84, e87_85, e87_86, e87_89, e87_90, e87_91, e87_92, e87_94, e87_95, e87_98, e87_99, Option.toList_none, List.nil_append, znI_lt, if_pos]
            exact K h' C1 F1
        · rw [if_neg g4]
          rw [if_neg (fun z => g4 z.2.2.2)] at K
          exact K h cs zfr.rf
      · rw [if_neg g3]
        rw [if_neg (fun z => g3 z.2.2.1)] at K
        exact K h cs zfr.rf
    · rw [if_neg g2]
      rw [if_neg (fun z => g2 z.2.1)] at K
      exact K h cs zfr.rf
  · rw [if_neg g1]
    rw [if_neg (fun z => g1 z.1)] at K
    exact K h cs zfr.rf
set_option maxHeartbeats 2000000 in
theorem zn12 {v : Int32} : ((1 : Int64) ≤ v.toInt64 ∧ v.toInt64 ≤ 12) = (1 ≤ v ∧ v ≤ 12) := by
  rw [show (1 : Int64) = (1 : Int32).toInt64 from by decide, show (12 : Int64) = (12 : Int32).toInt64 from by decide, zl_le, zl_le]
set_option maxHeartbeats 2000000 in
theorem c149_77 {nn hn n : Nat} {f : Nat → Nat} {la0 od : Nat → Int32} {l1 l2 : Option Value} (h1 : h 53 = mObj len at_ rp rj np_ nj_ kp su lo dr ab be) (h2 : h 69 = .inl (.int, 48, od)) (hn24 : n ≤ 24) (ho : ∀ j, j < n → od j = nI (f j)) (hf : ∀ j, j < n → f j < 24) (h62 : h 62 = .inl (.int, 24, la0)) (hla : ∀ j, j < 24 → la0 j = la j) (g5 : hn ≤ nn) (g6 : nn + hn ≤ n) : ∀ (m u : Nat), m + u = hn → zE X 149 77 [some (.ref 53), l1, l2, some (.int (nI nn)), some (.int (nI hn)), some (.int (iSum (fun k => la (f (nn - 1 - k)) - la (f (nn + k))) u)), some (.int (nI u))] [] (N, 0, 0) h Q = Q (some (.int (iSum (fun k => la (f (nn - 1 - k)) - la (f (nn + k))) hn))) N h := by
  have h1' := h1
  unfold mObj at h1
  intro m
  induction m with
  | zero =>
    intro u hu
    obtain rfl : u = hn := by omega
    rw [e149_77]
    simp (disch := omega) only [e149_0, e149_1, e149_2, e149_5, e149_8, e149_9, e149_12, e149_15, e149_16, e149_17, e149_18, e149_21, e149_24, e149_27, e149_29, e149_30, e149_31, e149_34, e149_37, e149_40, e149_42, e149_43, e149_44, e149_45, e149_46, e149_49, e149_51, e149_52, e149_55, e149_56, e149_58, e149_59, e149_60, e149_63, e149_64, e149_65, e149_68, e149_70, e149_71, e149_72, e149_74, e149_75, e149_79, e149_81, e149_84, e149_86, e149_87, e149_90, e149_91, e149_94, e149_95, e149_96, e149_97, e149_99, e149_100, e149_101, e149_102, e149_103, e149_106, e149_107, e149_110, e149_111, e149_113, e149_114, e149_115, e149_116, e149_117, e149_118, e149_120, e149_123, e149_126, e149_128, znI_le, if_pos]
  | succ m ih =>
    intro u hu
    have ih' := ih (u + 1) (by omega)
    rw [iSum] at ih'
    have f1 := hf (nn - 1 - u) (by omega)
    have f2 := hf (nn + u) (by omega)
    have e1 : nI nn - 1 - nI u = nI (nn - 1 - u) := by rw [show nI nn - 1 = nI (nn - 1) from pk_sub (b := 1) (by omega), pk_sub (by omega)]
    rw [e149_77]
    simp (disch := omega) only [e149_0, e149_1, e149_2, e149_5, e149_8, e149_9, e149_12, e149_15, e149_16, e149_17, e149_18, e149_21, e149_24, e149_27, e149_29, e149_30, e149_31, e149_34, e149_37, e149_40, e149_42, e149_43, e149_44, e149_45, e149_46, e149_49, e149_51, e149_52, e149_55, e149_56, e149_58, e149_59, e149_60, e149_63, e149_64, e149_65, e149_68, e149_70, e149_71, e149_72, e149_74, e149_75, e149_79, e149_81, e149_84, e149_86, e149_87, e149_90, e149_91, e149_94, e149_95, e149_96, e149_97, e149_99, e149_100, e149_102, e149_103, e149_106, e149_107, e149_110, e149_111, e149_113, e149_114, e149_115, e149_116, e149_117, e149_118, e149_120, e149_123, e149_126, e149_128, h1, h2, zg10_0, zp10_0, zg10_1, zp10_1, zg10_2, zp10_2, zg10_3, zp10_3, zg10_4, zp10_4, zg10_5, zp10_5, zg10_6, zp10_6, zg10_7, zp10_7, zg10_8, zp10_8, zg10_9, zp10_9, zg10_10, zp10_10, zg10_11, zp10_11, zg10_12, zp10_12, zg10_13, zp10_13, zg10_14, zp10_14, zg10_15, zp10_15, zg10_16, zp10_16, zg10_17, zp10_17, zg10_18, zp10_18, zg10_19, zp10_19, zg10_20, zp10_20, zg10_21, zp10_21, zg10_22, zp10_22, zg10_23, zp10_23, zg10_24, zp10_24, zg10_25, zp10_25, zg10_26, zp10_26, zg10_27, zp10_27, zg10_28, zp10_28, zg10_29, zp10_29, zg10_30, zp10_30, zg10_31, zp10_31, zg10_32, zp10_32, zrc_eq, zup_s, zup_n, zup_up, zal_i, zal_b, zal_z, zas_i, zas_b, zas_z, zan_eq, Option.toList_some, Option.toList_none, List.cons_append, List.nil_append, if_true, if_false, ite_true, ite_false, true_or, or_true, znI_le, if_neg, e1, ho]
    simp (disch := omega) only [e149_0, e149_1, e149_2, e149_5, e149_8, e149_9, e149_12, e149_15, e149_16, e149_17, e149_18, e149_21, e149_24, e149_27, e149_29, e149_30, e149_31, e149_34, e149_37, e149_40, e149_42, e149_43, e149_44, e149_45, e149_46, e149_49, e149_51, e149_52, e149_55, e149_56, e149_58, e149_59, e149_60, e149_63, e149_64, e149_65, e149_68, e149_70, e149_71, e149_72, e149_74, e149_75, e149_79, e149_81, e149_84, e149_86, e149_87, e149_90, e149_91, e149_94, e149_95, e149_96, e149_97, e149_99, e149_100, e149_101, e149_102, e149_103, e149_106, e149_107, e149_110, e149_111, e149_113, e149_114, e149_116, e149_117, e149_118, e149_120, e149_123, e149_126, e149_128, h1, h2, h62, zg10_0, zp10_0, zg10_1, zp10_1, zg10_2, zp10_2, zg10_3, zp10_3, zg10_4, zp10_4, zg10_5, zp10_5, zg10_6, zp10_6, zg10_7, zp10_7, zg10_8, zp10_8, zg10_9, zp10_9, zg10_10, zp10_10, zg10_11, zp10_11, zg10_12, zp10_12, zg10_13, zp10_13, zg10_14, zp10_14, zg10_15, zp10_15, zg10_16, zp10_16, zg10_17, zp10_17, zg10_18, zp10_18, zg10_19, zp10_19, zg10_20, zp10_20, zg10_21, zp10_21, zg10_22, zp10_22, zg10_23, zp10_23, zg10_24, zp10_24, zg10_25, zp10_25, zg10_26, zp10_26, zg10_27, zp10_27, zg10_28, zp10_28, zg10_29, zp10_29, zg10_30, zp10_30, zg10_31, zp10_31, zg10_32, zp10_32, zrc_eq, zup_s, zup_n, zup_up, zal_i, zal_b, zal_z, zas_i, zas_b, zas_z, zan_eq, Option.toList_some, Option.toList_none, List.cons_append, List.nil_append, if_true, if_false, ite_true, ite_false, true_or, or_true, nI_add, ho, hla]
    simp (disch := omega) only [e149_0, e149_1, e149_2, e149_5, e149_8, e149_9, e149_12, e149_15, e149_16, e149_17, e149_18, e149_21, e149_24, e149_27, e149_29, e149_30, e149_31, e149_34, e149_37, e149_40, e149_42, e149_43, e149_44, e149_45, e149_46, e149_49, e149_51, e149_52, e149_55, e149_56, e149_58, e149_59, e149_60, e149_63, e149_64, e149_65, e149_68, e149_70, e149_71, e149_72, e149_74, e149_75, e149_79, e149_81, e149_84, e149_86, e149_87, e149_90, e149_91, e149_94, e149_95, e149_96, e149_97, e149_99, e149_100, e149_101, e149_102, e149_103, e149_106, e149_107, e149_110, e149_111, e149_113, e149_114, e149_115, e149_116, e149_117, e149_118, e149_120, e149_123, e149_126, e149_128, h62, zrc_eq, zup_s, zup_n, zup_up, zal_i, zal_b, zal_z, zas_i, zas_b, zas_z, zan_eq, Option.toList_some, Option.toList_none, List.cons_append, List.nil_append, if_true, if_false, ite_true, ite_false, true_or, or_true, nI_1, hla]
    exact ih'
set_option maxHeartbeats 2000000 in
theorem c149 {la0 : Nat → Int32} (hm : zMR h S D F len at_ rp rj kp su lo dr ab be) (h62 : h 62 = .inl (.int, 24, la0)) (hla : ∀ j, j < 24 → la0 j = la j) (K : ∀ h', zMk' h h' S len at_ rp rj kp → Q (some (.int (aHair S (F 0) la p d n hh))) N h') : zE X 149 0 [some (.ref 53), some (.int p), some (.int d), some (.int n), some (.int hh), none, none] [] (N, 0, 0) h Q := by
  have hm' := hm
  obtain ⟨h1, hs, ok, hT, hD, ms⟩ := hm
  have h1' := h1
  have rf : zMk' h h S len at_ rp rj kp := ⟨⟨_, _, _, _, _, h1⟩, ms, zfr.rf⟩
  unfold mObj at h1
  simp only [e149_0, e149_1, e149_2, e149_5, e149_8, e149_9, e149_12, e149_15, e149_16, e149_17, e149_18, e149_21, e149_24, e149_27, e149_29, e149_30, e149_31, e149_34, e149_37, e149_40, e149_42, e149_44, e149_45, e149_46, e149_49, e149_51, e149_52, e149_55, e149_56, e149_58, e149_59, e149_60, e149_63, e149_64, e149_65, e149_68, e149_70, e149_71, e149_72, e149_74, e149_75, e149_79, e149_81, e149_84, e149_86, e149_87, e149_90, e149_91, e149_94, e149_95, e149_96, e149_97, e149_99, e149_100, e149_101, e149_102, e149_103, e149_106, e149_107, e149_110, e149_111, e149_113, e149_114, e149_115, e149_116, e149_117, e149_118, e149_120, e149_123, e149_126, e149_128, h1, c122 h1', c119, c108, zrc_eq, zup_s, zup_n, zup_up, zal_i, zal_b, zal_z, zas_i, zas_b, zas_z, zan_eq, Option.toList_some, Option.toList_none, List.cons_append, List.nil_append, if_true, if_false, ite_true, ite_false, true_or, or_true, z10, z00, zl64, zn12]
  unfold aHair at K
  by_cases g1 : isPan S.2.1.1 p
  · rw [if_pos g1]
    by_cases g2 : isDr d
    · rw [if_pos g2]
      by_cases g3 : 1 ≤ n ∧ n ≤ 12
      · rw [if_pos g3]
        by_cases g4 : 1 ≤ hh ∧ hh ≤ 12
        · rw [if_pos g4]
          rw [if_pos ⟨g1, g2, g3, g4⟩] at K
          obtain ⟨nn, hn1, hn2, rfl⟩ := zrange (lo := 1) (hi := 12) (by decide) g3.1 g3.2 (by decide)
          obtain ⟨hn, hh1, hh2, rfl⟩ := zrange (lo := 1) (hi := 12) (by decide) g4.1 g4.2 (by decide)
          have en : (nI nn).toNatClampNeg = nn := nI_clamp (by omega)
          have eh : (nI hn).toNatClampNeg = hn := nI_clamp (by omega)
          rw [en, eh] at K
          simp (disch := omega) only [e149_0, e149_1, e149_2, e149_5, e149_8, e149_9, e149_12, e149_15, e149_16, e149_17, e149_18, e149_21, e149_24, e149_27, e149_29, e149_30, e149_31, e149_34, e149_37, e149_40, e149_42, e149_43, e149_44, e149_45, e149_46, e149_49, e149_51, e149_52, e149_55, e149_56, e149_58, e149_59, e149_60, e149_63, e149_64, e149_65, e149_68, e149_70, e149_71, e149_72, e149_74, e149_75, e149_79, e149_81, e149_84, e149_86, e149_87, e149_90, e149_91, e149_94, e149_95, e149_96, e149_97, e149_99, e149_100, e149_101, e149_102, e149_103, e149_106, e149_107, e149_110, e149_111, e149_113, e149_114, e149_115, e149_116, e149_117, e149_118, e149_120, e149_123, e149_126, e149_128, h1, zrc_eq, zup_s, zup_n, zup_up, zal_i, zal_b, zal_z, zas_i, zas_b, zas_z, zan_eq, Option.toList_some, Option.toList_none, List.cons_append, List.nil_append, if_true, if_false, ite_true, ite_false, true_or, or_true]
          refine c123 hm' (fun h' a1 a2 a3 => ?_)
          have kk : zMk' h h' S len at_ rp rj kp := ⟨⟨_, _, _, _, _, a2.1⟩, a2.2.2.2.2.2, a3⟩
          obtain ⟨mn, od, rk, mk, n1, n2, n3, n4, n5, n6, n7, n8, n9⟩ := a1
          have e1 := a2.1
          unfold mObj at e1
          by_cases g5 : hn ≤ nn
          · by_cases g6 : nn + hn ≤ oN S (F 0)
            · rw [if_pos ⟨g5, g6⟩] at K
              simp (disch := omega) only [e149_0, e149_1, e149_2, e149_5, e149_8, e149_9, e149_12, e149_15, e149_16, e149_17, e149_18, e149_21, e149_24, e149_27, e149_29, e149_30, e149_31, e149_34, e149_37, e149_40, e149_42, e149_43, e149_44, e149_45, e149_46, e149_49, e149_51, e149_52, e149_55, e149_56, e149_58, e149_59, e149_60, e149_63, e149_64, e149_65, e149_68, e149_70, e149_71, e149_72, e149_74, e149_75, e149_79, e149_81, e149_84, e149_86, e149_87, e149_90, e149_91, e149_94, e149_95, e149_96, e149_97, e149_99, e149_100, e149_101, e149_102, e149_103, e149_106, e149_107, e149_110, e149_111, e149_113, e149_114, e149_115, e149_116, e149_117, e149_118, e149_120, e149_123, e149_126, e149_128, Option.toList_none, List.nil_append, e1, n1, n6, zg10_0, zp10_0, zg10_1, zp10_1, zg10_2, zp10_2, zg10_3, zp10_3, zg10_4, zp10_4, zg10_5, zp10_5, zg10_6, zp10_6, zg10_7, zp10_7, zg10_8, zp10_8, zg10_9, zp10_9, zg10_10, zp10_10, zg10_11, zp10_11, zg10_12, zp10_12, zg10_13, zp10_13, zg10_14, zp10_14, zg10_15, zp10_15, zg10_16, zp10_16, zg10_17, zp10_17, zg10_18, zp10_18, zg10_19, zp10_19, zg10_20, zp10_20, zg10_21, zp10_21, zg10_22, zp10_22, zg10_23, zp10_23, zg10_24, zp10_24, zg10_25, zp10_25, zg10_26, zp10_26, zg10_27, zp10_27, zg10_28, zp10_28, zg10_29, zp10_29, zg10_30, zp10_30, zg10_31, zp10_31, zg10_32, zp10_32, zrc_eq, zup_s, zup_n, zup_up, zal_i, zal_b, zal_z, zas_i, zas_b, zas_z, zan_eq, Option.toList_some, Option.toList_none, List.cons_append, List.nil_append, if_true, if_false, ite_true, ite_false, true_or, or_true, zc0, znI_lt, znI_le, if_neg, if_pos, nI_add]
              have key := c149_77 (X := X) (N := N) (Q := Q) (la := la) (l1 := some (.int p)) (l2 := some (.int d)) a2.1 n2 n5 (fun j hj => by have := n7 j hj; rwa [Nat.mul_zero, Nat.zero_add] at this) n9 ((a3 62 (by omega)).trans h62) hla g5 g6 hn 0 (by omega)
              refine Eq.mpr key ?_
              have es : iSum (fun k => la (oF S (F 0) p d (nn - 1 - k)) - la (oF S (F 0) p d (nn + k))) hn = iSum (fun k => la (oF S (F 0) p d (nn - hn + k))) hn - iSum (fun k => la (oF S (F 0) p d (nn + k))) hn := by
                rw [iSum_sub, ← iSum_rev (f := fun k => la (oF S (F 0) p d (nn - hn + k)))]
                congr 1
                apply iSum_congr
                intro k hk
                show la (oF S (F 0) p d (nn - 1 - k)) = la (oF S (F 0) p d (nn - hn + (hn - 1 - k)))
                congr 2
                omega
              rw [es]
              exact K h' kk
            · rw [if_neg (fun z => g6 z.2)] at K
              simp (disch := omega) only [e149_0, e149_1, e149_2, e149_5, e149_8, e149_9, e149_12, e149_15, e149_16, e149_17, e149_18, e149_21, e149_24, e149_27, e149_29, e149_30, e149_31, e149_34, e149_37, e149_40, e149_42, e149_43, e149_44, e149_45, e149_46, e149_49, e149_51, e149_52, e149_55, e149_56, e149_58, e149_59, e149_60, e149_63, e149_64, e149_65, e149_68, e149_70, e149_71, e149_72, e149_74, e149_75, e149_79, e149_81, e149_84, e149_86, e149_87, e149_90, e149_91, e149_94, e149_95, e149_96, e149_97, e149_99, e149_100, e149_101, e149_102, e149_103, e149_106, e149_107, e149_110, e149_111, e149_113, e149_114, e149_115, e149_116, e149_117, e149_118, e149_120, e149_123, e149_126, e149_128, Option.toList_none, List.nil_append, e1, n1, n6, zg10_0, zp10_0, zg10_1, zp10_1, zg10_2, zp10_2, zg10_3, zp10_3, zg10_4, zp10_4, zg10_5, zp10_5, zg10_6, zp10_6, zg10_7, zp10_7, zg10_8, zp10_8, zg10_9, zp10_9, zg10_10, zp10_10, zg10_11, zp10_11, zg10_12, zp10_12, zg10_13, zp10_13, zg10_14, zp10_14, zg10_15, zp10_15, zg10_16, zp10_16, zg10_17, zp10_17, zg10_18, zp10_18, zg10_19, zp10_19, zg10_20, zp10_20, zg10_21, zp10_21, zg10_22, zp10_22, zg10_23, zp10_23, zg10_24, zp10_24, zg10_25, zp10_25, zg10_26, zp10_26, zg10_27, zp10_27, zg10_28, zp10_28, zg10_29, zp10_29, zg10_30, zp10_30, zg10_31, zp10_31, zg10_32, zp10_32, zrc_eq, zup_s, zup_n, zup_up, zal_i, zal_b, zal_z, zas_i, zas_b, zas_z, zan_eq, Option.toList_some, Option.toList_none, List.cons_append, List.nil_append, if_true, if_false, ite_true, ite_false, true_or, or_true, zc0, znI_lt, znI_le, if_neg, nI_add]
              exact K h' kk
          · rw [if_neg (fun z => g5 z.1)] at K
            simp (disch := omega) only [e149_0, e149_1, e149_2, e149_5, e149_8, e149_9, e149_12, e149_15, e149_16, e149_17, e149_18, e149_21, e149_24, e149_27, e149_29, e149_30, e149_31, e149_34, e149_37, e149_40, e149_42, e149_43, e149_44, e149_45, e149_46, e149_49, e149_51, e149_52, e149_55, e149_56, e149_58, e149_59, e149_60, e149_63, e149_64, e149_65, e149_68, e149_70, e149_71, e149_72, e149_74, e149_75, e149_79, e149_81, e149_84, e149_86, e149_87, e149_90, e149_91, e149_94, e149_95, e149_96, e149_97, e149_99, e149_100, e149_101, e149_102, e149_103, e149_106, e149_107, e149_110, e149_111, e149_113, e149_114, e149_115, e149_116, e149_117, e149_118, e149_120, e149_123, e149_126, e149_128, Option.toList_none, List.nil_append, znI_lt, if_pos]
            exact K h' kk
        · rw [if_neg g4]
          rw [if_neg (fun z => g4 z.2.2.2)] at K
          exact K h rf
      · rw [if_neg g3]
        rw [if_neg (fun z => g3 z.2.2.1)] at K
        exact K h rf
    · rw [if_neg g2]
      rw [if_neg (fun z => g2 z.2.1)] at K
      exact K h rf
  · rw [if_neg g1]
    rw [if_neg (fun z => g1 z.1)] at K
    exact K h rf
end C44
