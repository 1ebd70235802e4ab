-- the sheet takes an item
section C18
variable {X : Nat × (Nat → Int32)} {N : Nat} {h : zH} {Q : Option Value → Nat → zH → Prop}
theorem zE_tab {y pc len t : Nat} {L : zL} {st : List Value} {w : zN} {d lo hi off : Int} {offs : Array Int} {x : Int32} (hd : decode (mB y) pc = .ok (.tableswitch d lo hi offs, len)) (h1 : ¬ (x.toInt < lo ∨ hi < x.toInt)) (ho : offs[(x.toInt - lo).toNat]? = some off) (ht : (pc : Int) + off = (t : Int)) : zE X y pc L (.int x :: st) w h Q = zE X y t L st w h Q := zE_go (by rw [zS_of hd]; simp only [zI, h1, ho, if_false, zjmp_eq ht])
theorem zE_tabd {y pc len t : Nat} {L : zL} {st : List Value} {w : zN} {d lo hi : Int} {offs : Array Int} {x : Int32} (hd : decode (mB y) pc = .ok (.tableswitch d lo hi offs, len)) (h1 : x.toInt < lo ∨ hi < x.toInt) (ht : (pc : Int) + d = (t : Int)) : zE X y pc L (.int x :: st) w h Q = zE X y t L st w h Q := zE_go (by rw [zS_of hd]; simp only [zI, h1, if_true, zjmp_eq ht])
/-- what follows of a sheet's method that answers whether it took something -/
def zout (o : Option zSh) (t : Nat) (h : zH) (K0 : Prop) (K1 : zH → Prop) : Prop := match o with
  | none => K0
  | some S' => ∀ h', pSh h' t S' → zfr (fun a => t ≤ a ∧ a ≤ t + 7) h h' → K1 h'
def sPlan (a b c : Nat) (S : zSh) : Option zSh := match S with
  | ((np, wo, sa, au), r) => if np < 24 ∧ a ≤ 999 ∧ b ≤ 99 ∧ c < 8 then some ((np + 1, upd wo np (nI a), upd sa np (nI b), upd au np (nI c)), r) else none
def sJudge (a b c : Nat) (S : zSh) : Option zSh := match S with
  | (p, (nj, le, fo, ro), r) => if nj < 6 ∧ a ≤ 9 ∧ b ≤ 9 ∧ c ≤ 99 then some (p, (nj + 1, upd le nj (nI a), upd fo nj (nI b), upd ro nj (nI c)), r) else none
def sPurse (a b c : Nat) (S : zSh) : Option zSh := match S with
  | (p, j, _, r) => if a ≤ 24 ∧ b ≤ 24 ∧ c ≤ b then some (p, j, (a, b, c), r) else none
def sCoin (a : Nat) (S : zSh) : Option zSh := match S with
  | (p, j, q, (_, hx, hy), r) => if 1 ≤ a ∧ a ≤ 999 then some (p, j, q, (a, hx, hy), r) else none
def sHours (a b : Nat) (S : zSh) : Option zSh := match S with
  | (p, j, q, (co, _, _), r) => if a ≤ 99 ∧ b ≤ 99 then some (p, j, q, (co, a, b), r) else none
def sHad (a b : Nat) (S : zSh) : Option zSh := match S with
  | (p, j, q, c, hf, pt) => if a < 8 ∧ b ≤ 9 then some (p, j, q, c, upd hf a (nI b), pt) else none
def sPat (a : Nat) (S : zSh) : Option zSh := match S with
  | (p, j, q, c, hf, _) => if a ≤ 9 then some (p, j, q, c, hf, a) else none
variable {t a b c : Nat} {S : zSh}
theorem c25 (hs : pSh h t S) (ha : a ≤ 999) (hb : b ≤ 999) (hc : c ≤ 999) (k : zout (sPlan a b c S) t h (Q (some (.int 0)) N h) (fun h' => Q (some (.int 1)) N h')) : zE X 25 0 [some (.ref t), some (.int (nI a)), some (.int (nI b)), some (.int (nI c))] [] (N, 0, 0) h Q := by
  obtain ⟨⟨np, wo, sa, au⟩, ⟨nj, le, fo, ro⟩, ⟨pa, pb, pc⟩, ⟨co, hx, hy⟩, hf, pt⟩ := S
  obtain ⟨h1, h2, h3, h4, h5, h6, h7, h8, h9, h10⟩ := hs
  by_cases g : np < 24 ∧ a ≤ 999 ∧ b ≤ 99 ∧ c < 8
  · rw [sPlan, if_pos g] at k
    obtain ⟨g1, g2, g3, g4⟩ := g
    simp (disch := omega) only [e25_0, e25_1, e25_4, e25_6, e25_9, e25_10, e25_13, e25_16, e25_17, e25_19, e25_22, e25_23, e25_25, e25_28, e25_29, e25_30, e25_31, e25_34, e25_35, e25_38, e25_39, e25_40, e25_41, e25_44, e25_45, e25_48, e25_49, e25_50, e25_51, e25_54, e25_55, e25_58, e25_59, e25_60, e25_61, e25_62, e25_65, e25_66, e25_67, e25_70, e25_71, h1, h2, h3, h4, zg5_0, zp5_0, zg5_1, zp5_1, zg5_2, zp5_2, zg5_3, zp5_3, zg5_4, zp5_4, zg5_5, zp5_5, zg5_6, zp5_6, zg5_7, zp5_7, zg5_8, zp5_8, zg5_9, zp5_9, zg5_10, zp5_10, zg5_11, zp5_11, zg5_12, zp5_12, zg5_13, zp5_13, zg5_14, zp5_14, zg5_15, zp5_15, zrc_eq, zup_s, zup_n, zup_up, zal_i, zal_b, zal_z, zas_i, zas_b, zas_z, zan_eq, Option.toList_some, Option.toList_none, List.cons_append, List.nil_append, if_true, if_false, ite_true, ite_false, true_or, or_true, zc24, zc999, zc99, zc8, znI_le, znI_lt, if_pos, if_neg, nI_1]
    refine k _ ⟨by rw [zup_s], ?_, ?_, ?_, ?_, ?_, ?_, ?_, by omega, h10⟩ (fun a ha => ?_) <;> simp (disch := omega) only [zup_s, zup_n, *]
  · rw [sPlan, if_neg g] at k
    simp (disch := omega) only [e25_0, e25_1, e25_4, e25_6, e25_9, e25_10, e25_13, e25_16, e25_17, e25_19, e25_22, e25_23, e25_25, e25_28, e25_29, e25_30, e25_31, e25_34, e25_35, e25_38, e25_39, e25_40, e25_41, e25_44, e25_45, e25_48, e25_49, e25_50, e25_51, e25_54, e25_55, e25_58, e25_59, e25_60, e25_61, e25_62, e25_65, e25_66, e25_67, e25_70, e25_71, h1, zg5_0, zp5_0, zg5_1, zp5_1, zg5_2, zp5_2, zg5_3, zp5_3, zg5_4, zp5_4, zg5_5, zp5_5, zg5_6, zp5_6, zg5_7, zp5_7, zg5_8, zp5_8, zg5_9, zp5_9, zg5_10, zp5_10, zg5_11, zp5_11, zg5_12, zp5_12, zg5_13, zp5_13, zg5_14, zp5_14, zg5_15, zp5_15, zrc_eq, zup_s, zup_n, zup_up, zal_i, zal_b, zal_z, zas_i, zas_b, zas_z, zan_eq, Option.toList_some, Option.toList_none, List.cons_append, List.nil_append, if_true, if_false, ite_true, ite_false, true_or, or_true, zc24, zc999, zc99, zc8, znI_le, znI_lt]
    by_cases g1 : 24 ≤ np
    · rw [if_pos g1]; exact k
    · rw [if_neg g1, if_neg (by omega)]
      by_cases g2 : 99 < b
      · rw [if_pos g2]; exact k
      · rw [if_neg g2, if_neg (by omega)]; exact k
theorem c26 (hs : pSh h t S) (ha : a ≤ 999) (hb : b ≤ 999) (hc : c ≤ 999) (k : zout (sJudge a b c S) t h (Q (some (.int 0)) N h) (fun h' => Q (some (.int 1)) N h')) : zE X 26 0 [some (.ref t), some (.int (nI a)), some (.int (nI b)), some (.int (nI c))] [] (N, 0, 0) h Q := by
  obtain ⟨⟨np, wo, sa, au⟩, ⟨nj, le, fo, ro⟩, ⟨pa, pb, pc⟩, ⟨co, hx, hy⟩, hf, pt⟩ := S
  obtain ⟨h1, h2, h3, h4, h5, h6, h7, h8, h9, h10⟩ := hs
  by_cases g : nj < 6 ∧ a ≤ 9 ∧ b ≤ 9 ∧ c ≤ 99
  · rw [sJudge, if_pos g] at k
    simp (disch := omega) only [e26_0, e26_1, e26_4, e26_6, e26_9, e26_10, e26_12, e26_15, e26_16, e26_18, e26_21, e26_22, e26_24, e26_27, e26_28, e26_29, e26_30, e26_33, e26_34, e26_37, e26_38, e26_39, e26_40, e26_43, e26_44, e26_47, e26_48, e26_49, e26_50, e26_53, e26_54, e26_57, e26_58, e26_59, e26_60, e26_61, e26_64, e26_65, e26_66, e26_69, e26_70, h1, h5, h6, h7, zg5_0, zp5_0, zg5_1, zp5_1, zg5_2, zp5_2, zg5_3, zp5_3, zg5_4, zp5_4, zg5_5, zp5_5, zg5_6, zp5_6, zg5_7, zp5_7, zg5_8, zp5_8, zg5_9, zp5_9, zg5_10, zp5_10, zg5_11, zp5_11, zg5_12, zp5_12, zg5_13, zp5_13, zg5_14, zp5_14, zg5_15, zp5_15, zrc_eq, zup_s, zup_n, zup_up, zal_i, zal_b, zal_z, zas_i, zas_b, zas_z, zan_eq, Option.toList_some, Option.toList_none, List.cons_append, List.nil_append, if_true, if_false, ite_true, ite_false, true_or, or_true, zc6, zc9, zc99, znI_le, znI_lt, if_pos, if_neg, nI_1]
    refine k _ ⟨by simp (disch := omega) only [zup_s, zup_n, *], ?_, ?_, ?_, ?_, ?_, ?_, ?_, by omega, by omega⟩ (fun a ha => ?_) <;> simp (disch := omega) only [zup_s, zup_n, *]
  · rw [sJudge, if_neg g] at k
    simp (disch := omega) only [e26_0, e26_1, e26_4, e26_6, e26_9, e26_10, e26_12, e26_15, e26_16, e26_18, e26_21, e26_22, e26_24, e26_27, e26_28, e26_29, e26_30, e26_33, e26_34, e26_37, e26_38, e26_39, e26_40, e26_43, e26_44, e26_47, e26_48, e26_49, e26_50, e26_53, e26_54, e26_57, e26_58, e26_59, e26_60, e26_61, e26_64, e26_65, e26_66, e26_69, e26_70, h1, zg5_0, zp5_0, zg5_1, zp5_1, zg5_2, zp5_2, zg5_3, zp5_3, zg5_4, zp5_4, zg5_5, zp5_5, zg5_6, zp5_6, zg5_7, zp5_7, zg5_8, zp5_8, zg5_9, zp5_9, zg5_10, zp5_10, zg5_11, zp5_11, zg5_12, zp5_12, zg5_13, zp5_13, zg5_14, zp5_14, zg5_15, zp5_15, zrc_eq, zup_s, zup_n, zup_up, zal_i, zal_b, zal_z, zas_i, zas_b, zas_z, zan_eq, Option.toList_some, Option.toList_none, List.cons_append, List.nil_append, if_true, if_false, ite_true, ite_false, true_or, or_true, zc6, zc9, zc99, znI_le, znI_lt]
    repeat' split
    all_goals first | exact k | (exfalso; omega)
theorem c27 (hs : pSh h t S) (ha : a ≤ 999) (hb : b ≤ 999) (hc : c ≤ 999) (k : zout (sPurse a b c S) t h (Q (some (.int 0)) N h) (fun h' => Q (some (.int 1)) N h')) : zE X 27 0 [some (.ref t), some (.int (nI a)), some (.int (nI b)), some (.int (nI c))] [] (N, 0, 0) h Q := by
  obtain ⟨⟨np, wo, sa, au⟩, ⟨nj, le, fo, ro⟩, ⟨pa, pb, pc⟩, ⟨co, hx, hy⟩, hf, pt⟩ := S
  obtain ⟨h1, h2, h3, h4, h5, h6, h7, h8, h9, h10⟩ := hs
  by_cases g : a ≤ 24 ∧ b ≤ 24 ∧ c ≤ b
  · rw [sPurse, if_pos g] at k
    simp (disch := omega) only [e27_0, e27_1, e27_3, e27_6, e27_7, e27_9, e27_12, e27_13, e27_14, e27_17, e27_18, e27_19, e27_20, e27_21, e27_24, e27_25, e27_26, e27_29, e27_30, e27_31, e27_34, e27_35, h1, zg5_0, zp5_0, zg5_1, zp5_1, zg5_2, zp5_2, zg5_3, zp5_3, zg5_4, zp5_4, zg5_5, zp5_5, zg5_6, zp5_6, zg5_7, zp5_7, zg5_8, zp5_8, zg5_9, zp5_9, zg5_10, zp5_10, zg5_11, zp5_11, zg5_12, zp5_12, zg5_13, zp5_13, zg5_14, zp5_14, zg5_15, zp5_15, zrc_eq, zup_s, zup_n, zup_up, zal_i, zal_b, zal_z, zas_i, zas_b, zas_z, zan_eq, Option.toList_some, Option.toList_none, List.cons_append, List.nil_append, if_true, if_false, ite_true, ite_false, true_or, or_true, zc24, znI_le, znI_lt, if_pos, if_neg, nI_1]
    refine k _ ⟨by simp (disch := omega) only [zup_s, zup_n, *], ?_, ?_, ?_, ?_, ?_, ?_, ?_, by omega, by omega⟩ (fun a ha => ?_) <;> simp (disch := omega) only [zup_s, zup_n, *]
  · rw [sPurse, if_neg g] at k
    simp (disch := omega) only [e27_0, e27_1, e27_3, e27_6, e27_7, e27_9, e27_12, e27_13, e27_14, e27_17, e27_18, e27_19, e27_20, e27_21, e27_24, e27_25, e27_26, e27_29, e27_30, e27_31, e27_34, e27_35, h1, zg5_0, zp5_0, zg5_1, zp5_1, zg5_2, zp5_2, zg5_3, zp5_3, zg5_4, zp5_4, zg5_5, zp5_5, zg5_6, zp5_6, zg5_7, zp5_7, zg5_8, zp5_8, zg5_9, zp5_9, zg5_10, zp5_10, zg5_11, zp5_11, zg5_12, zp5_12, zg5_13, zp5_13, zg5_14, zp5_14, zg5_15, zp5_15, zrc_eq, zup_s, zup_n, zup_up, zal_i, zal_b, zal_z, zas_i, zas_b, zas_z, zan_eq, Option.toList_some, Option.toList_none, List.cons_append, List.nil_append, if_true, if_false, ite_true, ite_false, true_or, or_true, zc24, znI_le, znI_lt]
    repeat' split
    all_goals first | exact k | (exfalso; omega)
theorem c28 (hs : pSh h t S) (ha : a ≤ 999) (k : zout (sCoin a S) t h (Q (some (.int 0)) N h) (fun h' => Q (some (.int 1)) N h')) : zE X 28 0 [some (.ref t), some (.int (nI a))] [] (N, 0, 0) h Q := by
  obtain ⟨⟨np, wo, sa, au⟩, ⟨nj, le, fo, ro⟩, ⟨pa, pb, pc⟩, ⟨co, hx, hy⟩, hf, pt⟩ := S
  obtain ⟨h1, h2, h3, h4, h5, h6, h7, h8, h9, h10⟩ := hs
  by_cases g : 1 ≤ a ∧ a ≤ 999
  · rw [sCoin, if_pos g] at k
    simp (disch := omega) only [e28_0, e28_1, e28_2, e28_5, e28_6, e28_9, e28_12, e28_13, e28_14, e28_15, e28_16, e28_19, e28_20, h1, zg5_0, zp5_0, zg5_1, zp5_1, zg5_2, zp5_2, zg5_3, zp5_3, zg5_4, zp5_4, zg5_5, zp5_5, zg5_6, zp5_6, zg5_7, zp5_7, zg5_8, zp5_8, zg5_9, zp5_9, zg5_10, zp5_10, zg5_11, zp5_11, zg5_12, zp5_12, zg5_13, zp5_13, zg5_14, zp5_14, zg5_15, zp5_15, zrc_eq, zup_s, zup_n, zup_up, zal_i, zal_b, zal_z, zas_i, zas_b, zas_z, zan_eq, Option.toList_some, Option.toList_none, List.cons_append, List.nil_append, if_true, if_false, ite_true, ite_false, true_or, or_true, zc1, zc999, znI_le, znI_lt, if_pos, if_neg, nI_1]
    refine k _ ⟨by simp (disch := omega) only [zup_s, zup_n, *], ?_, ?_, ?_, ?_, ?_, ?_, ?_, by omega, by omega⟩ (fun a ha => ?_) <;> simp (disch := omega) only [zup_s, zup_n, *]
  · rw [sCoin, if_neg g] at k
    simp (disch := omega) only [e28_0, e28_1, e28_2, e28_5, e28_6, e28_9, e28_12, e28_13, e28_14, e28_15, e28_16, e28_19, e28_20, h1, zg5_0, zp5_0, zg5_1, zp5_1, zg5_2, zp5_2, zg5_3, zp5_3, zg5_4, zp5_4, zg5_5, zp5_5, zg5_6, zp5_6, zg5_7, zp5_7, zg5_8, zp5_8, zg5_9, zp5_9, zg5_10, zp5_10, zg5_11, zp5_11, zg5_12, zp5_12, zg5_13, zp5_13, zg5_14, zp5_14, zg5_15, zp5_15, zrc_eq, zup_s, zup_n, zup_up, zal_i, zal_b, zal_z, zas_i, zas_b, zas_z, zan_eq, Option.toList_some, Option.toList_none, List.cons_append, List.nil_append, if_true, if_false, ite_true, ite_false, true_or, or_true, zc1, zc999, znI_le, znI_lt]
    repeat' split
    all_goals first | exact k | (exfalso; omega)
theorem c29 (hs : pSh h t S) (ha : a ≤ 999) (hb : b ≤ 999) (k : zout (sHours a b S) t h (Q (some (.int 0)) N h) (fun h' => Q (some (.int 1)) N h')) : zE X 29 0 [some (.ref t), some (.int (nI a)), some (.int (nI b))] [] (N, 0, 0) h Q := by
  obtain ⟨⟨np, wo, sa, au⟩, ⟨nj, le, fo, ro⟩, ⟨pa, pb, pc⟩, ⟨co, hx, hy⟩, hf, pt⟩ := S
  obtain ⟨h1, h2, h3, h4, h5, h6, h7, h8, h9, h10⟩ := hs
  by_cases g : a ≤ 99 ∧ b ≤ 99
  · rw [sHours, if_pos g] at k
    simp (disch := omega) only [e29_0, e29_1, e29_3, e29_6, e29_7, e29_9, e29_12, e29_13, e29_14, e29_15, e29_16, e29_19, e29_20, e29_21, e29_24, e29_25, h1, zg5_0, zp5_0, zg5_1, zp5_1, zg5_2, zp5_2, zg5_3, zp5_3, zg5_4, zp5_4, zg5_5, zp5_5, zg5_6, zp5_6, zg5_7, zp5_7, zg5_8, zp5_8, zg5_9, zp5_9, zg5_10, zp5_10, zg5_11, zp5_11, zg5_12, zp5_12, zg5_13, zp5_13, zg5_14, zp5_14, zg5_15, zp5_15, zrc_eq, zup_s, zup_n, zup_up, zal_i, zal_b, zal_z, zas_i, zas_b, zas_z, zan_eq, Option.toList_some, Option.toList_none, List.cons_append, List.nil_append, if_true, if_false, ite_true, ite_false, true_or, or_true, zc99, znI_le, znI_lt, if_pos, if_neg, nI_1]
    refine k _ ⟨by simp (disch := omega) only [zup_s, zup_n, *], ?_, ?_, ?_, ?_, ?_, ?_, ?_, by omega, by omega⟩ (fun a ha => ?_) <;> simp (disch := omega) only [zup_s, zup_n, *]
  · rw [sHours, if_neg g] at k
    simp (disch := omega) only [e29_0, e29_1, e29_3, e29_6, e29_7, e29_9, e29_12, e29_13, e29_14, e29_15, e29_16, e29_19, e29_20, e29_21, e29_24, e29_25, h1, zg5_0, zp5_0, zg5_1, zp5_1, zg5_2, zp5_2, zg5_3, zp5_3, zg5_4, zp5_4, zg5_5, zp5_5, zg5_6, zp5_6, zg5_7, zp5_7, zg5_8, zp5_8, zg5_9, zp5_9, zg5_10, zp5_10, zg5_11, zp5_11, zg5_12, zp5_12, zg5_13, zp5_13, zg5_14, zp5_14, zg5_15, zp5_15, zrc_eq, zup_s, zup_n, zup_up, zal_i, zal_b, zal_z, zas_i, zas_b, zas_z, zan_eq, Option.toList_some, Option.toList_none, List.cons_append, List.nil_append, if_true, if_false, ite_true, ite_false, true_or, or_true, zc99, znI_le, znI_lt]
    repeat' split
    all_goals first | exact k | (exfalso; omega)
theorem c30 (hs : pSh h t S) (ha : a ≤ 999) (hb : b ≤ 999) (k : zout (sHad a b S) t h (Q (some (.int 0)) N h) (fun h' => Q (some (.int 1)) N h')) : zE X 30 0 [some (.ref t), some (.int (nI a)), some (.int (nI b))] [] (N, 0, 0) h Q := by
  obtain ⟨⟨np, wo, sa, au⟩, ⟨nj, le, fo, ro⟩, ⟨pa, pb, pc⟩, ⟨co, hx, hy⟩, hf, pt⟩ := S
  obtain ⟨h1, h2, h3, h4, h5, h6, h7, h8, h9, h10⟩ := hs
  by_cases g : a < 8 ∧ b ≤ 9
  · rw [sHad, if_pos g] at k
    simp (disch := omega) only [e30_0, e30_1, e30_4, e30_5, e30_7, e30_10, e30_11, e30_13, e30_16, e30_17, e30_18, e30_19, e30_22, e30_23, e30_24, e30_25, e30_26, h1, h8, zg5_0, zp5_0, zg5_1, zp5_1, zg5_2, zp5_2, zg5_3, zp5_3, zg5_4, zp5_4, zg5_5, zp5_5, zg5_6, zp5_6, zg5_7, zp5_7, zg5_8, zp5_8, zg5_9, zp5_9, zg5_10, zp5_10, zg5_11, zp5_11, zg5_12, zp5_12, zg5_13, zp5_13, zg5_14, zp5_14, zg5_15, zp5_15, zrc_eq, zup_s, zup_n, zup_up, zal_i, zal_b, zal_z, zas_i, zas_b, zas_z, zan_eq, Option.toList_some, Option.toList_none, List.cons_append, List.nil_append, if_true, if_false, ite_true, ite_false, true_or, or_true, zc0, zc8, zc9, znI_le, znI_lt, if_pos, if_neg, nI_1]
    refine k _ ⟨by simp (disch := omega) only [zup_s, zup_n, *], ?_, ?_, ?_, ?_, ?_, ?_, ?_, by omega, by omega⟩ (fun a ha => ?_) <;> simp (disch := omega) only [zup_s, zup_n, *]
  · rw [sHad, if_neg g] at k
    simp (disch := omega) only [e30_0, e30_1, e30_4, e30_5, e30_7, e30_10, e30_11, e30_13, e30_16, e30_17, e30_18, e30_19, e30_22, e30_23, e30_24, e30_25, e30_26, h1, zg5_0, zp5_0, zg5_1, zp5_1, zg5_2, zp5_2, zg5_3, zp5_3, zg5_4, zp5_4, zg5_5, zp5_5, zg5_6, zp5_6, zg5_7, zp5_7, zg5_8, zp5_8, zg5_9, zp5_9, zg5_10, zp5_10, zg5_11, zp5_11, zg5_12, zp5_12, zg5_13, zp5_13, zg5_14, zp5_14, zg5_15, zp5_15, zrc_eq, zup_s, zup_n, zup_up, zal_i, zal_b, zal_z, zas_i, zas_b, zas_z, zan_eq, Option.toList_some, Option.toList_none, List.cons_append, List.nil_append, if_true, if_false, ite_true, ite_false, true_or, or_true, zc0, zc8, zc9, znI_le, znI_lt]
    repeat' split
    all_goals first | exact k | (exfalso; omega)
theorem c31 (hs : pSh h t S) (ha : a ≤ 999) (k : zout (sPat a S) t h (Q (some (.int 0)) N h) (fun h' => Q (some (.int 1)) N h')) : zE X 31 0 [some (.ref t), some (.int (nI a))] [] (N, 0, 0) h Q := by
  obtain ⟨⟨np, wo, sa, au⟩, ⟨nj, le, fo, ro⟩, ⟨pa, pb, pc⟩, ⟨co, hx, hy⟩, hf, pt⟩ := S
  obtain ⟨h1, h2, h3, h4, h5, h6, h7, h8, h9, h10⟩ := hs
  by_cases g : a ≤ 9
  · rw [sPat, if_pos g] at k
    simp (disch := omega) only [e31_0, e31_1, e31_3, e31_6, e31_7, e31_8, e31_9, e31_10, e31_13, e31_14, h1, zg5_0, zp5_0, zg5_1, zp5_1, zg5_2, zp5_2, zg5_3, zp5_3, zg5_4, zp5_4, zg5_5, zp5_5, zg5_6, zp5_6, zg5_7, zp5_7, zg5_8, zp5_8, zg5_9, zp5_9, zg5_10, zp5_10, zg5_11, zp5_11, zg5_12, zp5_12, zg5_13, zp5_13, zg5_14, zp5_14, zg5_15, zp5_15, zrc_eq, zup_s, zup_n, zup_up, zal_i, zal_b, zal_z, zas_i, zas_b, zas_z, zan_eq, Option.toList_some, Option.toList_none, List.cons_append, List.nil_append, if_true, if_false, ite_true, ite_false, true_or, or_true, zc9, znI_le, znI_lt, if_pos, if_neg, nI_1]
    refine k _ ⟨by simp (disch := omega) only [zup_s, zup_n, *], ?_, ?_, ?_, ?_, ?_, ?_, ?_, by omega, by omega⟩ (fun a ha => ?_) <;> simp (disch := omega) only [zup_s, zup_n, *]
  · rw [sPat, if_neg g] at k
    simp (disch := omega) only [e31_0, e31_1, e31_3, e31_6, e31_7, e31_8, e31_9, e31_10, e31_13, e31_14, h1, zg5_0, zp5_0, zg5_1, zp5_1, zg5_2, zp5_2, zg5_3, zp5_3, zg5_4, zp5_4, zg5_5, zp5_5, zg5_6, zp5_6, zg5_7, zp5_7, zg5_8, zp5_8, zg5_9, zp5_9, zg5_10, zp5_10, zg5_11, zp5_11, zg5_12, zp5_12, zg5_13, zp5_13, zg5_14, zp5_14, zg5_15, zp5_15, zrc_eq, zup_s, zup_n, zup_up, zal_i, zal_b, zal_z, zas_i, zas_b, zas_z, zan_eq, Option.toList_some, Option.toList_none, List.cons_append, List.nil_append, if_true, if_false, ite_true, ite_false, true_or, or_true, zc9, znI_le, znI_lt]
    repeat' split
    all_goals first | exact k | (exfalso; omega)
end C18
