-- the model reads numbers
section C23
variable {X : Nat × (Nat → Int32)} {N : Nat} {h : zH} {Q : Option Value → Nat → zH → Prop}
/-- the text's bytes are bytes -/
def bOk (tx : Nat → Int32) : Prop := ∀ p, -128 ≤ (tx p).toInt ∧ (tx p).toInt ≤ 127
theorem bt_int {tx : Nat → Int32} (hb : bOk tx) {len p : Nat} (hp : p < len) : ((tx p).toInt = (bt tx len p : Int) ∧ bt tx len p < 128) ∨ ((tx p).toInt = (bt tx len p : Int) - 256 ∧ 128 ≤ bt tx len p ∧ bt tx len p < 256) := by
  have h1 := hb p
  have h2 : (tx p).toInt = (tx p).toBitVec.toInt := rfl
  have h3 := BitVec.toInt_eq_toNat_cond (tx p).toBitVec
  have h4 := (tx p).toBitVec.isLt
  unfold bt
  rw [if_pos hp]
  rw [h2] at h1 ⊢
  generalize (tx p).toBitVec.toNat = n at *
  generalize (tx p).toBitVec.toInt = z at *
  split at h3 <;> omega
theorem mb_eq {tx : Nat → Int32} (hb : bOk tx) {len p c : Nat} (hp : p < len) (hc : c < 128) : (tx p = nI c) = (bt tx len p = c) := by
  have h1 := bt_int hb hp
  rw [← Int32.toInt_inj, nI_toInt (by omega)]
  apply propext
  omega
theorem mb_rng {tx : Nat → Int32} (hb : bOk tx) {len p : Nat} (hp : p < len) : ((48 : Int64) ≤ (tx p).toInt64 ∧ (tx p).toInt64 ≤ 57) = (48 ≤ bt tx len p ∧ bt tx len p ≤ 57) := by
  have h1 := bt_int hb hp
  rw [show (48 : Int64) = (48 : Int32).toInt64 from rfl, show (57 : Int64) = (57 : Int32).toInt64 from rfl, zl_le, zl_le, Int32.le_iff_toInt_le, Int32.le_iff_toInt_le, show (48 : Int32).toInt = 48 from rfl, show (57 : Int32).toInt = 57 from rfl]
  apply propext
  omega
theorem mb_dig {tx : Nat → Int32} (hb : bOk tx) {len p : Nat} (hp : p < len) (hd : 48 ≤ bt tx len p ∧ bt tx len p ≤ 57) : tx p = nI (bt tx len p) := by
  rw [mb_eq hb hp (by omega)]
/-- all figures from a place on: the place behind, the value of the first three, how many -/
def mNum (B : Nat → Nat) : Nat → Nat → Nat → Nat → Nat × Nat × Nat
  | 0, p, v, k => (p, v, k)
  | f + 1, p, v, k => if 48 ≤ B p ∧ B p ≤ 57 then mNum B f (p + 1) (if k < 3 then 10 * v + B p - 48 else v) (k + 1) else (p, v, k)
theorem mNum_ge (B : Nat → Nat) : ∀ f p v k, k ≤ (mNum B f p v k).2.2 ∧ p ≤ (mNum B f p v k).1
  | 0, p, v, k => by simp [mNum]
  | f + 1, p, v, k => by
    rw [mNum]
    split
    · have := mNum_ge B f (p + 1) (if k < 3 then 10 * v + B p - 48 else v) (k + 1); omega
    · simp
/-- the two ways of reading a number agree where the number ends behind three figures or fewer; else there are more than three -/
theorem mNum_sNum (B : Nat → Nat) : ∀ m k f p v, m + k = 3 → m < f → ((¬ (48 ≤ B (sNum B m p v).1 ∧ B (sNum B m p v).1 ≤ 57)) → mNum B f p v k = ((sNum B m p v).1, (sNum B m p v).2, k + ((sNum B m p v).1 - p))) ∧ ((48 ≤ B (sNum B m p v).1 ∧ B (sNum B m p v).1 ≤ 57) → 4 ≤ (mNum B f p v k).2.2)
  | 0, k, f, p, v, hk, hf => by
    obtain ⟨f, rfl⟩ : ∃ g, f = g + 1 := ⟨f - 1, by omega⟩
    simp only [sNum]
    rw [mNum]
    refine ⟨fun q => by rw [if_neg q]; simp, fun q => ?_⟩
    rw [if_pos q]
    have := mNum_ge B f (p + 1) (if k < 3 then 10 * v + B p - 48 else v) (k + 1)
    omega
  | m + 1, k, f, p, v, hk, hf => by
    obtain ⟨f, rfl⟩ : ∃ g, f = g + 1 := ⟨f - 1, by omega⟩
    rw [sNum, mNum]
    by_cases g : 48 ≤ B p ∧ B p ≤ 57
    · rw [if_pos g, if_pos g, if_pos (show k < 3 by omega)]
      have hq := sNum_le B m (p + 1) (10 * v + B p - 48)
      obtain ⟨a1, a2⟩ := mNum_sNum B m (k + 1) f (p + 1) (10 * v + B p - 48) (by omega) (by omega)
      refine ⟨fun q => ?_, a2⟩
      rw [a1 q]
      congr 2
      omega
    · rw [if_neg g, if_neg g]
      refine ⟨fun _ => by simp, fun q => absurd q g⟩
variable {rp rj np nj kp su lo dr : Int32} {ab be : Int64}
theorem c112_loop {len : Nat} {tx : Nat → Int32} {hi : Int32} (hb : bOk tx) (hl : len ≤ 400) : ∀ (f p v k : Nat) (h : zH), len - p < f → p ≤ len → v ≤ 999 → (k < 3 → v < 10 ^ k) → k ≤ p → h 53 = mObj (nI len) (nI p) rp rj np nj kp su lo dr ab be → h 54 = .inl (.byte, 400, tx) →
    (∀ h', (mNum (bt tx len) f p v k).1 ≤ len → (mNum (bt tx len) f p v k).2.2 ≤ len → (mNum (bt tx len) f p v k).2.1 ≤ 999 → h' 53 = mObj (nI len) (nI (mNum (bt tx len) f p v k).1) rp rj np nj kp su lo dr ab be → zfr (fun a => a = 53) h h' → zE X 112 80 [some (.ref 53), some (.int hi), some (.int (nI (mNum (bt tx len) f p v k).2.1)), some (.int (nI (mNum (bt tx len) f p v k).2.2))] [] (N, 0, 0) h' Q) →
    zE X 112 4 [some (.ref 53), some (.int hi), some (.int (nI v)), some (.int (nI k))] [] (N, 0, 0) h Q := by
  intro f
  unfold mObj
  induction f with
  | zero => intro p v k h hf; omega
  | succ f ih =>
    intro p v k h hf hp hv hk hkp h1 h2 kk
    rw [e112_4]
    rw [mNum] at kk
    by_cases hpl : p < len
    · simp (disch := omega) only [e112_0, e112_1, e112_2, e112_3, e112_5, e112_8, e112_9, e112_12, e112_15, e112_16, e112_19, e112_20, e112_23, e112_24, e112_25, e112_28, e112_31, e112_34, e112_37, e112_38, e112_39, e112_42, e112_44, e112_45, e112_46, e112_47, e112_50, e112_51, e112_54, e112_55, e112_56, e112_58, e112_59, e112_62, e112_63, e112_64, e112_67, e112_68, e112_69, e112_72, e112_73, e112_74, e112_77, e112_81, e112_82, e112_83, e112_86, e112_89, e112_92, e112_93, e112_94, e112_97, e112_98, e112_101, e112_102, h1, h2, zg10_0, zp10_0, zg10_1, zp10_1, zg10_2, zp10_2, zg10_3, zp10_3, zg10_4, zp10_4, zg10_5, zp10_5, zg10_6, zp10_6, zg10_7, zp10_7, zg10_8, zp10_8, zg10_9, zp10_9, zg10_10, zp10_10, zg10_11, zp10_11, zg10_12, zp10_12, zg10_13, zp10_13, zg10_14, zp10_14, zg10_15, zp10_15, zg10_16, zp10_16, zg10_17, zp10_17, zg10_18, zp10_18, zg10_19, zp10_19, zg10_20, zp10_20, zg10_21, zp10_21, zg10_22, zp10_22, zg10_23, zp10_23, zg10_24, zp10_24, zg10_25, zp10_25, zg10_26, zp10_26, zg10_27, zp10_27, zg10_28, zp10_28, zg10_29, zp10_29, zg10_30, zp10_30, zg10_31, zp10_31, zg10_32, zp10_32, zrc_eq, zup_s, zup_n, zup_up, zal_i, zal_b, zal_z, zas_i, zas_b, zas_z, zan_eq, Option.toList_some, Option.toList_none, List.cons_append, List.nil_append, if_true, if_false, ite_true, ite_false, true_or, or_true, znI_le, if_neg, c108, mb_rng hb hpl]
      by_cases g : 48 ≤ bt tx len p ∧ bt tx len p ≤ 57
      · rw [if_pos g] at kk ⊢
        have e1 := mb_dig hb hpl g
        by_cases k3 : k < 3
        · rw [if_pos k3] at kk
          simp (disch := omega) only [e112_0, e112_1, e112_2, e112_3, e112_5, e112_8, e112_9, e112_12, e112_15, e112_16, e112_19, e112_20, e112_23, e112_24, e112_25, e112_28, e112_31, e112_34, e112_37, e112_38, e112_39, e112_42, e112_44, e112_45, e112_46, e112_47, e112_50, e112_51, e112_54, e112_55, e112_56, e112_58, e112_59, e112_62, e112_63, e112_64, e112_67, e112_68, e112_69, e112_72, e112_73, e112_74, e112_77, e112_81, e112_82, e112_83, e112_86, e112_89, e112_92, e112_93, e112_94, e112_97, e112_98, e112_101, e112_102, h1, h2, zg10_0, zp10_0, zg10_1, zp10_1, zg10_2, zp10_2, zg10_3, zp10_3, zg10_4, zp10_4, zg10_5, zp10_5, zg10_6, zp10_6, zg10_7, zp10_7, zg10_8, zp10_8, zg10_9, zp10_9, zg10_10, zp10_10, zg10_11, zp10_11, zg10_12, zp10_12, zg10_13, zp10_13, zg10_14, zp10_14, zg10_15, zp10_15, zg10_16, zp10_16, zg10_17, zp10_17, zg10_18, zp10_18, zg10_19, zp10_19, zg10_20, zp10_20, zg10_21, zp10_21, zg10_22, zp10_22, zg10_23, zp10_23, zg10_24, zp10_24, zg10_25, zp10_25, zg10_26, zp10_26, zg10_27, zp10_27, zg10_28, zp10_28, zg10_29, zp10_29, zg10_30, zp10_30, zg10_31, zp10_31, zg10_32, zp10_32, zrc_eq, zup_s, zup_n, zup_up, zal_i, zal_b, zal_z, zas_i, zas_b, zas_z, zan_eq, Option.toList_some, Option.toList_none, List.cons_append, List.nil_append, if_true, if_false, ite_true, ite_false, true_or, or_true, z10, e1, zc1, zc3, zc10, zc48, znI_le, znI_eq, if_neg, pk_mul, nI_add, zdsub]
          have hv2 : 10 * v + bt tx len p - 48 < 10 ^ (k + 1) := by
            have := hk k3
            rw [Nat.pow_succ]; omega
          refine ih (p + 1) _ (k + 1) _ (by omega) (by omega) ?_ (fun _ => hv2) (by omega) zup_s (by rw [zup_n (by omega)]; exact h2) (fun h' a1 a2 a3 a4 a5 => kk h' a1 a2 a3 a4 (zfr.up rfl a5))
          have : 10 ^ (k + 1) ≤ 10 ^ 3 := Nat.pow_le_pow_right (by omega) (by omega)
          omega
        · rw [if_neg k3] at kk
          simp (disch := omega) only [e112_0, e112_1, e112_2, e112_3, e112_5, e112_8, e112_9, e112_12, e112_15, e112_16, e112_19, e112_20, e112_23, e112_24, e112_25, e112_28, e112_31, e112_34, e112_37, e112_38, e112_39, e112_42, e112_44, e112_45, e112_46, e112_47, e112_50, e112_51, e112_54, e112_55, e112_56, e112_58, e112_59, e112_62, e112_63, e112_64, e112_67, e112_68, e112_69, e112_72, e112_73, e112_74, e112_77, e112_81, e112_82, e112_83, e112_86, e112_89, e112_92, e112_93, e112_94, e112_97, e112_98, e112_101, e112_102, h1, h2, zg10_0, zp10_0, zg10_1, zp10_1, zg10_2, zp10_2, zg10_3, zp10_3, zg10_4, zp10_4, zg10_5, zp10_5, zg10_6, zp10_6, zg10_7, zp10_7, zg10_8, zp10_8, zg10_9, zp10_9, zg10_10, zp10_10, zg10_11, zp10_11, zg10_12, zp10_12, zg10_13, zp10_13, zg10_14, zp10_14, zg10_15, zp10_15, zg10_16, zp10_16, zg10_17, zp10_17, zg10_18, zp10_18, zg10_19, zp10_19, zg10_20, zp10_20, zg10_21, zp10_21, zg10_22, zp10_22, zg10_23, zp10_23, zg10_24, zp10_24, zg10_25, zp10_25, zg10_26, zp10_26, zg10_27, zp10_27, zg10_28, zp10_28, zg10_29, zp10_29, zg10_30, zp10_30, zg10_31, zp10_31, zg10_32, zp10_32, zrc_eq, zup_s, zup_n, zup_up, zal_i, zal_b, zal_z, zas_i, zas_b, zas_z, zan_eq, Option.toList_some, Option.toList_none, List.cons_append, List.nil_append, if_true, if_false, ite_true, ite_false, true_or, or_true, z10, zc1, zc3, znI_le, znI_eq, if_pos, if_neg, nI_add]
          exact ih (p + 1) v (k + 1) _ (by omega) (by omega) hv (fun q => by omega) (by omega) zup_s (by rw [zup_n (by omega)]; exact h2) (fun h' a1 a2 a3 a4 a5 => kk h' a1 a2 a3 a4 (zfr.up rfl a5))
      · rw [if_neg g] at kk ⊢
        exact kk h (by simp only; omega) (by simp only; omega) hv h1 zfr.rf
    · have g : ¬ (48 ≤ bt tx len p ∧ bt tx len p ≤ 57) := by
        rw [(bt_none (tx := tx) hpl).2]; omega
      rw [if_neg g] at kk
      simp (disch := omega) only [e112_0, e112_1, e112_2, e112_3, e112_5, e112_8, e112_9, e112_12, e112_15, e112_16, e112_19, e112_20, e112_23, e112_24, e112_25, e112_28, e112_31, e112_34, e112_37, e112_38, e112_39, e112_42, e112_44, e112_45, e112_46, e112_47, e112_50, e112_51, e112_54, e112_55, e112_56, e112_58, e112_59, e112_62, e112_63, e112_64, e112_67, e112_68, e112_69, e112_72, e112_73, e112_74, e112_77, e112_81, e112_82, e112_83, e112_86, e112_89, e112_92, e112_93, e112_94, e112_97, e112_98, e112_101, e112_102, h1, h2, zg10_0, zp10_0, zg10_1, zp10_1, zg10_2, zp10_2, zg10_3, zp10_3, zg10_4, zp10_4, zg10_5, zp10_5, zg10_6, zp10_6, zg10_7, zp10_7, zg10_8, zp10_8, zg10_9, zp10_9, zg10_10, zp10_10, zg10_11, zp10_11, zg10_12, zp10_12, zg10_13, zp10_13, zg10_14, zp10_14, zg10_15, zp10_15, zg10_16, zp10_16, zg10_17, zp10_17, zg10_18, zp10_18, zg10_19, zp10_19, zg10_20, zp10_20, zg10_21, zp10_21, zg10_22, zp10_22, zg10_23, zp10_23, zg10_24, zp10_24, zg10_25, zp10_25, zg10_26, zp10_26, zg10_27, zp10_27, zg10_28, zp10_28, zg10_29, zp10_29, zg10_30, zp10_30, zg10_31, zp10_31, zg10_32, zp10_32, zrc_eq, zup_s, zup_n, zup_up, zal_i, zal_b, zal_z, zas_i, zas_b, zas_z, zan_eq, Option.toList_some, Option.toList_none, List.cons_append, List.nil_append, if_true, if_false, ite_true, ite_false, true_or, or_true, znI_le, if_pos]
      exact kk h (by simp only; omega) (by simp only; omega) hv h1 zfr.rf
/-- a number is well formed at a place, and no more than high -/
def sOk (B : Nat → Nat) (p hi : Nat) : Prop := (sNum B 3 p 0).1 ≠ p ∧ ¬ (48 ≤ B (sNum B 3 p 0).1 ∧ B (sNum B 3 p 0).1 ≤ 57) ∧ (sNum B 3 p 0).2 ≤ hi
theorem c112 {len p hi : Nat} {tx : Nat → Int32} (hb : bOk tx) (hl : len ≤ 400) (hp : p ≤ len) (hh : hi ≤ 999) (h1 : h 53 = mObj (nI len) (nI p) rp rj np nj kp su lo dr ab be) (h2 : h 54 = .inl (.byte, 400, tx))
    (k1 : sOk (bt tx len) p hi → ∀ h', (sNum (bt tx len) 3 p 0).1 ≤ len → h' 53 = mObj (nI len) (nI (sNum (bt tx len) 3 p 0).1) rp rj np nj kp su lo dr ab be → zfr (fun a => a = 53) h h' → Q (some (.int (nI (sNum (bt tx len) 3 p 0).2))) N h')
    (k0 : ¬ sOk (bt tx len) p hi → ∀ h' q, q ≤ len → h' 53 = mObj (nI len) (nI q) rp rj np nj kp su lo dr ab be → zfr (fun a => a = 53) h h' → Q (some (.int (-1))) N h') :
    zE X 112 0 [some (.ref 53), some (.int (nI hi)), none, none] [] (N, 0, 0) h Q := by
  simp (disch := omega) only [e112_0, e112_1, e112_2, e112_3, e112_5, e112_8, e112_9, e112_12, e112_15, e112_16, e112_19, e112_20, e112_23, e112_24, e112_25, e112_28, e112_31, e112_34, e112_37, e112_38, e112_39, e112_42, e112_44, e112_45, e112_46, e112_47, e112_50, e112_51, e112_54, e112_55, e112_56, e112_58, e112_59, e112_62, e112_63, e112_64, e112_67, e112_68, e112_69, e112_72, e112_73, e112_74, e112_77, e112_80, e112_81, e112_82, e112_83, e112_86, e112_89, e112_92, e112_93, e112_94, e112_97, e112_98, e112_101, e112_102, zc0]
  refine c112_loop hb hl 401 p 0 0 h (by omega) hp (by omega) (fun _ => by decide) (by omega) h1 h2 (fun h' a1 a2 a3 a4 a5 => ?_)
  obtain ⟨m1, m2⟩ := mNum_sNum (bt tx len) 3 0 401 p 0 rfl (by omega)
  have hq := sNum_le (bt tx len) 3 p 0
  have e1 : ∀ k : Nat, k < 2 ^ 31 → ((1 : Int64) ≤ (nI k).toInt64 ∧ (nI k).toInt64 ≤ 3) = (1 ≤ k ∧ k ≤ 3) := by
    intro k hk
    rw [show (1 : Int64) = (nI 1).toInt64 from rfl, show (3 : Int64) = (nI 3).toInt64 from rfl, zl_le, zl_le, znI_le (by omega) hk, znI_le hk (by omega)]
  by_cases g : 48 ≤ bt tx len (sNum (bt tx len) 3 p 0).1 ∧ bt tx len (sNum (bt tx len) 3 p 0).1 ≤ 57
  · have m3 := m2 g
    have hn : ¬ sOk (bt tx len) p hi := fun q => q.2.1 g
    simp (disch := omega) only [e112_0, e112_1, e112_2, e112_3, e112_5, e112_8, e112_9, e112_12, e112_15, e112_16, e112_19, e112_20, e112_23, e112_24, e112_25, e112_28, e112_31, e112_34, e112_37, e112_38, e112_39, e112_42, e112_44, e112_45, e112_46, e112_47, e112_50, e112_51, e112_54, e112_55, e112_56, e112_58, e112_59, e112_62, e112_63, e112_64, e112_67, e112_68, e112_69, e112_72, e112_73, e112_74, e112_77, e112_80, e112_81, e112_82, e112_83, e112_86, e112_89, e112_92, e112_93, e112_94, e112_97, e112_98, e112_101, e112_102, c108, e1, if_neg, zrc_eq, zup_s, zup_n, zup_up, zal_i, zal_b, zal_z, zas_i, zas_b, zas_z, zan_eq, Option.toList_some, Option.toList_none, List.cons_append, List.nil_append, if_true, if_false, ite_true, ite_false, true_or, or_true, z00]
    exact k0 hn h' _ a1 a4 a5
  · have m3 := m1 g
    rw [m3] at a1 a2 a3 a4
    dsimp only at a1 a2 a3 a4
    simp only [m3]
    simp (disch := omega) only [e112_0, e112_1, e112_2, e112_3, e112_5, e112_8, e112_9, e112_12, e112_15, e112_16, e112_19, e112_20, e112_23, e112_24, e112_25, e112_28, e112_31, e112_34, e112_37, e112_38, e112_39, e112_42, e112_44, e112_45, e112_46, e112_47, e112_50, e112_51, e112_54, e112_55, e112_56, e112_58, e112_59, e112_62, e112_63, e112_64, e112_67, e112_68, e112_69, e112_72, e112_73, e112_74, e112_77, e112_80, e112_81, e112_82, e112_83, e112_86, e112_89, e112_92, e112_93, e112_94, e112_97, e112_98, e112_101, e112_102, c108, e1, znI_lt, zrc_eq, zup_s, zup_n, zup_up, zal_i, zal_b, zal_z, zas_i, zas_b, zas_z, zan_eq, Option.toList_some, Option.toList_none, List.cons_append, List.nil_append, if_true, if_false, ite_true, ite_false, true_or, or_true, z10]
    by_cases g1 : (sNum (bt tx len) 3 p 0).1 = p
    · have hn : ¬ sOk (bt tx len) p hi := fun q => q.1 g1
      rw [if_neg (by omega)]
      exact k0 hn h' _ a1 a4 a5
    · rw [if_pos (by omega)]
      by_cases g2 : hi < (sNum (bt tx len) 3 p 0).2
      · have hn : ¬ sOk (bt tx len) p hi := fun q => by have := q.2.2; omega
        rw [if_pos g2]
        exact k0 hn h' _ a1 a4 a5
      · rw [if_neg g2]
        exact k1 ⟨g1, g, by omega⟩ h' a1 a4 a5
theorem c113 {len p hi : Nat} {tx : Nat → Int32} (hb : bOk tx) (hl : len ≤ 400) (hp : p ≤ len) (hh : hi ≤ 999) (h1 : h 53 = mObj (nI len) (nI p) rp rj np nj kp su lo dr ab be) (h2 : h 54 = .inl (.byte, 400, tx))
    (k1 : bt tx len p = 44 ∧ sOk (bt tx len) (p + 1) hi → ∀ h', (sNum (bt tx len) 3 (p + 1) 0).1 ≤ len → h' 53 = mObj (nI len) (nI (sNum (bt tx len) 3 (p + 1) 0).1) rp rj np nj kp su lo dr ab be → zfr (fun a => a = 53) h h' → Q (some (.int (nI (sNum (bt tx len) 3 (p + 1) 0).2))) N h')
    (k0 : ¬ (bt tx len p = 44 ∧ sOk (bt tx len) (p + 1) hi) → ∀ h' q, q ≤ len → h' 53 = mObj (nI len) (nI q) rp rj np nj kp su lo dr ab be → zfr (fun a => a = 53) h h' → Q (some (.int (-1))) N h') :
    zE X 113 0 [some (.ref 53), some (.int (nI hi))] [] (N, 0, 0) h Q := by
  have h1' := h1
  unfold mObj at h1
  by_cases hpl : p < len
  · simp (disch := omega) only [e113_0, e113_1, e113_4, e113_5, e113_8, e113_11, e113_12, e113_15, e113_16, e113_19, e113_20, e113_22, e113_25, e113_26, e113_27, e113_28, e113_29, e113_32, e113_33, e113_34, e113_37, e113_38, e113_39, e113_42, h1, h2, zg10_0, zp10_0, zg10_1, zp10_1, zg10_2, zp10_2, zg10_3, zp10_3, zg10_4, zp10_4, zg10_5, zp10_5, zg10_6, zp10_6, zg10_7, zp10_7, zg10_8, zp10_8, zg10_9, zp10_9, zg10_10, zp10_10, zg10_11, zp10_11, zg10_12, zp10_12, zg10_13, zp10_13, zg10_14, zp10_14, zg10_15, zp10_15, zg10_16, zp10_16, zg10_17, zp10_17, zg10_18, zp10_18, zg10_19, zp10_19, zg10_20, zp10_20, zg10_21, zp10_21, zg10_22, zp10_22, zg10_23, zp10_23, zg10_24, zp10_24, zg10_25, zp10_25, zg10_26, zp10_26, zg10_27, zp10_27, zg10_28, zp10_28, zg10_29, zp10_29, zg10_30, zp10_30, zg10_31, zp10_31, zg10_32, zp10_32, zrc_eq, zup_s, zup_n, zup_up, zal_i, zal_b, zal_z, zas_i, zas_b, zas_z, zan_eq, Option.toList_some, Option.toList_none, List.cons_append, List.nil_append, if_true, if_false, ite_true, ite_false, true_or, or_true, znI_le, if_neg, zc44, mb_eq hb hpl]
    by_cases g : bt tx len p = 44
    · rw [if_pos g]
      simp (disch := omega) only [nI_1]
      refine c112 (p := p + 1) hb hl (by omega) hh zup_s (by rw [zup_n (by omega)]; exact h2) (fun q h' a1 a2 a3 => ?_) (fun q h' q' a1 a2 a3 => ?_)
      · simp (disch := omega) only [e113_0, e113_1, e113_4, e113_5, e113_8, e113_11, e113_12, e113_15, e113_16, e113_19, e113_20, e113_22, e113_25, e113_26, e113_27, e113_28, e113_29, e113_32, e113_33, e113_34, e113_37, e113_38, e113_39, e113_42, zrc_eq, zup_s, zup_n, zup_up, zal_i, zal_b, zal_z, zas_i, zas_b, zas_z, zan_eq, Option.toList_some, Option.toList_none, List.cons_append, List.nil_append, if_true, if_false, ite_true, ite_false, true_or, or_true]
        exact k1 ⟨g, q⟩ h' a1 a2 (zfr.up rfl a3)
      · simp (disch := omega) only [e113_0, e113_1, e113_4, e113_5, e113_8, e113_11, e113_12, e113_15, e113_16, e113_19, e113_20, e113_22, e113_25, e113_26, e113_27, e113_28, e113_29, e113_32, e113_33, e113_34, e113_37, e113_38, e113_39, e113_42, zrc_eq, zup_s, zup_n, zup_up, zal_i, zal_b, zal_z, zas_i, zas_b, zas_z, zan_eq, Option.toList_some, Option.toList_none, List.cons_append, List.nil_append, if_true, if_false, ite_true, ite_false, true_or, or_true]
        exact k0 (fun z => q z.2) h' q' a1 a2 (zfr.up rfl a3)
    · rw [if_neg g]
      exact k0 (fun z => g z.1) h p hp h1' zfr.rf
  · simp (disch := omega) only [e113_0, e113_1, e113_4, e113_5, e113_8, e113_11, e113_12, e113_15, e113_16, e113_19, e113_20, e113_22, e113_25, e113_26, e113_27, e113_28, e113_29, e113_32, e113_33, e113_34, e113_37, e113_38, e113_39, e113_42, h1, h2, zg10_0, zp10_0, zg10_1, zp10_1, zg10_2, zp10_2, zg10_3, zp10_3, zg10_4, zp10_4, zg10_5, zp10_5, zg10_6, zp10_6, zg10_7, zp10_7, zg10_8, zp10_8, zg10_9, zp10_9, zg10_10, zp10_10, zg10_11, zp10_11, zg10_12, zp10_12, zg10_13, zp10_13, zg10_14, zp10_14, zg10_15, zp10_15, zg10_16, zp10_16, zg10_17, zp10_17, zg10_18, zp10_18, zg10_19, zp10_19, zg10_20, zp10_20, zg10_21, zp10_21, zg10_22, zp10_22, zg10_23, zp10_23, zg10_24, zp10_24, zg10_25, zp10_25, zg10_26, zp10_26, zg10_27, zp10_27, zg10_28, zp10_28, zg10_29, zp10_29, zg10_30, zp10_30, zg10_31, zp10_31, zg10_32, zp10_32, zrc_eq, zup_s, zup_n, zup_up, zal_i, zal_b, zal_z, zas_i, zas_b, zas_z, zan_eq, Option.toList_some, Option.toList_none, List.cons_append, List.nil_append, if_true, if_false, ite_true, ite_false, true_or, or_true, znI_le, if_pos]
    exact k0 (fun z => by rw [(bt_none (tx := tx) hpl).2] at z; omega) h p hp h1' zfr.rf
end C23
