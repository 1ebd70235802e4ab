-- the law's loop, its start, the claim (its end begins with kit/laws/SKELETON.whole)
section C66
variable {X : Nat × (Nat → Int32)} {Q : Option Value → Nat → zH → Prop} {h : zH} {i ln kn : Nat} {tx la : Nat → Int32} {S Sd : zSh} {F : Nat → zTm}
def lOffs : Array Int := #[115, 178, 191, 204, 217, 260, 303, 366, 441, 504, 557, 610, 653, 696, 749, 772, 805, 858, 921, 944, 977, 1000, 1033, 1046, 1059]
theorem d0_33 : decode (mB 0) 33 = .ok (.tableswitch 1082 0 24 lOffs, 115) := by decide +kernel
theorem e0_33k {l0 l1 l2 l3 : Option Value} {k t N c s : Nat} {off : Int} (hk : k < 25) (ho : lOffs[k]? = some off) (ht : (33 : Int) + off = t) : zE X 0 33 [l0, l1, l2, l3] [.int (nI k)] (N, c, s) h Q = zE X 0 t [l0, l1, l2, l3] [] (N, c, s) h Q := by
  have e : (nI k).toInt = (k : Int) := nI_toInt (by omega)
  refine zE_tab (off := off) d0_33 (by rw [e]; omega) ?_ ht
  rw [e, show ((k : Int) - 0).toNat = k by omega]
  exact ho
theorem e0_33d {l0 l1 l2 l3 : Option Value} {k N c s : Nat} (hk : 25 ≤ k) (hk2 : k < 32) : zE X 0 33 [l0, l1, l2, l3] [.int (nI k)] (N, c, s) h Q = zE X 0 1115 [l0, l1, l2, l3] [] (N, c, s) h Q := by
  have e : (nI k).toInt = (k : Int) := nI_toInt (by omega)
  exact zE_tabd d0_33 (by rw [e]; omega) (by decide)
theorem lw_disp {k : Nat} (hk32 : k < 32) (hi : i + 7 ≤ X.1) (hX : X.1 ≤ 3584) (hI : zIn ln tx S kn F i) (hC : zCP h ln tx S Sd kn F la) (hM : zMP h ln tx S kn F la) (next : lwN X Q i) : zE X 0 33 [some (.retAddr 0), some (.ref 0), some (.ref 53), some (.int (nI i))] [.int (nI k)] (75, 75, 2047) h Q := by
  by_cases g0 : k = 0
  · subst g0
    rw [e0_33k (off := 115) (t := 148) (by omega) (by decide) (by decide)]
    exact lw_op0 hi hX hI hC hM next
  by_cases g1 : k = 1
  · subst g1
    rw [e0_33k (off := 178) (t := 211) (by omega) (by decide) (by decide)]
    exact lw_op1 hi hX hI hC hM next
  by_cases g2 : k = 2
  · subst g2
    rw [e0_33k (off := 191) (t := 224) (by omega) (by decide) (by decide)]
    exact lw_op2 hi hX hI hC hM next
  by_cases g3 : k = 3
  · subst g3
    rw [e0_33k (off := 204) (t := 237) (by omega) (by decide) (by decide)]
    exact lw_op3 hi hX hI hC hM next
  by_cases g4 : k = 4
  · subst g4
    rw [e0_33k (off := 217) (t := 250) (by omega) (by decide) (by decide)]
    exact lw_op4 hi hX hI hC hM next
  by_cases g5 : k = 5
  · subst g5
    rw [e0_33k (off := 260) (t := 293) (by omega) (by decide) (by decide)]
    exact lw_op5 hi hX hI hC hM next
  by_cases g6 : k = 6
  · subst g6
    rw [e0_33k (off := 303) (t := 336) (by omega) (by decide) (by decide)]
    exact lw_op6 hi hX hI hC hM next
  by_cases g7 : k = 7
  · subst g7
    rw [e0_33k (off := 366) (t := 399) (by omega) (by decide) (by decide)]
    exact lw_op7 hi hX hI hC hM next
  by_cases g8 : k = 8
  · subst g8
    rw [e0_33k (off := 441) (t := 474) (by omega) (by decide) (by decide)]
    exact lw_op8 hi hX hI hC hM next
  by_cases g9 : k = 9
  · subst g9
    rw [e0_33k (off := 504) (t := 537) (by omega) (by decide) (by decide)]
    exact lw_op9 hi hX hI hC hM next
  by_cases g10 : k = 10
  · subst g10
    rw [e0_33k (off := 557) (t := 590) (by omega) (by decide) (by decide)]
    exact lw_op10 hi hX hI hC hM next
  by_cases g11 : k = 11
  · subst g11
    rw [e0_33k (off := 610) (t := 643) (by omega) (by decide) (by decide)]
    exact lw_op11 hi hX hI hC hM next
  by_cases g12 : k = 12
  · subst g12
    rw [e0_33k (off := 653) (t := 686) (by omega) (by decide) (by decide)]
    exact lw_op12 hi hX hI hC hM next
  by_cases g13 : k = 13
  · subst g13
    rw [e0_33k (off := 696) (t := 729) (by omega) (by decide) (by decide)]
    exact lw_op13 hi hX hI hC hM next
  by_cases g14 : k = 14
  · subst g14
    rw [e0_33k (off := 749) (t := 782) (by omega) (by decide) (by decide)]
    exact lw_op14 hi hX hI hC hM next
  by_cases g15 : k = 15
  · subst g15
    rw [e0_33k (off := 772) (t := 805) (by omega) (by decide) (by decide)]
    exact lw_op15 hi hX hI hC hM next
  by_cases g16 : k = 16
  · subst g16
    rw [e0_33k (off := 805) (t := 838) (by omega) (by decide) (by decide)]
    exact lw_op16 hi hX hI hC hM next
  by_cases g17 : k = 17
  · subst g17
    rw [e0_33k (off := 858) (t := 891) (by omega) (by decide) (by decide)]
    exact lw_op17 hi hX hI hC hM next
  by_cases g18 : k = 18
  · subst g18
    rw [e0_33k (off := 921) (t := 954) (by omega) (by decide) (by decide)]
    exact lw_op18 hi hX hI hC hM next
  by_cases g19 : k = 19
  · subst g19
    rw [e0_33k (off := 944) (t := 977) (by omega) (by decide) (by decide)]
    exact lw_op19 hi hX hI hC hM next
  by_cases g20 : k = 20
  · subst g20
    rw [e0_33k (off := 977) (t := 1010) (by omega) (by decide) (by decide)]
    exact lw_op20 hi hX hI hC hM next
  by_cases g21 : k = 21
  · subst g21
    rw [e0_33k (off := 1000) (t := 1033) (by omega) (by decide) (by decide)]
    exact lw_op21 hi hX hI hC hM next
  by_cases g22 : k = 22
  · subst g22
    rw [e0_33k (off := 1033) (t := 1066) (by omega) (by decide) (by decide)]
    exact lw_op22 hi hX hI hC hM next
  by_cases g23 : k = 23
  · subst g23
    rw [e0_33k (off := 1046) (t := 1079) (by omega) (by decide) (by decide)]
    exact lw_op23 hi hX hI hC hM next
  by_cases g24 : k = 24
  · subst g24
    rw [e0_33k (off := 1059) (t := 1092) (by omega) (by decide) (by decide)]
    exact lw_op24 hi hX hI hC hM next
  rw [e0_33d (by omega) hk32]
  exact next h _ _ _ _ _ _ _ hC hM (hI.up (by omega))
theorem lw_loop (hX : X.1 ≤ 3584) : ∀ (m i : Nat) (h : zH) (ln : Nat) (tx : Nat → Int32) (S Sd : zSh) (kn : Nat) (F : Nat → zTm) (la : Nat → Int32), X.1 < i + 7 * m → i ≤ X.1 → zCP h ln tx S Sd kn F la → zMP h ln tx S kn F la → zIn ln tx S kn F i → zE X 0 18 [some (.retAddr 0), some (.ref 0), some (.ref 53), some (.int (nI i))] [] (75, 75, 2047) h (fun v _ _ => v = some (.int 1)) := by
  intro m
  induction m with
  | zero =>
    intro i h ln tx S Sd kn F la hm hi
    omega
  | succ m ih =>
    intro i h ln tx S Sd kn F la hm hi hC hM hI
    have ec : (Int32.ofNat X.1 - 7 < nI i) = ¬ (i + 7 ≤ X.1) := by
      apply propext
      have e : (Int32.ofNat X.1 - 7).toInt = (X.1 : Int) - 7 := pk_sub_toInt (a := X.1) (b := 7) (by omega) (by omega)
      rw [Int32.lt_iff_toInt_lt, e, nI_toInt (by omega)]
      omega
    rw [e0_18]
    simp only [e0_19s, e0_20, e0_21, e0_23, e0_24, ec]
    by_cases g : i + 7 ≤ X.1
    · rw [if_neg (fun z => z g)]
      obtain ⟨p0, q0, r0⟩ := lw_a1 (X := X) (i := i) (k := 0) (by omega) hX
      rw [Nat.add_zero] at p0 q0 r0
      obtain ⟨k, hk, ek⟩ := pk_andE (X.2 i) (m := 31) 5 (by decide)
      simp only [e0_27s, e0_28, e0_29, e0_30, e0_32, p0, q0, r0, or_self, not_false_eq_true, if_true, ek]
      refine lw_disp (by omega) g hX hI hC hM (fun h' ln tx S Sd kn F la c1 m1 i1 => ?_)
      have e7 : nI i + 7 = nI (i + 7) := nI_add i 7
      simp only [e0_1115, e0_1118, e7]
      exact ih (i + 7) h' ln tx S Sd kn F la (by omega) (by omega) c1 m1 i1
    · rw [if_pos g]
      simp only [e0_1121, e0_1122, or_true, if_true]
/-- the sheet of a new object -/
abbrev sNew : zSh := ((0, zf0, zf0, zf0), (0, zf0, zf0, zf0), (0, 0, 0), (100, 0, 0), zf0, 0)
theorem lw_begin (hX : X.1 ≤ 3584) : zE X 0 0 [some (.retAddr 0), none, none, none] [] (0, 0, 0) (fun _ => zdead) (fun v _ _ => v = some (.int 1)) := by
  rw [e0_0]
  simp only [e0_3, e0_4, Nat.reduceAdd]
  refine c1 (fun H a0 a1 a2 a3 a4 a5 a6 a7 a8 a9 a10 a11 => ?_)
  simp only [Option.toList_none, List.nil_append, e0_7, e0_8, e0_11, e0_12, Nat.reduceAdd]
  refine c106 (fun H2 b1 b2 b3 b4 b5 b6 b7 b8 => ?_)
  simp only [Option.toList_none, List.nil_append, e0_15, e0_16, e0_17]
  have F2 : zfr (fun b => 53 ≤ b) H H2 := b8
  have hC : zCP H 0 zf0 sNew sNew 0 (fun _ => (zf0, zf0, zf0, 0, 0)) zf0 := by
    refine ⟨4, 12, 0, [], zf0, a0, Or.inl ⟨rfl, rfl⟩, ⟨a1, a2, by omega⟩, by omega, ⟨0, 0, 0, by omega, by omega, by omega, a3, (fun x h => by cases h), (fun x h => by cases h), (fun x h => by cases h)⟩, a4, a5, a6, fun _ _ => rfl, a7, ⟨_, a8⟩, fun s hs => ?_, fun s hs => absurd hs (Nat.not_lt_zero s), a11⟩
    rcases (show s = 0 ∨ s = 1 by omega) with rfl | rfl
    · exact ⟨_, a9⟩
    · exact ⟨_, a10⟩
  have hM : zMP H2 0 zf0 sNew 0 (fun _ => (zf0, zf0, zf0, 0, 0)) zf0 := ⟨0, 0, 0, 0, 0, 0, 0, 0, _, zf0, b1, b2, b3, b4, b5, fun _ _ => rfl, b6, b7⟩
  have hI : zIn 0 zf0 sNew 0 (fun _ => (zf0, zf0, zf0, 0, 0)) 0 := ⟨⟨⟨Nat.zero_le _, fun i hi => absurd hi (Nat.not_lt_zero i)⟩, ⟨Nat.zero_le _, fun i hi => absurd hi (Nat.not_lt_zero i)⟩, ⟨Nat.zero_le _, Nat.zero_le _, Nat.le_refl 0⟩, ⟨Nat.le_of_ble_eq_true rfl, Nat.le_of_ble_eq_true rfl, Nat.zero_le _, Nat.zero_le _⟩, Nat.zero_le _⟩, by omega, by omega, fun p => by show -128 ≤ ((0 : Int32)).toInt ∧ ((0 : Int32)).toInt ≤ 127; decide, fun s hs => ⟨0, Nat.le_refl 0, rfl⟩⟩
  exact lw_loop hX (X.1 + 1) 0 H2 _ _ _ _ _ _ _ (by omega) (by omega) (hC.kept (by omega) F2 (by omega)) hM hI
end C66
