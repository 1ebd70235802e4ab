-- constructors: their equations (written by wip/whole/gen59.py)
section ZN
variable {X : Nat × (Nat → Int32)} {y pc : Nat} {L : zL} {st : List Value} {h : zH} {Q : Option Value → Nat → zH → Prop}
theorem zcall_eq2 {rest as : List Value} {w : zN} {z : Nat} (h1 : zck y z (zcw rest) (zargs as).length = true) (h2 : zlok z (zentry z as) = true) (h3 : w.2.1 + (mRm z).cells ≤ (mRm y).cells ∧ w.2.2 + (mRm z).slots ≤ (mRm y).slots) : zcall y pc L rest w h z as = some (.inr (.inl ((z, 0, zentry z as, [], (w.1, 0, 0), h), fun r => (y, pc + 3, L, r.1.toList ++ rest, (r.2.1, w.2.1 + (mRm z).cells, w.2.2 + (mRm z).slots), r.2.2)))) := by
  simp only [zck, Bool.and_eq_true, decide_eq_true_eq] at h1
  obtain ⟨⟨⟨⟨⟨⟨a1, a2⟩, a3⟩, a4⟩, a5⟩, a6⟩, a7⟩ := h1
  unfold zcall
  simp only [a1, a2, a3, a4, a5, a6, a7, h2, h3.1, h3.2, decide_true, Bool.true_and, Bool.and_true, ne_eq, not_false_eq_true, if_true]
theorem zE_new {k ci q N c s s' : Nat} (hd : decode (mB y) pc = .ok (.new k, 3)) (hc : zcl? (mC y) k = some (ci, q)) (h1 : c + 1 ≤ (mRm y).cells) (h2 : s' ≤ (mRm y).slots) (hs : s + (zdf ci).length = s') : zE X y pc L st (N, c, s) h Q = zE X y (pc + 3) L (.ref N :: st) (N + 1, c + 1, s') (va_up h N (.inr (ci, zdf ci))) Q := by
  subst hs
  exact zE_go (by rw [zS_of hd]; simp only [zI, hc, h1, h2, decide_true, Bool.and_self]; rfl)
theorem zE_newa {t : ArrayType} {m N c s : Nat} {ty : FieldType} (hd : decode (mB y) pc = .ok (.newarray t, 2)) (ht : newarray.typeOf t = ty) (hty : (ty == .int || ty == .byte || ty == .boolean) = true) (hm : m ≤ 1000) (h1 : c + 1 ≤ (mRm y).cells) (h2 : s + m ≤ (mRm y).slots) : zE X y pc L (.int (nI m) :: st) (N, c, s) h Q = zE X y (pc + 2) L (.ref N :: st) (N + 1, c + 1, s + m) (va_up h N (.inl (ty, m, fun _ => 0))) Q := by
  subst ht
  have e1 : (nI m).toNatClampNeg = m := nI_clamp (by omega)
  have e2 : ¬ nI m < 0 := nI_pos (by omega)
  exact zE_go (by rw [zS_of hd]; simp only [zI, e1, e2, hty, hm, h1, h2, decide_true, Bool.and_self, not_false_eq_true]; rfl)
theorem zE_invo {k q a : Nat} {w : zN} (hd : decode (mB y) pc = .ok (.invokespecial k, 3)) (hm : zml? (mC y) k = none) (ho : zol? (mC y) k = some q) (h1 : (decide (1 ≤ (mRm y).frames) && decide (zcw st + 12 ≤ (mRm y).locals)) = true) : zE X y pc L (.ref a :: st) w h Q = zE X y (pc + 3) L st w h Q := zE_go (by rw [zS_of hd]; simp only [zI, hm, ho, h1]; rfl)
theorem zE_invn {k z q a N c s c' s' : Nat} {nest : Bool} {L' : zL} (hd : decode (mB y) pc = .ok (.invokespecial k, 3)) (hm : zml? (mC y) k = some (z, nest, q)) (hz : (decide (mSt z = 0) && decide (mPn z = 0) && decide ((mN z).name = "<init>")) = true) (h1 : zck y z (zcw st) (zargs [.ref a]).length = true) (h2 : zlok z (zentry z [.ref a]) = true) (h3 : c + (mRm z).cells ≤ (mRm y).cells ∧ s + (mRm z).slots ≤ (mRm y).slots) (hL : zentry z [.ref a] = L') (hc : c + (mRm z).cells = c') (hs : s + (mRm z).slots = s') : zE X y pc L (.ref a :: st) (N, c, s) h Q = zE X z 0 L' [] (N, 0, 0) h (fun v N' h' => zE X y (pc + 3) L (v.toList ++ st) (N', c', s') h' Q) := by
  subst hL; subst hc; subst hs
  have e := zS_of (X := X) (L := L) (st := .ref a :: st) (w := (N, c, s)) (h := h) hd
  simp only [zI, hm, hz] at e
  rw [show zif true (zcall y pc L st (N, c, s) h z [.ref a]) = zcall y pc L st (N, c, s) h z [.ref a] from rfl, zcall_eq2 h1 h2 h3] at e
  exact zE_call e
end ZN

section ZM
variable {X : Nat × (Nat → Int32)} {l0 l1 l2 l3 l4 l5 l6 l7 l8 l9 l10 l11 l12 l13 l14 l15 l16 l17 l18 : Option Value} {i0 i1 i2 i3 i4 i5 i6 i7 i8 i9 v : Int32} {j0 j1 j2 j3 j4 j5 j6 u : Int64} {a0 a1 a2 a3 a4 a5 a6 a7 a8 r N c s : Nat} {h : zH} {Q : Option Value → Nat → zH → Prop}

-- 3 Script_init
theorem e3_0 : zE X 3 0 [some (.ref r)] [] (N, 0, 0) h Q = zE X 3 1 [some (.ref r)] [.ref r] (N, 0, 0) h Q := zE_aload_n (k := 0) (by decide +kernel) rfl
theorem e3_4 : zE X 3 4 [some (.ref r)] [] (N, 0, 0) h Q = zE X 3 5 [some (.ref r)] [.ref r] (N, 0, 0) h Q := zE_aload_n (k := 0) (by decide +kernel) rfl
theorem e3_5 : zE X 3 5 [l0] [.ref a0] (N, 0, 0) h Q = zE X 3 8 [l0] [.int 400, .ref a0] (N, 0, 0) h Q := zE_sipush (n := 400) (by decide +kernel) (by decide)
theorem e3_10 : zE X 3 10 [l0] [.ref a0, .ref a1] (N, 1, 400) h Q = zpf (h a1) 4 0 (.ref a0) (fun c => zE X 3 13 [l0] [] (N, 1, 400) (va_up h a1 c) Q) := zE_putfield (k := 9) (nest := false) (q := 111) (by decide +kernel) rfl rfl rfl
theorem e3_13 : zE X 3 13 [l0] [] (N, 1, 400) h Q = Q none N h := zE_return (by decide +kernel) rfl
theorem e3_1 : zE X 3 1 [l0] [.ref a0] (N, 0, 0) h Q = zE X 3 4 [l0] [] (N, 0, 0) h Q := zE_invo (k := 3) (q := 110) (by decide +kernel) rfl rfl rfl
theorem e3_8 : zE X 3 8 [l0] [.int 400, .ref a1] (N, 0, 0) h Q = zE X 3 10 [l0] [.ref N, .ref a1] (N + 1, 1, 400) (va_up h N (.inl (.byte, 400, fun _ => 0))) Q := zE_newa (t := .byte) (m := 400) (by decide +kernel) rfl rfl (by decide) (by decide) (by decide)
-- 4 ItemReader_init
theorem e4_0 : zE X 4 0 [some (.ref r)] [] (N, 0, 0) h Q = zE X 4 1 [some (.ref r)] [.ref r] (N, 0, 0) h Q := zE_aload_n (k := 0) (by decide +kernel) rfl
theorem e4_4 : zE X 4 4 [l0] [] (N, 0, 0) h Q = Q none N h := zE_return (by decide +kernel) rfl
theorem e4_1 : zE X 4 1 [l0] [.ref a0] (N, 0, 0) h Q = zE X 4 4 [l0] [] (N, 0, 0) h Q := zE_invo (k := 3) (q := 126) (by decide +kernel) rfl rfl rfl
-- 5 Sheet_init
theorem e5_0 : zE X 5 0 [some (.ref r)] [] (N, 0, 0) h Q = zE X 5 1 [some (.ref r)] [.ref r] (N, 0, 0) h Q := zE_aload_n (k := 0) (by decide +kernel) rfl
theorem e5_4 : zE X 5 4 [some (.ref r)] [] (N, 0, 0) h Q = zE X 5 5 [some (.ref r)] [.ref r] (N, 0, 0) h Q := zE_aload_n (k := 0) (by decide +kernel) rfl
theorem e5_5 : zE X 5 5 [l0] [.ref a0] (N, 0, 0) h Q = zE X 5 7 [l0] [.int 24, .ref a0] (N, 0, 0) h Q := zE_bipush (n := 24) (by decide +kernel) (by decide)
theorem e5_9 : zE X 5 9 [l0] [.ref a0, .ref a1] (N, 1, 24) h Q = zpf (h a1) 5 1 (.ref a0) (fun c => zE X 5 12 [l0] [] (N, 1, 24) (va_up h a1 c) Q) := zE_putfield (k := 9) (nest := false) (q := 158) (by decide +kernel) rfl rfl rfl
theorem e5_12 : zE X 5 12 [some (.ref r)] [] (N, 1, 24) h Q = zE X 5 13 [some (.ref r)] [.ref r] (N, 1, 24) h Q := zE_aload_n (k := 0) (by decide +kernel) rfl
theorem e5_13 : zE X 5 13 [l0] [.ref a0] (N, 1, 24) h Q = zE X 5 15 [l0] [.int 24, .ref a0] (N, 1, 24) h Q := zE_bipush (n := 24) (by decide +kernel) (by decide)
theorem e5_17 : zE X 5 17 [l0] [.ref a0, .ref a1] (N, 2, 48) h Q = zpf (h a1) 5 2 (.ref a0) (fun c => zE X 5 20 [l0] [] (N, 2, 48) (va_up h a1 c) Q) := zE_putfield (k := 15) (nest := false) (q := 161) (by decide +kernel) rfl rfl rfl
theorem e5_20 : zE X 5 20 [some (.ref r)] [] (N, 2, 48) h Q = zE X 5 21 [some (.ref r)] [.ref r] (N, 2, 48) h Q := zE_aload_n (k := 0) (by decide +kernel) rfl
theorem e5_21 : zE X 5 21 [l0] [.ref a0] (N, 2, 48) h Q = zE X 5 23 [l0] [.int 24, .ref a0] (N, 2, 48) h Q := zE_bipush (n := 24) (by decide +kernel) (by decide)
theorem e5_25 : zE X 5 25 [l0] [.ref a0, .ref a1] (N, 3, 72) h Q = zpf (h a1) 5 3 (.ref a0) (fun c => zE X 5 28 [l0] [] (N, 3, 72) (va_up h a1 c) Q) := zE_putfield (k := 18) (nest := false) (q := 162) (by decide +kernel) rfl rfl rfl
theorem e5_28 : zE X 5 28 [some (.ref r)] [] (N, 3, 72) h Q = zE X 5 29 [some (.ref r)] [.ref r] (N, 3, 72) h Q := zE_aload_n (k := 0) (by decide +kernel) rfl
theorem e5_29 : zE X 5 29 [l0] [.ref a0] (N, 3, 72) h Q = zE X 5 31 [l0] [.int 6, .ref a0] (N, 3, 72) h Q := zE_bipush (n := 6) (by decide +kernel) (by decide)
theorem e5_33 : zE X 5 33 [l0] [.ref a0, .ref a1] (N, 4, 78) h Q = zpf (h a1) 5 5 (.ref a0) (fun c => zE X 5 36 [l0] [] (N, 4, 78) (va_up h a1 c) Q) := zE_putfield (k := 21) (nest := false) (q := 169) (by decide +kernel) rfl rfl rfl
theorem e5_36 : zE X 5 36 [some (.ref r)] [] (N, 4, 78) h Q = zE X 5 37 [some (.ref r)] [.ref r] (N, 4, 78) h Q := zE_aload_n (k := 0) (by decide +kernel) rfl
theorem e5_37 : zE X 5 37 [l0] [.ref a0] (N, 4, 78) h Q = zE X 5 39 [l0] [.int 6, .ref a0] (N, 4, 78) h Q := zE_bipush (n := 6) (by decide +kernel) (by decide)
theorem e5_41 : zE X 5 41 [l0] [.ref a0, .ref a1] (N, 5, 84) h Q = zpf (h a1) 5 6 (.ref a0) (fun c => zE X 5 44 [l0] [] (N, 5, 84) (va_up h a1 c) Q) := zE_putfield (k := 24) (nest := false) (q := 170) (by decide +kernel) rfl rfl rfl
theorem e5_44 : zE X 5 44 [some (.ref r)] [] (N, 5, 84) h Q = zE X 5 45 [some (.ref r)] [.ref r] (N, 5, 84) h Q := zE_aload_n (k := 0) (by decide +kernel) rfl
theorem e5_45 : zE X 5 45 [l0] [.ref a0] (N, 5, 84) h Q = zE X 5 47 [l0] [.int 6, .ref a0] (N, 5, 84) h Q := zE_bipush (n := 6) (by decide +kernel) (by decide)
theorem e5_49 : zE X 5 49 [l0] [.ref a0, .ref a1] (N, 6, 90) h Q = zpf (h a1) 5 7 (.ref a0) (fun c => zE X 5 52 [l0] [] (N, 6, 90) (va_up h a1 c) Q) := zE_putfield (k := 27) (nest := false) (q := 171) (by decide +kernel) rfl rfl rfl
theorem e5_52 : zE X 5 52 [some (.ref r)] [] (N, 6, 90) h Q = zE X 5 53 [some (.ref r)] [.ref r] (N, 6, 90) h Q := zE_aload_n (k := 0) (by decide +kernel) rfl
theorem e5_53 : zE X 5 53 [l0] [.ref a0] (N, 6, 90) h Q = zE X 5 55 [l0] [.int 100, .ref a0] (N, 6, 90) h Q := zE_bipush (n := 100) (by decide +kernel) (by decide)
theorem e5_55 : zE X 5 55 [l0] [.int i0, .ref a1] (N, 6, 90) h Q = zpf (h a1) 5 11 (.int i0) (fun c => zE X 5 58 [l0] [] (N, 6, 90) (va_up h a1 c) Q) := zE_putfield (k := 30) (nest := false) (q := 178) (by decide +kernel) rfl rfl rfl
theorem e5_58 : zE X 5 58 [some (.ref r)] [] (N, 6, 90) h Q = zE X 5 59 [some (.ref r)] [.ref r] (N, 6, 90) h Q := zE_aload_n (k := 0) (by decide +kernel) rfl
theorem e5_59 : zE X 5 59 [l0] [.ref a0] (N, 6, 90) h Q = zE X 5 61 [l0] [.int 8, .ref a0] (N, 6, 90) h Q := zE_bipush (n := 8) (by decide +kernel) (by decide)
theorem e5_63 : zE X 5 63 [l0] [.ref a0, .ref a1] (N, 7, 98) h Q = zpf (h a1) 5 14 (.ref a0) (fun c => zE X 5 66 [l0] [] (N, 7, 98) (va_up h a1 c) Q) := zE_putfield (k := 34) (nest := false) (q := 182) (by decide +kernel) rfl rfl rfl
theorem e5_66 : zE X 5 66 [l0] [] (N, 7, 98) h Q = Q none N h := zE_return (by decide +kernel) rfl
theorem e5_1 : zE X 5 1 [l0] [.ref a0] (N, 0, 0) h Q = zE X 5 4 [l0] [] (N, 0, 0) h Q := zE_invo (k := 3) (q := 153) (by decide +kernel) rfl rfl rfl
theorem e5_7 : zE X 5 7 [l0] [.int 24, .ref a1] (N, 0, 0) h Q = zE X 5 9 [l0] [.ref N, .ref a1] (N + 1, 1, 24) (va_up h N (.inl (.int, 24, fun _ => 0))) Q := zE_newa (t := .int) (m := 24) (by decide +kernel) rfl rfl (by decide) (by decide) (by decide)
theorem e5_15 : zE X 5 15 [l0] [.int 24, .ref a1] (N, 1, 24) h Q = zE X 5 17 [l0] [.ref N, .ref a1] (N + 1, 2, 48) (va_up h N (.inl (.int, 24, fun _ => 0))) Q := zE_newa (t := .int) (m := 24) (by decide +kernel) rfl rfl (by decide) (by decide) (by decide)
theorem e5_23 : zE X 5 23 [l0] [.int 24, .ref a1] (N, 2, 48) h Q = zE X 5 25 [l0] [.ref N, .ref a1] (N + 1, 3, 72) (va_up h N (.inl (.int, 24, fun _ => 0))) Q := zE_newa (t := .int) (m := 24) (by decide +kernel) rfl rfl (by decide) (by decide) (by decide)
theorem e5_31 : zE X 5 31 [l0] [.int 6, .ref a1] (N, 3, 72) h Q = zE X 5 33 [l0] [.ref N, .ref a1] (N + 1, 4, 78) (va_up h N (.inl (.int, 6, fun _ => 0))) Q := zE_newa (t := .int) (m := 6) (by decide +kernel) rfl rfl (by decide) (by decide) (by decide)
theorem e5_39 : zE X 5 39 [l0] [.int 6, .ref a1] (N, 4, 78) h Q = zE X 5 41 [l0] [.ref N, .ref a1] (N + 1, 5, 84) (va_up h N (.inl (.int, 6, fun _ => 0))) Q := zE_newa (t := .int) (m := 6) (by decide +kernel) rfl rfl (by decide) (by decide) (by decide)
theorem e5_47 : zE X 5 47 [l0] [.int 6, .ref a1] (N, 5, 84) h Q = zE X 5 49 [l0] [.ref N, .ref a1] (N + 1, 6, 90) (va_up h N (.inl (.int, 6, fun _ => 0))) Q := zE_newa (t := .int) (m := 6) (by decide +kernel) rfl rfl (by decide) (by decide) (by decide)
theorem e5_61 : zE X 5 61 [l0] [.int 8, .ref a1] (N, 6, 90) h Q = zE X 5 63 [l0] [.ref N, .ref a1] (N + 1, 7, 98) (va_up h N (.inl (.int, 8, fun _ => 0))) Q := zE_newa (t := .int) (m := 8) (by decide +kernel) rfl rfl (by decide) (by decide) (by decide)
-- 6 Times_init
theorem e6_0 : zE X 6 0 [some (.ref r)] [] (N, 0, 0) h Q = zE X 6 1 [some (.ref r)] [.ref r] (N, 0, 0) h Q := zE_aload_n (k := 0) (by decide +kernel) rfl
theorem e6_4 : zE X 6 4 [some (.ref r)] [] (N, 0, 0) h Q = zE X 6 5 [some (.ref r)] [.ref r] (N, 0, 0) h Q := zE_aload_n (k := 0) (by decide +kernel) rfl
theorem e6_5 : zE X 6 5 [l0] [.ref a0] (N, 0, 0) h Q = zE X 6 7 [l0] [.int 8, .ref a0] (N, 0, 0) h Q := zE_bipush (n := 8) (by decide +kernel) (by decide)
theorem e6_9 : zE X 6 9 [l0] [.ref a0, .ref a1] (N, 1, 8) h Q = zpf (h a1) 8 0 (.ref a0) (fun c => zE X 6 12 [l0] [] (N, 1, 8) (va_up h a1 c) Q) := zE_putfield (k := 9) (nest := false) (q := 226) (by decide +kernel) rfl rfl rfl
theorem e6_12 : zE X 6 12 [some (.ref r)] [] (N, 1, 8) h Q = zE X 6 13 [some (.ref r)] [.ref r] (N, 1, 8) h Q := zE_aload_n (k := 0) (by decide +kernel) rfl
theorem e6_13 : zE X 6 13 [l0] [.ref a0] (N, 1, 8) h Q = zE X 6 15 [l0] [.int 8, .ref a0] (N, 1, 8) h Q := zE_bipush (n := 8) (by decide +kernel) (by decide)
theorem e6_17 : zE X 6 17 [l0] [.ref a0, .ref a1] (N, 2, 16) h Q = zpf (h a1) 8 1 (.ref a0) (fun c => zE X 6 20 [l0] [] (N, 2, 16) (va_up h a1 c) Q) := zE_putfield (k := 15) (nest := false) (q := 228) (by decide +kernel) rfl rfl rfl
theorem e6_20 : zE X 6 20 [some (.ref r)] [] (N, 2, 16) h Q = zE X 6 21 [some (.ref r)] [.ref r] (N, 2, 16) h Q := zE_aload_n (k := 0) (by decide +kernel) rfl
theorem e6_21 : zE X 6 21 [l0] [.ref a0] (N, 2, 16) h Q = zE X 6 23 [l0] [.int 8, .ref a0] (N, 2, 16) h Q := zE_bipush (n := 8) (by decide +kernel) (by decide)
theorem e6_25 : zE X 6 25 [l0] [.ref a0, .ref a1] (N, 3, 24) h Q = zpf (h a1) 8 2 (.ref a0) (fun c => zE X 6 28 [l0] [] (N, 3, 24) (va_up h a1 c) Q) := zE_putfield (k := 18) (nest := false) (q := 230) (by decide +kernel) rfl rfl rfl
theorem e6_28 : zE X 6 28 [l0] [] (N, 3, 24) h Q = Q none N h := zE_return (by decide +kernel) rfl
theorem e6_1 : zE X 6 1 [l0] [.ref a0] (N, 0, 0) h Q = zE X 6 4 [l0] [] (N, 0, 0) h Q := zE_invo (k := 3) (q := 225) (by decide +kernel) rfl rfl rfl
theorem e6_7 : zE X 6 7 [l0] [.int 8, .ref a1] (N, 0, 0) h Q = zE X 6 9 [l0] [.ref N, .ref a1] (N + 1, 1, 8) (va_up h N (.inl (.int, 8, fun _ => 0))) Q := zE_newa (t := .int) (m := 8) (by decide +kernel) rfl rfl (by decide) (by decide) (by decide)
theorem e6_15 : zE X 6 15 [l0] [.int 8, .ref a1] (N, 1, 8) h Q = zE X 6 17 [l0] [.ref N, .ref a1] (N + 1, 2, 16) (va_up h N (.inl (.int, 8, fun _ => 0))) Q := zE_newa (t := .int) (m := 8) (by decide +kernel) rfl rfl (by decide) (by decide) (by decide)
theorem e6_23 : zE X 6 23 [l0] [.int 8, .ref a1] (N, 2, 16) h Q = zE X 6 25 [l0] [.ref N, .ref a1] (N + 1, 3, 24) (va_up h N (.inl (.boolean, 8, fun _ => 0))) Q := zE_newa (t := .boolean) (m := 8) (by decide +kernel) rfl rfl (by decide) (by decide) (by decide)
-- 7 Ranking_init
theorem e7_0 : zE X 7 0 [some (.ref r)] [] (N, 0, 0) h Q = zE X 7 1 [some (.ref r)] [.ref r] (N, 0, 0) h Q := zE_aload_n (k := 0) (by decide +kernel) rfl
theorem e7_4 : zE X 7 4 [some (.ref r)] [] (N, 0, 0) h Q = zE X 7 5 [some (.ref r)] [.ref r] (N, 0, 0) h Q := zE_aload_n (k := 0) (by decide +kernel) rfl
theorem e7_5 : zE X 7 5 [l0] [.ref a0] (N, 0, 0) h Q = zE X 7 7 [l0] [.int 24, .ref a0] (N, 0, 0) h Q := zE_bipush (n := 24) (by decide +kernel) (by decide)
theorem e7_9 : zE X 7 9 [l0] [.ref a0, .ref a1] (N, 1, 24) h Q = zpf (h a1) 2 1 (.ref a0) (fun c => zE X 7 12 [l0] [] (N, 1, 24) (va_up h a1 c) Q) := zE_putfield (k := 9) (nest := false) (q := 258) (by decide +kernel) rfl rfl rfl
theorem e7_12 : zE X 7 12 [some (.ref r)] [] (N, 1, 24) h Q = zE X 7 13 [some (.ref r)] [.ref r] (N, 1, 24) h Q := zE_aload_n (k := 0) (by decide +kernel) rfl
theorem e7_13 : zE X 7 13 [l0] [.ref a0] (N, 1, 24) h Q = zE X 7 15 [l0] [.int 24, .ref a0] (N, 1, 24) h Q := zE_bipush (n := 24) (by decide +kernel) (by decide)
theorem e7_17 : zE X 7 17 [l0] [.ref a0, .ref a1] (N, 2, 48) h Q = zpf (h a1) 2 2 (.ref a0) (fun c => zE X 7 20 [l0] [] (N, 2, 48) (va_up h a1 c) Q) := zE_putfield (k := 15) (nest := false) (q := 259) (by decide +kernel) rfl rfl rfl
theorem e7_20 : zE X 7 20 [some (.ref r)] [] (N, 2, 48) h Q = zE X 7 21 [some (.ref r)] [.ref r] (N, 2, 48) h Q := zE_aload_n (k := 0) (by decide +kernel) rfl
theorem e7_21 : zE X 7 21 [l0] [.ref a0] (N, 2, 48) h Q = zE X 7 23 [l0] [.int 24, .ref a0] (N, 2, 48) h Q := zE_bipush (n := 24) (by decide +kernel) (by decide)
theorem e7_25 : zE X 7 25 [l0] [.ref a0, .ref a1] (N, 3, 72) h Q = zpf (h a1) 2 3 (.ref a0) (fun c => zE X 7 28 [l0] [] (N, 3, 72) (va_up h a1 c) Q) := zE_putfield (k := 18) (nest := false) (q := 260) (by decide +kernel) rfl rfl rfl
theorem e7_28 : zE X 7 28 [l0] [] (N, 3, 72) h Q = Q none N h := zE_return (by decide +kernel) rfl
theorem e7_1 : zE X 7 1 [l0] [.ref a0] (N, 0, 0) h Q = zE X 7 4 [l0] [] (N, 0, 0) h Q := zE_invo (k := 3) (q := 253) (by decide +kernel) rfl rfl rfl
theorem e7_7 : zE X 7 7 [l0] [.int 24, .ref a1] (N, 0, 0) h Q = zE X 7 9 [l0] [.ref N, .ref a1] (N + 1, 1, 24) (va_up h N (.inl (.int, 24, fun _ => 0))) Q := zE_newa (t := .int) (m := 24) (by decide +kernel) rfl rfl (by decide) (by decide) (by decide)
theorem e7_15 : zE X 7 15 [l0] [.int 24, .ref a1] (N, 1, 24) h Q = zE X 7 17 [l0] [.ref N, .ref a1] (N + 1, 2, 48) (va_up h N (.inl (.int, 24, fun _ => 0))) Q := zE_newa (t := .int) (m := 24) (by decide +kernel) rfl rfl (by decide) (by decide) (by decide)
theorem e7_23 : zE X 7 23 [l0] [.int 24, .ref a1] (N, 2, 48) h Q = zE X 7 25 [l0] [.ref N, .ref a1] (N + 1, 3, 72) (va_up h N (.inl (.int, 24, fun _ => 0))) Q := zE_newa (t := .int) (m := 24) (by decide +kernel) rfl rfl (by decide) (by decide) (by decide)
-- 8 Split_init
theorem e8_0 : zE X 8 0 [some (.ref r)] [] (N, 0, 0) h Q = zE X 8 1 [some (.ref r)] [.ref r] (N, 0, 0) h Q := zE_aload_n (k := 0) (by decide +kernel) rfl
theorem e8_4 : zE X 8 4 [some (.ref r)] [] (N, 0, 0) h Q = zE X 8 5 [some (.ref r)] [.ref r] (N, 0, 0) h Q := zE_aload_n (k := 0) (by decide +kernel) rfl
theorem e8_5 : zE X 8 5 [l0] [.ref a0] (N, 0, 0) h Q = zE X 8 7 [l0] [.int 24, .ref a0] (N, 0, 0) h Q := zE_bipush (n := 24) (by decide +kernel) (by decide)
theorem e8_9 : zE X 8 9 [l0] [.ref a0, .ref a1] (N, 1, 24) h Q = zpf (h a1) 6 5 (.ref a0) (fun c => zE X 8 12 [l0] [] (N, 1, 24) (va_up h a1 c) Q) := zE_putfield (k := 9) (nest := false) (q := 285) (by decide +kernel) rfl rfl rfl
theorem e8_12 : zE X 8 12 [some (.ref r)] [] (N, 1, 24) h Q = zE X 8 13 [some (.ref r)] [.ref r] (N, 1, 24) h Q := zE_aload_n (k := 0) (by decide +kernel) rfl
theorem e8_13 : zE X 8 13 [l0] [.ref a0] (N, 1, 24) h Q = zE X 8 15 [l0] [.int 24, .ref a0] (N, 1, 24) h Q := zE_bipush (n := 24) (by decide +kernel) (by decide)
theorem e8_17 : zE X 8 17 [l0] [.ref a0, .ref a1] (N, 2, 48) h Q = zpf (h a1) 6 6 (.ref a0) (fun c => zE X 8 20 [l0] [] (N, 2, 48) (va_up h a1 c) Q) := zE_putfield (k := 15) (nest := false) (q := 286) (by decide +kernel) rfl rfl rfl
theorem e8_20 : zE X 8 20 [l0] [] (N, 2, 48) h Q = Q none N h := zE_return (by decide +kernel) rfl
theorem e8_1 : zE X 8 1 [l0] [.ref a0] (N, 0, 0) h Q = zE X 8 4 [l0] [] (N, 0, 0) h Q := zE_invo (k := 3) (q := 275) (by decide +kernel) rfl rfl rfl
theorem e8_7 : zE X 8 7 [l0] [.int 24, .ref a1] (N, 0, 0) h Q = zE X 8 9 [l0] [.ref N, .ref a1] (N + 1, 1, 24) (va_up h N (.inl (.int, 24, fun _ => 0))) Q := zE_newa (t := .int) (m := 24) (by decide +kernel) rfl rfl (by decide) (by decide) (by decide)
theorem e8_15 : zE X 8 15 [l0] [.int 24, .ref a1] (N, 1, 24) h Q = zE X 8 17 [l0] [.ref N, .ref a1] (N + 1, 2, 48) (va_up h N (.inl (.int, 24, fun _ => 0))) Q := zE_newa (t := .int) (m := 24) (by decide +kernel) rfl rfl (by decide) (by decide) (by decide)
-- 9 Stretch_init
theorem e9_0 : zE X 9 0 [some (.ref r)] [] (N, 0, 0) h Q = zE X 9 1 [some (.ref r)] [.ref r] (N, 0, 0) h Q := zE_aload_n (k := 0) (by decide +kernel) rfl
theorem e9_4 : zE X 9 4 [l0] [] (N, 0, 0) h Q = Q none N h := zE_return (by decide +kernel) rfl
theorem e9_1 : zE X 9 1 [l0] [.ref a0] (N, 0, 0) h Q = zE X 9 4 [l0] [] (N, 0, 0) h Q := zE_invo (k := 1) (q := 307) (by decide +kernel) rfl rfl rfl
-- 10 Ratio_init
theorem e10_0 : zE X 10 0 [some (.ref r)] [] (N, 0, 0) h Q = zE X 10 1 [some (.ref r)] [.ref r] (N, 0, 0) h Q := zE_aload_n (k := 0) (by decide +kernel) rfl
theorem e10_4 : zE X 10 4 [l0] [] (N, 0, 0) h Q = Q none N h := zE_return (by decide +kernel) rfl
theorem e10_1 : zE X 10 1 [l0] [.ref a0] (N, 0, 0) h Q = zE X 10 4 [l0] [] (N, 0, 0) h Q := zE_invo (k := 1) (q := 322) (by decide +kernel) rfl rfl rfl
-- 11 Border_init
theorem e11_0 : zE X 11 0 [some (.ref r)] [] (N, 0, 0) h Q = zE X 11 1 [some (.ref r)] [.ref r] (N, 0, 0) h Q := zE_aload_n (k := 0) (by decide +kernel) rfl
theorem e11_4 : zE X 11 4 [some (.ref r)] [] (N, 0, 0) h Q = zE X 11 5 [some (.ref r)] [.ref r] (N, 0, 0) h Q := zE_aload_n (k := 0) (by decide +kernel) rfl
theorem e11_5 : zE X 11 5 [l0] [.ref a0] (N, 0, 0) h Q = zE X 11 7 [l0] [.int 25, .ref a0] (N, 0, 0) h Q := zE_bipush (n := 25) (by decide +kernel) (by decide)
theorem e11_9 : zE X 11 9 [l0] [.ref a0, .ref a1] (N, 1, 25) h Q = zpf (h a1) 0 5 (.ref a0) (fun c => zE X 11 12 [l0] [] (N, 1, 25) (va_up h a1 c) Q) := zE_putfield (k := 9) (nest := false) (q := 347) (by decide +kernel) rfl rfl rfl
theorem e11_12 : zE X 11 12 [l0] [] (N, 1, 25) h Q = Q none N h := zE_return (by decide +kernel) rfl
theorem e11_1 : zE X 11 1 [l0] [.ref a0] (N, 0, 0) h Q = zE X 11 4 [l0] [] (N, 0, 0) h Q := zE_invo (k := 3) (q := 337) (by decide +kernel) rfl rfl rfl
theorem e11_7 : zE X 11 7 [l0] [.int 25, .ref a1] (N, 0, 0) h Q = zE X 11 9 [l0] [.ref N, .ref a1] (N + 1, 1, 25) (va_up h N (.inl (.int, 25, fun _ => 0))) Q := zE_newa (t := .int) (m := 25) (by decide +kernel) rfl rfl (by decide) (by decide) (by decide)
-- 1 P_init
theorem e1_0 : zE X 1 0 [some (.ref r)] [] (N, 0, 0) h Q = zE X 1 1 [some (.ref r)] [.ref r] (N, 0, 0) h Q := zE_aload_n (k := 0) (by decide +kernel) rfl
theorem e1_4 : zE X 1 4 [some (.ref r)] [] (N, 0, 0) h Q = zE X 1 5 [some (.ref r)] [.ref r] (N, 0, 0) h Q := zE_aload_n (k := 0) (by decide +kernel) rfl
theorem e1_8 : zE X 1 8 [l0] [.ref a0, .ref a1] (N, 1, 2) h Q = zE X 1 9 [l0] [.ref a0, .ref a0, .ref a1] (N, 1, 2) h Q := zE_dup (by decide +kernel) rfl
theorem e1_12 : zE X 1 12 [l0] [.ref a0, .ref a1] (N, 2, 402) h Q = zpf (h a1) 9 0 (.ref a0) (fun c => zE X 1 15 [l0] [] (N, 2, 402) (va_up h a1 c) Q) := zE_putfield (k := 10) (nest := false) (q := 361) (by decide +kernel) rfl rfl rfl
theorem e1_15 : zE X 1 15 [some (.ref r)] [] (N, 2, 402) h Q = zE X 1 16 [some (.ref r)] [.ref r] (N, 2, 402) h Q := zE_aload_n (k := 0) (by decide +kernel) rfl
theorem e1_19 : zE X 1 19 [l0] [.ref a0, .ref a1] (N, 3, 407) h Q = zE X 1 20 [l0] [.ref a0, .ref a0, .ref a1] (N, 3, 407) h Q := zE_dup (by decide +kernel) rfl
theorem e1_23 : zE X 1 23 [l0] [.ref a0, .ref a1] (N, 3, 407) h Q = zpf (h a1) 9 1 (.ref a0) (fun c => zE X 1 26 [l0] [] (N, 3, 407) (va_up h a1 c) Q) := zE_putfield (k := 19) (nest := false) (q := 362) (by decide +kernel) rfl rfl rfl
theorem e1_26 : zE X 1 26 [some (.ref r)] [] (N, 3, 407) h Q = zE X 1 27 [some (.ref r)] [.ref r] (N, 3, 407) h Q := zE_aload_n (k := 0) (by decide +kernel) rfl
theorem e1_30 : zE X 1 30 [l0] [.ref a0, .ref a1] (N, 4, 423) h Q = zE X 1 31 [l0] [.ref a0, .ref a0, .ref a1] (N, 4, 423) h Q := zE_dup (by decide +kernel) rfl
theorem e1_34 : zE X 1 34 [l0] [.ref a0, .ref a1] (N, 11, 521) h Q = zpf (h a1) 9 2 (.ref a0) (fun c => zE X 1 37 [l0] [] (N, 11, 521) (va_up h a1 c) Q) := zE_putfield (k := 26) (nest := false) (q := 363) (by decide +kernel) rfl rfl rfl
theorem e1_37 : zE X 1 37 [some (.ref r)] [] (N, 11, 521) h Q = zE X 1 38 [some (.ref r)] [.ref r] (N, 11, 521) h Q := zE_aload_n (k := 0) (by decide +kernel) rfl
theorem e1_41 : zE X 1 41 [l0] [.ref a0, .ref a1] (N, 12, 537) h Q = zE X 1 42 [l0] [.ref a0, .ref a0, .ref a1] (N, 12, 537) h Q := zE_dup (by decide +kernel) rfl
theorem e1_45 : zE X 1 45 [l0] [.ref a0, .ref a1] (N, 19, 635) h Q = zpf (h a1) 9 3 (.ref a0) (fun c => zE X 1 48 [l0] [] (N, 19, 635) (va_up h a1 c) Q) := zE_putfield (k := 30) (nest := false) (q := 364) (by decide +kernel) rfl rfl rfl
theorem e1_48 : zE X 1 48 [some (.ref r)] [] (N, 19, 635) h Q = zE X 1 49 [some (.ref r)] [.ref r] (N, 19, 635) h Q := zE_aload_n (k := 0) (by decide +kernel) rfl
theorem e1_49 : zE X 1 49 [l0] [.ref a0] (N, 19, 635) h Q = zE X 1 51 [l0] [.int 24, .ref a0] (N, 19, 635) h Q := zE_bipush (n := 24) (by decide +kernel) (by decide)
theorem e1_53 : zE X 1 53 [l0] [.ref a0, .ref a1] (N, 20, 659) h Q = zpf (h a1) 9 4 (.ref a0) (fun c => zE X 1 56 [l0] [] (N, 20, 659) (va_up h a1 c) Q) := zE_putfield (k := 33) (nest := false) (q := 365) (by decide +kernel) rfl rfl rfl
theorem e1_56 : zE X 1 56 [some (.ref r)] [] (N, 20, 659) h Q = zE X 1 57 [some (.ref r)] [.ref r] (N, 20, 659) h Q := zE_aload_n (k := 0) (by decide +kernel) rfl
theorem e1_60 : zE X 1 60 [l0] [.ref a0, .ref a1] (N, 21, 664) h Q = zE X 1 61 [l0] [.ref a0, .ref a0, .ref a1] (N, 21, 664) h Q := zE_dup (by decide +kernel) rfl
theorem e1_64 : zE X 1 64 [l0] [.ref a0, .ref a1] (N, 24, 688) h Q = zpf (h a1) 9 5 (.ref a0) (fun c => zE X 1 67 [l0] [] (N, 24, 688) (va_up h a1 c) Q) := zE_putfield (k := 40) (nest := false) (q := 366) (by decide +kernel) rfl rfl rfl
theorem e1_67 : zE X 1 67 [some (.ref r)] [] (N, 24, 688) h Q = zE X 1 68 [some (.ref r)] [.ref r] (N, 24, 688) h Q := zE_aload_n (k := 0) (by decide +kernel) rfl
theorem e1_71 : zE X 1 71 [l0] [.ref a0, .ref a1] (N, 25, 693) h Q = zE X 1 72 [l0] [.ref a0, .ref a0, .ref a1] (N, 25, 693) h Q := zE_dup (by decide +kernel) rfl
theorem e1_75 : zE X 1 75 [l0] [.ref a0, .ref a1] (N, 28, 717) h Q = zpf (h a1) 9 6 (.ref a0) (fun c => zE X 1 78 [l0] [] (N, 28, 717) (va_up h a1 c) Q) := zE_putfield (k := 44) (nest := false) (q := 367) (by decide +kernel) rfl rfl rfl
theorem e1_78 : zE X 1 78 [some (.ref r)] [] (N, 28, 717) h Q = zE X 1 79 [some (.ref r)] [.ref r] (N, 28, 717) h Q := zE_aload_n (k := 0) (by decide +kernel) rfl
theorem e1_82 : zE X 1 82 [l0] [.ref a0, .ref a1] (N, 29, 722) h Q = zE X 1 83 [l0] [.ref a0, .ref a0, .ref a1] (N, 29, 722) h Q := zE_dup (by decide +kernel) rfl
theorem e1_86 : zE X 1 86 [l0] [.ref a0, .ref a1] (N, 32, 746) h Q = zpf (h a1) 9 7 (.ref a0) (fun c => zE X 1 89 [l0] [] (N, 32, 746) (va_up h a1 c) Q) := zE_putfield (k := 47) (nest := false) (q := 368) (by decide +kernel) rfl rfl rfl
theorem e1_89 : zE X 1 89 [some (.ref r)] [] (N, 32, 746) h Q = zE X 1 90 [some (.ref r)] [.ref r] (N, 32, 746) h Q := zE_aload_n (k := 0) (by decide +kernel) rfl
theorem e1_93 : zE X 1 93 [l0] [.ref a0, .ref a1] (N, 33, 751) h Q = zE X 1 94 [l0] [.ref a0, .ref a0, .ref a1] (N, 33, 751) h Q := zE_dup (by decide +kernel) rfl
theorem e1_97 : zE X 1 97 [l0] [.ref a0, .ref a1] (N, 36, 775) h Q = zpf (h a1) 9 8 (.ref a0) (fun c => zE X 1 100 [l0] [] (N, 36, 775) (va_up h a1 c) Q) := zE_putfield (k := 50) (nest := false) (q := 369) (by decide +kernel) rfl rfl rfl
theorem e1_100 : zE X 1 100 [some (.ref r)] [] (N, 36, 775) h Q = zE X 1 101 [some (.ref r)] [.ref r] (N, 36, 775) h Q := zE_aload_n (k := 0) (by decide +kernel) rfl
theorem e1_101 : zE X 1 101 [l0] [.ref a0] (N, 36, 775) h Q = zE X 1 102 [l0] [.int 0, .ref a0] (N, 36, 775) h Q := zE_iconst (n := 0) (by decide +kernel) (by decide)
theorem e1_102 : zE X 1 102 [l0] [.int i0, .ref a1] (N, 36, 775) h Q = zpf (h a1) 9 9 (.int i0) (fun c => zE X 1 105 [l0] [] (N, 36, 775) (va_up h a1 c) Q) := zE_putfield (k := 53) (nest := false) (q := 370) (by decide +kernel) rfl rfl rfl
theorem e1_105 : zE X 1 105 [some (.ref r)] [] (N, 36, 775) h Q = zE X 1 106 [some (.ref r)] [.ref r] (N, 36, 775) h Q := zE_aload_n (k := 0) (by decide +kernel) rfl
theorem e1_109 : zE X 1 109 [l0] [.ref a0, .ref a1] (N, 37, 779) h Q = zE X 1 110 [l0] [.ref a0, .ref a0, .ref a1] (N, 37, 779) h Q := zE_dup (by decide +kernel) rfl
theorem e1_113 : zE X 1 113 [l0] [.ref a0, .ref a1] (N, 40, 851) h Q = zpf (h a1) 9 10 (.ref a0) (fun c => zE X 1 116 [l0] [] (N, 40, 851) (va_up h a1 c) Q) := zE_putfield (k := 60) (nest := false) (q := 371) (by decide +kernel) rfl rfl rfl
theorem e1_116 : zE X 1 116 [some (.ref r)] [] (N, 40, 851) h Q = zE X 1 117 [some (.ref r)] [.ref r] (N, 40, 851) h Q := zE_aload_n (k := 0) (by decide +kernel) rfl
theorem e1_120 : zE X 1 120 [l0] [.ref a0, .ref a1] (N, 41, 855) h Q = zE X 1 121 [l0] [.ref a0, .ref a0, .ref a1] (N, 41, 855) h Q := zE_dup (by decide +kernel) rfl
theorem e1_124 : zE X 1 124 [l0] [.ref a0, .ref a1] (N, 44, 927) h Q = zpf (h a1) 9 11 (.ref a0) (fun c => zE X 1 127 [l0] [] (N, 44, 927) (va_up h a1 c) Q) := zE_putfield (k := 64) (nest := false) (q := 372) (by decide +kernel) rfl rfl rfl
theorem e1_127 : zE X 1 127 [some (.ref r)] [] (N, 44, 927) h Q = zE X 1 128 [some (.ref r)] [.ref r] (N, 44, 927) h Q := zE_aload_n (k := 0) (by decide +kernel) rfl
theorem e1_131 : zE X 1 131 [l0] [.ref a0, .ref a1] (N, 45, 934) h Q = zE X 1 132 [l0] [.ref a0, .ref a0, .ref a1] (N, 45, 934) h Q := zE_dup (by decide +kernel) rfl
theorem e1_135 : zE X 1 135 [l0] [.ref a0, .ref a1] (N, 47, 982) h Q = zpf (h a1) 9 12 (.ref a0) (fun c => zE X 1 138 [l0] [] (N, 47, 982) (va_up h a1 c) Q) := zE_putfield (k := 70) (nest := false) (q := 373) (by decide +kernel) rfl rfl rfl
theorem e1_138 : zE X 1 138 [some (.ref r)] [] (N, 47, 982) h Q = zE X 1 139 [some (.ref r)] [.ref r] (N, 47, 982) h Q := zE_aload_n (k := 0) (by decide +kernel) rfl
theorem e1_142 : zE X 1 142 [l0] [.ref a0, .ref a1] (N, 48, 984) h Q = zE X 1 143 [l0] [.ref a0, .ref a0, .ref a1] (N, 48, 984) h Q := zE_dup (by decide +kernel) rfl
theorem e1_146 : zE X 1 146 [l0] [.ref a0, .ref a1] (N, 48, 984) h Q = zpf (h a1) 9 13 (.ref a0) (fun c => zE X 1 149 [l0] [] (N, 48, 984) (va_up h a1 c) Q) := zE_putfield (k := 77) (nest := false) (q := 374) (by decide +kernel) rfl rfl rfl
theorem e1_149 : zE X 1 149 [some (.ref r)] [] (N, 48, 984) h Q = zE X 1 150 [some (.ref r)] [.ref r] (N, 48, 984) h Q := zE_aload_n (k := 0) (by decide +kernel) rfl
theorem e1_153 : zE X 1 153 [l0] [.ref a0, .ref a1] (N, 49, 986) h Q = zE X 1 154 [l0] [.ref a0, .ref a0, .ref a1] (N, 49, 986) h Q := zE_dup (by decide +kernel) rfl
theorem e1_157 : zE X 1 157 [l0] [.ref a0, .ref a1] (N, 49, 986) h Q = zpf (h a1) 9 14 (.ref a0) (fun c => zE X 1 160 [l0] [] (N, 49, 986) (va_up h a1 c) Q) := zE_putfield (k := 84) (nest := false) (q := 375) (by decide +kernel) rfl rfl rfl
theorem e1_160 : zE X 1 160 [some (.ref r)] [] (N, 49, 986) h Q = zE X 1 161 [some (.ref r)] [.ref r] (N, 49, 986) h Q := zE_aload_n (k := 0) (by decide +kernel) rfl
theorem e1_164 : zE X 1 164 [l0] [.ref a0, .ref a1] (N, 50, 992) h Q = zE X 1 165 [l0] [.ref a0, .ref a0, .ref a1] (N, 50, 992) h Q := zE_dup (by decide +kernel) rfl
theorem e1_168 : zE X 1 168 [l0] [.ref a0, .ref a1] (N, 51, 1017) h Q = zpf (h a1) 9 15 (.ref a0) (fun c => zE X 1 171 [l0] [] (N, 51, 1017) (va_up h a1 c) Q) := zE_putfield (k := 91) (nest := false) (q := 376) (by decide +kernel) rfl rfl rfl
theorem e1_171 : zE X 1 171 [some (.ref r)] [] (N, 51, 1017) h Q = zE X 1 172 [some (.ref r)] [.ref r] (N, 51, 1017) h Q := zE_aload_n (k := 0) (by decide +kernel) rfl
theorem e1_172 : zE X 1 172 [l0] [.ref a0] (N, 51, 1017) h Q = zE X 1 174 [l0] [.int 30, .ref a0] (N, 51, 1017) h Q := zE_bipush (n := 30) (by decide +kernel) (by decide)
theorem e1_176 : zE X 1 176 [l0] [.ref a0, .ref a1] (N, 52, 1047) h Q = zpf (h a1) 9 16 (.ref a0) (fun c => zE X 1 179 [l0] [] (N, 52, 1047) (va_up h a1 c) Q) := zE_putfield (k := 95) (nest := false) (q := 377) (by decide +kernel) rfl rfl rfl
theorem e1_179 : zE X 1 179 [l0] [] (N, 52, 1047) h Q = Q none N h := zE_return (by decide +kernel) rfl
theorem e1_1 : zE X 1 1 [l0] [.ref a0] (N, 0, 0) h Q = zE X 1 4 [l0] [] (N, 0, 0) h Q := zE_invo (k := 1) (q := 102) (by decide +kernel) rfl rfl rfl
theorem e1_5 : zE X 1 5 [l0] [.ref a0] (N, 0, 0) h Q = zE X 1 8 [l0] [.ref N, .ref a0] (N + 1, 1, 2) (va_up h N (.inr (4, zdf 4))) Q := zE_new (k := 7) (q := 105) (by decide +kernel) rfl (by decide) (by decide) rfl
theorem e1_9 : zE X 1 9 [l0] [.ref a0, .ref a1, .ref a2] (N, 1, 2) h Q = zE X 3 0 [some (.ref a0)] [] (N, 0, 0) h (fun v N' h' => zE X 1 12 [l0] (v.toList ++ [.ref a1, .ref a2]) (N', 2, 402) h' Q) := zE_invn (k := 9) (z := 3) (nest := true) (q := 107) (by decide +kernel) rfl rfl rfl rfl (by decide) rfl rfl rfl
theorem e1_16 : zE X 1 16 [l0] [.ref a0] (N, 2, 402) h Q = zE X 1 19 [l0] [.ref N, .ref a0] (N + 1, 3, 407) (va_up h N (.inr (1, zdf 1))) Q := zE_new (k := 16) (q := 121) (by decide +kernel) rfl (by decide) (by decide) rfl
theorem e1_20 : zE X 1 20 [l0] [.ref a0, .ref a1, .ref a2] (N, 3, 407) h Q = zE X 4 0 [some (.ref a0)] [] (N, 0, 0) h (fun v N' h' => zE X 1 23 [l0] (v.toList ++ [.ref a1, .ref a2]) (N', 3, 407) h' Q) := zE_invn (k := 18) (z := 4) (nest := true) (q := 123) (by decide +kernel) rfl rfl rfl rfl (by decide) rfl rfl rfl
theorem e1_27 : zE X 1 27 [l0] [.ref a0] (N, 3, 407) h Q = zE X 1 30 [l0] [.ref N, .ref a0] (N + 1, 4, 423) (va_up h N (.inr (5, zdf 5))) Q := zE_new (k := 23) (q := 148) (by decide +kernel) rfl (by decide) (by decide) rfl
theorem e1_31 : zE X 1 31 [l0] [.ref a0, .ref a1, .ref a2] (N, 4, 423) h Q = zE X 5 0 [some (.ref a0)] [] (N, 0, 0) h (fun v N' h' => zE X 1 34 [l0] (v.toList ++ [.ref a1, .ref a2]) (N', 11, 521) h' Q) := zE_invn (k := 25) (z := 5) (nest := true) (q := 150) (by decide +kernel) rfl rfl rfl rfl (by decide) rfl rfl rfl
theorem e1_38 : zE X 1 38 [l0] [.ref a0] (N, 11, 521) h Q = zE X 1 41 [l0] [.ref N, .ref a0] (N + 1, 12, 537) (va_up h N (.inr (5, zdf 5))) Q := zE_new (k := 23) (q := 148) (by decide +kernel) rfl (by decide) (by decide) rfl
theorem e1_42 : zE X 1 42 [l0] [.ref a0, .ref a1, .ref a2] (N, 12, 537) h Q = zE X 5 0 [some (.ref a0)] [] (N, 0, 0) h (fun v N' h' => zE X 1 45 [l0] (v.toList ++ [.ref a1, .ref a2]) (N', 19, 635) h' Q) := zE_invn (k := 25) (z := 5) (nest := true) (q := 150) (by decide +kernel) rfl rfl rfl rfl (by decide) rfl rfl rfl
theorem e1_51 : zE X 1 51 [l0] [.int 24, .ref a1] (N, 19, 635) h Q = zE X 1 53 [l0] [.ref N, .ref a1] (N + 1, 20, 659) (va_up h N (.inl (.int, 24, fun _ => 0))) Q := zE_newa (t := .int) (m := 24) (by decide +kernel) rfl rfl (by decide) (by decide) (by decide)
theorem e1_57 : zE X 1 57 [l0] [.ref a0] (N, 20, 659) h Q = zE X 1 60 [l0] [.ref N, .ref a0] (N + 1, 21, 664) (va_up h N (.inr (8, zdf 8))) Q := zE_new (k := 37) (q := 220) (by decide +kernel) rfl (by decide) (by decide) rfl
theorem e1_61 : zE X 1 61 [l0] [.ref a0, .ref a1, .ref a2] (N, 21, 664) h Q = zE X 6 0 [some (.ref a0)] [] (N, 0, 0) h (fun v N' h' => zE X 1 64 [l0] (v.toList ++ [.ref a1, .ref a2]) (N', 24, 688) h' Q) := zE_invn (k := 39) (z := 6) (nest := true) (q := 222) (by decide +kernel) rfl rfl rfl rfl (by decide) rfl rfl rfl
theorem e1_68 : zE X 1 68 [l0] [.ref a0] (N, 24, 688) h Q = zE X 1 71 [l0] [.ref N, .ref a0] (N + 1, 25, 693) (va_up h N (.inr (8, zdf 8))) Q := zE_new (k := 37) (q := 220) (by decide +kernel) rfl (by decide) (by decide) rfl
theorem e1_72 : zE X 1 72 [l0] [.ref a0, .ref a1, .ref a2] (N, 25, 693) h Q = zE X 6 0 [some (.ref a0)] [] (N, 0, 0) h (fun v N' h' => zE X 1 75 [l0] (v.toList ++ [.ref a1, .ref a2]) (N', 28, 717) h' Q) := zE_invn (k := 39) (z := 6) (nest := true) (q := 222) (by decide +kernel) rfl rfl rfl rfl (by decide) rfl rfl rfl
theorem e1_79 : zE X 1 79 [l0] [.ref a0] (N, 28, 717) h Q = zE X 1 82 [l0] [.ref N, .ref a0] (N + 1, 29, 722) (va_up h N (.inr (8, zdf 8))) Q := zE_new (k := 37) (q := 220) (by decide +kernel) rfl (by decide) (by decide) rfl
theorem e1_83 : zE X 1 83 [l0] [.ref a0, .ref a1, .ref a2] (N, 29, 722) h Q = zE X 6 0 [some (.ref a0)] [] (N, 0, 0) h (fun v N' h' => zE X 1 86 [l0] (v.toList ++ [.ref a1, .ref a2]) (N', 32, 746) h' Q) := zE_invn (k := 39) (z := 6) (nest := true) (q := 222) (by decide +kernel) rfl rfl rfl rfl (by decide) rfl rfl rfl
theorem e1_90 : zE X 1 90 [l0] [.ref a0] (N, 32, 746) h Q = zE X 1 93 [l0] [.ref N, .ref a0] (N + 1, 33, 751) (va_up h N (.inr (8, zdf 8))) Q := zE_new (k := 37) (q := 220) (by decide +kernel) rfl (by decide) (by decide) rfl
theorem e1_94 : zE X 1 94 [l0] [.ref a0, .ref a1, .ref a2] (N, 33, 751) h Q = zE X 6 0 [some (.ref a0)] [] (N, 0, 0) h (fun v N' h' => zE X 1 97 [l0] (v.toList ++ [.ref a1, .ref a2]) (N', 36, 775) h' Q) := zE_invn (k := 39) (z := 6) (nest := true) (q := 222) (by decide +kernel) rfl rfl rfl rfl (by decide) rfl rfl rfl
theorem e1_106 : zE X 1 106 [l0] [.ref a0] (N, 36, 775) h Q = zE X 1 109 [l0] [.ref N, .ref a0] (N + 1, 37, 779) (va_up h N (.inr (2, zdf 2))) Q := zE_new (k := 57) (q := 248) (by decide +kernel) rfl (by decide) (by decide) rfl
theorem e1_110 : zE X 1 110 [l0] [.ref a0, .ref a1, .ref a2] (N, 37, 779) h Q = zE X 7 0 [some (.ref a0)] [] (N, 0, 0) h (fun v N' h' => zE X 1 113 [l0] (v.toList ++ [.ref a1, .ref a2]) (N', 40, 851) h' Q) := zE_invn (k := 59) (z := 7) (nest := true) (q := 250) (by decide +kernel) rfl rfl rfl rfl (by decide) rfl rfl rfl
theorem e1_117 : zE X 1 117 [l0] [.ref a0] (N, 40, 851) h Q = zE X 1 120 [l0] [.ref N, .ref a0] (N + 1, 41, 855) (va_up h N (.inr (2, zdf 2))) Q := zE_new (k := 57) (q := 248) (by decide +kernel) rfl (by decide) (by decide) rfl
theorem e1_121 : zE X 1 121 [l0] [.ref a0, .ref a1, .ref a2] (N, 41, 855) h Q = zE X 7 0 [some (.ref a0)] [] (N, 0, 0) h (fun v N' h' => zE X 1 124 [l0] (v.toList ++ [.ref a1, .ref a2]) (N', 44, 927) h' Q) := zE_invn (k := 59) (z := 7) (nest := true) (q := 250) (by decide +kernel) rfl rfl rfl rfl (by decide) rfl rfl rfl
theorem e1_128 : zE X 1 128 [l0] [.ref a0] (N, 44, 927) h Q = zE X 1 131 [l0] [.ref N, .ref a0] (N + 1, 45, 934) (va_up h N (.inr (6, zdf 6))) Q := zE_new (k := 67) (q := 270) (by decide +kernel) rfl (by decide) (by decide) rfl
theorem e1_132 : zE X 1 132 [l0] [.ref a0, .ref a1, .ref a2] (N, 45, 934) h Q = zE X 8 0 [some (.ref a0)] [] (N, 0, 0) h (fun v N' h' => zE X 1 135 [l0] (v.toList ++ [.ref a1, .ref a2]) (N', 47, 982) h' Q) := zE_invn (k := 69) (z := 8) (nest := true) (q := 272) (by decide +kernel) rfl rfl rfl rfl (by decide) rfl rfl rfl
theorem e1_139 : zE X 1 139 [l0] [.ref a0] (N, 47, 982) h Q = zE X 1 142 [l0] [.ref N, .ref a0] (N + 1, 48, 984) (va_up h N (.inr (7, zdf 7))) Q := zE_new (k := 74) (q := 302) (by decide +kernel) rfl (by decide) (by decide) rfl
theorem e1_143 : zE X 1 143 [l0] [.ref a0, .ref a1, .ref a2] (N, 48, 984) h Q = zE X 9 0 [some (.ref a0)] [] (N, 0, 0) h (fun v N' h' => zE X 1 146 [l0] (v.toList ++ [.ref a1, .ref a2]) (N', 48, 984) h' Q) := zE_invn (k := 76) (z := 9) (nest := true) (q := 304) (by decide +kernel) rfl rfl rfl rfl (by decide) rfl rfl rfl
theorem e1_150 : zE X 1 150 [l0] [.ref a0] (N, 48, 984) h Q = zE X 1 153 [l0] [.ref N, .ref a0] (N + 1, 49, 986) (va_up h N (.inr (3, zdf 3))) Q := zE_new (k := 81) (q := 317) (by decide +kernel) rfl (by decide) (by decide) rfl
theorem e1_154 : zE X 1 154 [l0] [.ref a0, .ref a1, .ref a2] (N, 49, 986) h Q = zE X 10 0 [some (.ref a0)] [] (N, 0, 0) h (fun v N' h' => zE X 1 157 [l0] (v.toList ++ [.ref a1, .ref a2]) (N', 49, 986) h' Q) := zE_invn (k := 83) (z := 10) (nest := true) (q := 319) (by decide +kernel) rfl rfl rfl rfl (by decide) rfl rfl rfl
theorem e1_161 : zE X 1 161 [l0] [.ref a0] (N, 49, 986) h Q = zE X 1 164 [l0] [.ref N, .ref a0] (N + 1, 50, 992) (va_up h N (.inr (0, zdf 0))) Q := zE_new (k := 88) (q := 332) (by decide +kernel) rfl (by decide) (by decide) rfl
theorem e1_165 : zE X 1 165 [l0] [.ref a0, .ref a1, .ref a2] (N, 50, 992) h Q = zE X 11 0 [some (.ref a0)] [] (N, 0, 0) h (fun v N' h' => zE X 1 168 [l0] (v.toList ++ [.ref a1, .ref a2]) (N', 51, 1017) h' Q) := zE_invn (k := 90) (z := 11) (nest := true) (q := 334) (by decide +kernel) rfl rfl rfl rfl (by decide) rfl rfl rfl
theorem e1_174 : zE X 1 174 [l0] [.int 30, .ref a1] (N, 51, 1017) h Q = zE X 1 176 [l0] [.ref N, .ref a1] (N + 1, 52, 1047) (va_up h N (.inl (.int, 30, fun _ => 0))) Q := zE_newa (t := .int) (m := 30) (by decide +kernel) rfl rfl (by decide) (by decide) (by decide)
-- 106 M_init
theorem e106_0 : zE X 106 0 [some (.ref r)] [] (N, 0, 0) h Q = zE X 106 1 [some (.ref r)] [.ref r] (N, 0, 0) h Q := zE_aload_n (k := 0) (by decide +kernel) rfl
theorem e106_4 : zE X 106 4 [some (.ref r)] [] (N, 0, 0) h Q = zE X 106 5 [some (.ref r)] [.ref r] (N, 0, 0) h Q := zE_aload_n (k := 0) (by decide +kernel) rfl
theorem e106_5 : zE X 106 5 [l0] [.ref a0] (N, 0, 0) h Q = zE X 106 8 [l0] [.int 400, .ref a0] (N, 0, 0) h Q := zE_sipush (n := 400) (by decide +kernel) (by decide)
theorem e106_10 : zE X 106 10 [l0] [.ref a0, .ref a1] (N, 1, 400) h Q = zpf (h a1) 10 1 (.ref a0) (fun c => zE X 106 13 [l0] [] (N, 1, 400) (va_up h a1 c) Q) := zE_putfield (k := 7) (nest := false) (q := 813) (by decide +kernel) rfl rfl rfl
theorem e106_13 : zE X 106 13 [some (.ref r)] [] (N, 1, 400) h Q = zE X 106 14 [some (.ref r)] [.ref r] (N, 1, 400) h Q := zE_aload_n (k := 0) (by decide +kernel) rfl
theorem e106_14 : zE X 106 14 [l0] [.ref a0] (N, 1, 400) h Q = zE X 106 16 [l0] [.int 72, .ref a0] (N, 1, 400) h Q := zE_bipush (n := 72) (by decide +kernel) (by decide)
theorem e106_18 : zE X 106 18 [l0] [.ref a0, .ref a1] (N, 2, 472) h Q = zpf (h a1) 10 4 (.ref a0) (fun c => zE X 106 21 [l0] [] (N, 2, 472) (va_up h a1 c) Q) := zE_putfield (k := 13) (nest := false) (q := 816) (by decide +kernel) rfl rfl rfl
theorem e106_21 : zE X 106 21 [some (.ref r)] [] (N, 2, 472) h Q = zE X 106 22 [some (.ref r)] [.ref r] (N, 2, 472) h Q := zE_aload_n (k := 0) (by decide +kernel) rfl
theorem e106_22 : zE X 106 22 [l0] [.ref a0] (N, 2, 472) h Q = zE X 106 24 [l0] [.int 18, .ref a0] (N, 2, 472) h Q := zE_bipush (n := 18) (by decide +kernel) (by decide)
theorem e106_26 : zE X 106 26 [l0] [.ref a0, .ref a1] (N, 3, 490) h Q = zpf (h a1) 10 6 (.ref a0) (fun c => zE X 106 29 [l0] [] (N, 3, 490) (va_up h a1 c) Q) := zE_putfield (k := 17) (nest := false) (q := 818) (by decide +kernel) rfl rfl rfl
theorem e106_29 : zE X 106 29 [some (.ref r)] [] (N, 3, 490) h Q = zE X 106 30 [some (.ref r)] [.ref r] (N, 3, 490) h Q := zE_aload_n (k := 0) (by decide +kernel) rfl
theorem e106_30 : zE X 106 30 [l0] [.ref a0] (N, 3, 490) h Q = zE X 106 32 [l0] [.int 7, .ref a0] (N, 3, 490) h Q := zE_bipush (n := 7) (by decide +kernel) (by decide)
theorem e106_34 : zE X 106 34 [l0] [.ref a0, .ref a1] (N, 4, 497) h Q = zpf (h a1) 10 7 (.ref a0) (fun c => zE X 106 37 [l0] [] (N, 4, 497) (va_up h a1 c) Q) := zE_putfield (k := 20) (nest := false) (q := 819) (by decide +kernel) rfl rfl rfl
theorem e106_37 : zE X 106 37 [some (.ref r)] [] (N, 4, 497) h Q = zE X 106 38 [some (.ref r)] [.ref r] (N, 4, 497) h Q := zE_aload_n (k := 0) (by decide +kernel) rfl
theorem e106_38 : zE X 106 38 [l0] [.ref a0] (N, 4, 497) h Q = zE X 106 40 [l0] [.int 8, .ref a0] (N, 4, 497) h Q := zE_bipush (n := 8) (by decide +kernel) (by decide)
theorem e106_42 : zE X 106 42 [l0] [.ref a0, .ref a1] (N, 5, 505) h Q = zpf (h a1) 10 8 (.ref a0) (fun c => zE X 106 45 [l0] [] (N, 5, 505) (va_up h a1 c) Q) := zE_putfield (k := 23) (nest := false) (q := 820) (by decide +kernel) rfl rfl rfl
theorem e106_45 : zE X 106 45 [some (.ref r)] [] (N, 5, 505) h Q = zE X 106 46 [some (.ref r)] [.ref r] (N, 5, 505) h Q := zE_aload_n (k := 0) (by decide +kernel) rfl
theorem e106_46 : zE X 106 46 [l0] [.ref a0] (N, 5, 505) h Q = zE X 106 48 [l0] [.int 72, .ref a0] (N, 5, 505) h Q := zE_bipush (n := 72) (by decide +kernel) (by decide)
theorem e106_50 : zE X 106 50 [l0] [.ref a0, .ref a1] (N, 6, 577) h Q = zpf (h a1) 10 10 (.ref a0) (fun c => zE X 106 53 [l0] [] (N, 6, 577) (va_up h a1 c) Q) := zE_putfield (k := 26) (nest := false) (q := 822) (by decide +kernel) rfl rfl rfl
theorem e106_53 : zE X 106 53 [some (.ref r)] [] (N, 6, 577) h Q = zE X 106 54 [some (.ref r)] [.ref r] (N, 6, 577) h Q := zE_aload_n (k := 0) (by decide +kernel) rfl
theorem e106_54 : zE X 106 54 [l0] [.ref a0] (N, 6, 577) h Q = zE X 106 56 [l0] [.int 18, .ref a0] (N, 6, 577) h Q := zE_bipush (n := 18) (by decide +kernel) (by decide)
theorem e106_58 : zE X 106 58 [l0] [.ref a0, .ref a1] (N, 7, 595) h Q = zpf (h a1) 10 12 (.ref a0) (fun c => zE X 106 61 [l0] [] (N, 7, 595) (va_up h a1 c) Q) := zE_putfield (k := 29) (nest := false) (q := 824) (by decide +kernel) rfl rfl rfl
theorem e106_61 : zE X 106 61 [some (.ref r)] [] (N, 7, 595) h Q = zE X 106 62 [some (.ref r)] [.ref r] (N, 7, 595) h Q := zE_aload_n (k := 0) (by decide +kernel) rfl
theorem e106_62 : zE X 106 62 [l0] [.ref a0] (N, 7, 595) h Q = zE X 106 64 [l0] [.int 7, .ref a0] (N, 7, 595) h Q := zE_bipush (n := 7) (by decide +kernel) (by decide)
theorem e106_66 : zE X 106 66 [l0] [.ref a0, .ref a1] (N, 8, 602) h Q = zE X 106 67 [l0] [.ref a0, .ref a0, .ref a1] (N, 8, 602) h Q := zE_dup (by decide +kernel) rfl
theorem e106_67 : zE X 106 67 [l0] [.ref a0, .ref a1, .ref a2] (N, 8, 602) h Q = zE X 106 68 [l0] [.int 0, .ref a0, .ref a1, .ref a2] (N, 8, 602) h Q := zE_iconst (n := 0) (by decide +kernel) (by decide)
theorem e106_68 : zE X 106 68 [l0] [.int i0, .ref a1, .ref a2, .ref a3] (N, 8, 602) h Q = zE X 106 69 [l0] [.int 0, .int i0, .ref a1, .ref a2, .ref a3] (N, 8, 602) h Q := zE_iconst (n := 0) (by decide +kernel) (by decide)
theorem e106_69 : zE X 106 69 [l0] [.int i0, .int i1, .ref a2, .ref a3, .ref a4] (N, 8, 602) h Q = zas (h a2) 0 i1 i0 (fun c => zE X 106 70 [l0] [.ref a3, .ref a4] (N, 8, 602) (va_up h a2 c) Q) := zE_iastore (by decide +kernel)
theorem e106_70 : zE X 106 70 [l0] [.ref a0, .ref a1] (N, 8, 602) h Q = zE X 106 71 [l0] [.ref a0, .ref a0, .ref a1] (N, 8, 602) h Q := zE_dup (by decide +kernel) rfl
theorem e106_71 : zE X 106 71 [l0] [.ref a0, .ref a1, .ref a2] (N, 8, 602) h Q = zE X 106 72 [l0] [.int 1, .ref a0, .ref a1, .ref a2] (N, 8, 602) h Q := zE_iconst (n := 1) (by decide +kernel) (by decide)
theorem e106_72 : zE X 106 72 [l0] [.int i0, .ref a1, .ref a2, .ref a3] (N, 8, 602) h Q = zE X 106 73 [l0] [.int 0, .int i0, .ref a1, .ref a2, .ref a3] (N, 8, 602) h Q := zE_iconst (n := 0) (by decide +kernel) (by decide)
theorem e106_73 : zE X 106 73 [l0] [.int i0, .int i1, .ref a2, .ref a3, .ref a4] (N, 8, 602) h Q = zas (h a2) 0 i1 i0 (fun c => zE X 106 74 [l0] [.ref a3, .ref a4] (N, 8, 602) (va_up h a2 c) Q) := zE_iastore (by decide +kernel)
theorem e106_74 : zE X 106 74 [l0] [.ref a0, .ref a1] (N, 8, 602) h Q = zE X 106 75 [l0] [.ref a0, .ref a0, .ref a1] (N, 8, 602) h Q := zE_dup (by decide +kernel) rfl
theorem e106_75 : zE X 106 75 [l0] [.ref a0, .ref a1, .ref a2] (N, 8, 602) h Q = zE X 106 76 [l0] [.int 2, .ref a0, .ref a1, .ref a2] (N, 8, 602) h Q := zE_iconst (n := 2) (by decide +kernel) (by decide)
theorem e106_76 : zE X 106 76 [l0] [.int i0, .ref a1, .ref a2, .ref a3] (N, 8, 602) h Q = zE X 106 77 [l0] [.int 0, .int i0, .ref a1, .ref a2, .ref a3] (N, 8, 602) h Q := zE_iconst (n := 0) (by decide +kernel) (by decide)
theorem e106_77 : zE X 106 77 [l0] [.int i0, .int i1, .ref a2, .ref a3, .ref a4] (N, 8, 602) h Q = zas (h a2) 0 i1 i0 (fun c => zE X 106 78 [l0] [.ref a3, .ref a4] (N, 8, 602) (va_up h a2 c) Q) := zE_iastore (by decide +kernel)
theorem e106_78 : zE X 106 78 [l0] [.ref a0, .ref a1] (N, 8, 602) h Q = zE X 106 79 [l0] [.ref a0, .ref a0, .ref a1] (N, 8, 602) h Q := zE_dup (by decide +kernel) rfl
theorem e106_79 : zE X 106 79 [l0] [.ref a0, .ref a1, .ref a2] (N, 8, 602) h Q = zE X 106 80 [l0] [.int 3, .ref a0, .ref a1, .ref a2] (N, 8, 602) h Q := zE_iconst (n := 3) (by decide +kernel) (by decide)
theorem e106_80 : zE X 106 80 [l0] [.int i0, .ref a1, .ref a2, .ref a3] (N, 8, 602) h Q = zE X 106 82 [l0] [.int 100, .int i0, .ref a1, .ref a2, .ref a3] (N, 8, 602) h Q := zE_bipush (n := 100) (by decide +kernel) (by decide)
theorem e106_82 : zE X 106 82 [l0] [.int i0, .int i1, .ref a2, .ref a3, .ref a4] (N, 8, 602) h Q = zas (h a2) 0 i1 i0 (fun c => zE X 106 83 [l0] [.ref a3, .ref a4] (N, 8, 602) (va_up h a2 c) Q) := zE_iastore (by decide +kernel)
theorem e106_83 : zE X 106 83 [l0] [.ref a0, .ref a1] (N, 8, 602) h Q = zE X 106 84 [l0] [.ref a0, .ref a0, .ref a1] (N, 8, 602) h Q := zE_dup (by decide +kernel) rfl
theorem e106_84 : zE X 106 84 [l0] [.ref a0, .ref a1, .ref a2] (N, 8, 602) h Q = zE X 106 85 [l0] [.int 4, .ref a0, .ref a1, .ref a2] (N, 8, 602) h Q := zE_iconst (n := 4) (by decide +kernel) (by decide)
theorem e106_85 : zE X 106 85 [l0] [.int i0, .ref a1, .ref a2, .ref a3] (N, 8, 602) h Q = zE X 106 86 [l0] [.int 0, .int i0, .ref a1, .ref a2, .ref a3] (N, 8, 602) h Q := zE_iconst (n := 0) (by decide +kernel) (by decide)
theorem e106_86 : zE X 106 86 [l0] [.int i0, .int i1, .ref a2, .ref a3, .ref a4] (N, 8, 602) h Q = zas (h a2) 0 i1 i0 (fun c => zE X 106 87 [l0] [.ref a3, .ref a4] (N, 8, 602) (va_up h a2 c) Q) := zE_iastore (by decide +kernel)
theorem e106_87 : zE X 106 87 [l0] [.ref a0, .ref a1] (N, 8, 602) h Q = zE X 106 88 [l0] [.ref a0, .ref a0, .ref a1] (N, 8, 602) h Q := zE_dup (by decide +kernel) rfl
theorem e106_88 : zE X 106 88 [l0] [.ref a0, .ref a1, .ref a2] (N, 8, 602) h Q = zE X 106 89 [l0] [.int 5, .ref a0, .ref a1, .ref a2] (N, 8, 602) h Q := zE_iconst (n := 5) (by decide +kernel) (by decide)
theorem e106_89 : zE X 106 89 [l0] [.int i0, .ref a1, .ref a2, .ref a3] (N, 8, 602) h Q = zE X 106 90 [l0] [.int 0, .int i0, .ref a1, .ref a2, .ref a3] (N, 8, 602) h Q := zE_iconst (n := 0) (by decide +kernel) (by decide)
theorem e106_90 : zE X 106 90 [l0] [.int i0, .int i1, .ref a2, .ref a3, .ref a4] (N, 8, 602) h Q = zas (h a2) 0 i1 i0 (fun c => zE X 106 91 [l0] [.ref a3, .ref a4] (N, 8, 602) (va_up h a2 c) Q) := zE_iastore (by decide +kernel)
theorem e106_91 : zE X 106 91 [l0] [.ref a0, .ref a1] (N, 8, 602) h Q = zE X 106 92 [l0] [.ref a0, .ref a0, .ref a1] (N, 8, 602) h Q := zE_dup (by decide +kernel) rfl
theorem e106_92 : zE X 106 92 [l0] [.ref a0, .ref a1, .ref a2] (N, 8, 602) h Q = zE X 106 94 [l0] [.int 6, .ref a0, .ref a1, .ref a2] (N, 8, 602) h Q := zE_bipush (n := 6) (by decide +kernel) (by decide)
theorem e106_94 : zE X 106 94 [l0] [.int i0, .ref a1, .ref a2, .ref a3] (N, 8, 602) h Q = zE X 106 95 [l0] [.int 0, .int i0, .ref a1, .ref a2, .ref a3] (N, 8, 602) h Q := zE_iconst (n := 0) (by decide +kernel) (by decide)
theorem e106_95 : zE X 106 95 [l0] [.int i0, .int i1, .ref a2, .ref a3, .ref a4] (N, 8, 602) h Q = zas (h a2) 0 i1 i0 (fun c => zE X 106 96 [l0] [.ref a3, .ref a4] (N, 8, 602) (va_up h a2 c) Q) := zE_iastore (by decide +kernel)
theorem e106_96 : zE X 106 96 [l0] [.ref a0, .ref a1] (N, 8, 602) h Q = zpf (h a1) 10 13 (.ref a0) (fun c => zE X 106 99 [l0] [] (N, 8, 602) (va_up h a1 c) Q) := zE_putfield (k := 32) (nest := false) (q := 825) (by decide +kernel) rfl rfl rfl
theorem e106_99 : zE X 106 99 [some (.ref r)] [] (N, 8, 602) h Q = zE X 106 100 [some (.ref r)] [.ref r] (N, 8, 602) h Q := zE_aload_n (k := 0) (by decide +kernel) rfl
theorem e106_100 : zE X 106 100 [l0] [.ref a0] (N, 8, 602) h Q = zE X 106 102 [l0] [.int 24, .ref a0] (N, 8, 602) h Q := zE_bipush (n := 24) (by decide +kernel) (by decide)
theorem e106_104 : zE X 106 104 [l0] [.ref a0, .ref a1] (N, 9, 626) h Q = zpf (h a1) 10 14 (.ref a0) (fun c => zE X 106 107 [l0] [] (N, 9, 626) (va_up h a1 c) Q) := zE_putfield (k := 35) (nest := false) (q := 826) (by decide +kernel) rfl rfl rfl
theorem e106_107 : zE X 106 107 [some (.ref r)] [] (N, 9, 626) h Q = zE X 106 108 [some (.ref r)] [.ref r] (N, 9, 626) h Q := zE_aload_n (k := 0) (by decide +kernel) rfl
theorem e106_108 : zE X 106 108 [l0] [.ref a0] (N, 9, 626) h Q = zE X 106 110 [l0] [.int 40, .ref a0] (N, 9, 626) h Q := zE_bipush (n := 40) (by decide +kernel) (by decide)
theorem e106_112 : zE X 106 112 [l0] [.ref a0, .ref a1] (N, 10, 666) h Q = zpf (h a1) 10 16 (.ref a0) (fun c => zE X 106 115 [l0] [] (N, 10, 666) (va_up h a1 c) Q) := zE_putfield (k := 38) (nest := false) (q := 828) (by decide +kernel) rfl rfl rfl
theorem e106_115 : zE X 106 115 [some (.ref r)] [] (N, 10, 666) h Q = zE X 106 116 [some (.ref r)] [.ref r] (N, 10, 666) h Q := zE_aload_n (k := 0) (by decide +kernel) rfl
theorem e106_116 : zE X 106 116 [l0] [.ref a0] (N, 10, 666) h Q = zE X 106 118 [l0] [.int 40, .ref a0] (N, 10, 666) h Q := zE_bipush (n := 40) (by decide +kernel) (by decide)
theorem e106_120 : zE X 106 120 [l0] [.ref a0, .ref a1] (N, 11, 706) h Q = zpf (h a1) 10 17 (.ref a0) (fun c => zE X 106 123 [l0] [] (N, 11, 706) (va_up h a1 c) Q) := zE_putfield (k := 41) (nest := false) (q := 829) (by decide +kernel) rfl rfl rfl
theorem e106_123 : zE X 106 123 [some (.ref r)] [] (N, 11, 706) h Q = zE X 106 124 [some (.ref r)] [.ref r] (N, 11, 706) h Q := zE_aload_n (k := 0) (by decide +kernel) rfl
theorem e106_124 : zE X 106 124 [l0] [.ref a0] (N, 11, 706) h Q = zE X 106 126 [l0] [.int 40, .ref a0] (N, 11, 706) h Q := zE_bipush (n := 40) (by decide +kernel) (by decide)
theorem e106_128 : zE X 106 128 [l0] [.ref a0, .ref a1] (N, 12, 746) h Q = zpf (h a1) 10 18 (.ref a0) (fun c => zE X 106 131 [l0] [] (N, 12, 746) (va_up h a1 c) Q) := zE_putfield (k := 44) (nest := false) (q := 830) (by decide +kernel) rfl rfl rfl
theorem e106_131 : zE X 106 131 [some (.ref r)] [] (N, 12, 746) h Q = zE X 106 132 [some (.ref r)] [.ref r] (N, 12, 746) h Q := zE_aload_n (k := 0) (by decide +kernel) rfl
theorem e106_132 : zE X 106 132 [l0] [.ref a0] (N, 12, 746) h Q = zE X 106 133 [l0] [.int 5, .ref a0] (N, 12, 746) h Q := zE_iconst (n := 5) (by decide +kernel) (by decide)
theorem e106_135 : zE X 106 135 [l0] [.ref a0, .ref a1] (N, 13, 751) h Q = zpf (h a1) 10 19 (.ref a0) (fun c => zE X 106 138 [l0] [] (N, 13, 751) (va_up h a1 c) Q) := zE_putfield (k := 48) (nest := false) (q := 831) (by decide +kernel) rfl rfl rfl
theorem e106_138 : zE X 106 138 [some (.ref r)] [] (N, 13, 751) h Q = zE X 106 139 [some (.ref r)] [.ref r] (N, 13, 751) h Q := zE_aload_n (k := 0) (by decide +kernel) rfl
theorem e106_139 : zE X 106 139 [l0] [.ref a0] (N, 13, 751) h Q = zE X 106 140 [l0] [.int 5, .ref a0] (N, 13, 751) h Q := zE_iconst (n := 5) (by decide +kernel) (by decide)
theorem e106_142 : zE X 106 142 [l0] [.ref a0, .ref a1] (N, 14, 756) h Q = zpf (h a1) 10 20 (.ref a0) (fun c => zE X 106 145 [l0] [] (N, 14, 756) (va_up h a1 c) Q) := zE_putfield (k := 51) (nest := false) (q := 832) (by decide +kernel) rfl rfl rfl
theorem e106_145 : zE X 106 145 [some (.ref r)] [] (N, 14, 756) h Q = zE X 106 146 [some (.ref r)] [.ref r] (N, 14, 756) h Q := zE_aload_n (k := 0) (by decide +kernel) rfl
theorem e106_146 : zE X 106 146 [l0] [.ref a0] (N, 14, 756) h Q = zE X 106 147 [l0] [.int 2, .ref a0] (N, 14, 756) h Q := zE_iconst (n := 2) (by decide +kernel) (by decide)
theorem e106_149 : zE X 106 149 [l0] [.ref a0, .ref a1] (N, 15, 758) h Q = zpf (h a1) 10 21 (.ref a0) (fun c => zE X 106 152 [l0] [] (N, 15, 758) (va_up h a1 c) Q) := zE_putfield (k := 54) (nest := false) (q := 833) (by decide +kernel) rfl rfl rfl
theorem e106_152 : zE X 106 152 [some (.ref r)] [] (N, 15, 758) h Q = zE X 106 153 [some (.ref r)] [.ref r] (N, 15, 758) h Q := zE_aload_n (k := 0) (by decide +kernel) rfl
theorem e106_153 : zE X 106 153 [l0] [.ref a0] (N, 15, 758) h Q = zE X 106 155 [l0] [.int 48, .ref a0] (N, 15, 758) h Q := zE_bipush (n := 48) (by decide +kernel) (by decide)
theorem e106_157 : zE X 106 157 [l0] [.ref a0, .ref a1] (N, 16, 806) h Q = zpf (h a1) 10 22 (.ref a0) (fun c => zE X 106 160 [l0] [] (N, 16, 806) (va_up h a1 c) Q) := zE_putfield (k := 57) (nest := false) (q := 834) (by decide +kernel) rfl rfl rfl
theorem e106_160 : zE X 106 160 [some (.ref r)] [] (N, 16, 806) h Q = zE X 106 161 [some (.ref r)] [.ref r] (N, 16, 806) h Q := zE_aload_n (k := 0) (by decide +kernel) rfl
theorem e106_161 : zE X 106 161 [l0] [.ref a0] (N, 16, 806) h Q = zE X 106 163 [l0] [.int 48, .ref a0] (N, 16, 806) h Q := zE_bipush (n := 48) (by decide +kernel) (by decide)
theorem e106_165 : zE X 106 165 [l0] [.ref a0, .ref a1] (N, 17, 854) h Q = zpf (h a1) 10 23 (.ref a0) (fun c => zE X 106 168 [l0] [] (N, 17, 854) (va_up h a1 c) Q) := zE_putfield (k := 60) (nest := false) (q := 835) (by decide +kernel) rfl rfl rfl
theorem e106_168 : zE X 106 168 [some (.ref r)] [] (N, 17, 854) h Q = zE X 106 169 [some (.ref r)] [.ref r] (N, 17, 854) h Q := zE_aload_n (k := 0) (by decide +kernel) rfl
theorem e106_169 : zE X 106 169 [l0] [.ref a0] (N, 17, 854) h Q = zE X 106 171 [l0] [.int 24, .ref a0] (N, 17, 854) h Q := zE_bipush (n := 24) (by decide +kernel) (by decide)
theorem e106_173 : zE X 106 173 [l0] [.ref a0, .ref a1] (N, 18, 878) h Q = zpf (h a1) 10 24 (.ref a0) (fun c => zE X 106 176 [l0] [] (N, 18, 878) (va_up h a1 c) Q) := zE_putfield (k := 63) (nest := false) (q := 836) (by decide +kernel) rfl rfl rfl
theorem e106_176 : zE X 106 176 [some (.ref r)] [] (N, 18, 878) h Q = zE X 106 177 [some (.ref r)] [.ref r] (N, 18, 878) h Q := zE_aload_n (k := 0) (by decide +kernel) rfl
theorem e106_177 : zE X 106 177 [l0] [.ref a0] (N, 18, 878) h Q = zE X 106 179 [l0] [.int 24, .ref a0] (N, 18, 878) h Q := zE_bipush (n := 24) (by decide +kernel) (by decide)
theorem e106_181 : zE X 106 181 [l0] [.ref a0, .ref a1] (N, 19, 902) h Q = zpf (h a1) 10 28 (.ref a0) (fun c => zE X 106 184 [l0] [] (N, 19, 902) (va_up h a1 c) Q) := zE_putfield (k := 66) (nest := false) (q := 840) (by decide +kernel) rfl rfl rfl
theorem e106_184 : zE X 106 184 [some (.ref r)] [] (N, 19, 902) h Q = zE X 106 185 [some (.ref r)] [.ref r] (N, 19, 902) h Q := zE_aload_n (k := 0) (by decide +kernel) rfl
theorem e106_185 : zE X 106 185 [l0] [.ref a0] (N, 19, 902) h Q = zE X 106 187 [l0] [.int 24, .ref a0] (N, 19, 902) h Q := zE_bipush (n := 24) (by decide +kernel) (by decide)
theorem e106_189 : zE X 106 189 [l0] [.ref a0, .ref a1] (N, 20, 926) h Q = zpf (h a1) 10 29 (.ref a0) (fun c => zE X 106 192 [l0] [] (N, 20, 926) (va_up h a1 c) Q) := zE_putfield (k := 69) (nest := false) (q := 841) (by decide +kernel) rfl rfl rfl
theorem e106_192 : zE X 106 192 [some (.ref r)] [] (N, 20, 926) h Q = zE X 106 193 [some (.ref r)] [.ref r] (N, 20, 926) h Q := zE_aload_n (k := 0) (by decide +kernel) rfl
theorem e106_193 : zE X 106 193 [l0] [.ref a0] (N, 20, 926) h Q = zE X 106 195 [l0] [.int 24, .ref a0] (N, 20, 926) h Q := zE_bipush (n := 24) (by decide +kernel) (by decide)
theorem e106_197 : zE X 106 197 [l0] [.ref a0, .ref a1] (N, 21, 950) h Q = zpf (h a1) 10 30 (.ref a0) (fun c => zE X 106 200 [l0] [] (N, 21, 950) (va_up h a1 c) Q) := zE_putfield (k := 72) (nest := false) (q := 842) (by decide +kernel) rfl rfl rfl
theorem e106_200 : zE X 106 200 [l0] [] (N, 21, 950) h Q = Q none N h := zE_return (by decide +kernel) rfl
theorem e106_1 : zE X 106 1 [l0] [.ref a0] (N, 0, 0) h Q = zE X 106 4 [l0] [] (N, 0, 0) h Q := zE_invo (k := 1) (q := 811) (by decide +kernel) rfl rfl rfl
theorem e106_8 : zE X 106 8 [l0] [.int 400, .ref a1] (N, 0, 0) h Q = zE X 106 10 [l0] [.ref N, .ref a1] (N + 1, 1, 400) (va_up h N (.inl (.byte, 400, fun _ => 0))) Q := zE_newa (t := .byte) (m := 400) (by decide +kernel) rfl rfl (by decide) (by decide) (by decide)
theorem e106_16 : zE X 106 16 [l0] [.int 72, .ref a1] (N, 1, 400) h Q = zE X 106 18 [l0] [.ref N, .ref a1] (N + 1, 2, 472) (va_up h N (.inl (.int, 72, fun _ => 0))) Q := zE_newa (t := .int) (m := 72) (by decide +kernel) rfl rfl (by decide) (by decide) (by decide)
theorem e106_24 : zE X 106 24 [l0] [.int 18, .ref a1] (N, 2, 472) h Q = zE X 106 26 [l0] [.ref N, .ref a1] (N + 1, 3, 490) (va_up h N (.inl (.int, 18, fun _ => 0))) Q := zE_newa (t := .int) (m := 18) (by decide +kernel) rfl rfl (by decide) (by decide) (by decide)
theorem e106_32 : zE X 106 32 [l0] [.int 7, .ref a1] (N, 3, 490) h Q = zE X 106 34 [l0] [.ref N, .ref a1] (N + 1, 4, 497) (va_up h N (.inl (.int, 7, fun _ => 0))) Q := zE_newa (t := .int) (m := 7) (by decide +kernel) rfl rfl (by decide) (by decide) (by decide)
theorem e106_40 : zE X 106 40 [l0] [.int 8, .ref a1] (N, 4, 497) h Q = zE X 106 42 [l0] [.ref N, .ref a1] (N + 1, 5, 505) (va_up h N (.inl (.int, 8, fun _ => 0))) Q := zE_newa (t := .int) (m := 8) (by decide +kernel) rfl rfl (by decide) (by decide) (by decide)
theorem e106_48 : zE X 106 48 [l0] [.int 72, .ref a1] (N, 5, 505) h Q = zE X 106 50 [l0] [.ref N, .ref a1] (N + 1, 6, 577) (va_up h N (.inl (.int, 72, fun _ => 0))) Q := zE_newa (t := .int) (m := 72) (by decide +kernel) rfl rfl (by decide) (by decide) (by decide)
theorem e106_56 : zE X 106 56 [l0] [.int 18, .ref a1] (N, 6, 577) h Q = zE X 106 58 [l0] [.ref N, .ref a1] (N + 1, 7, 595) (va_up h N (.inl (.int, 18, fun _ => 0))) Q := zE_newa (t := .int) (m := 18) (by decide +kernel) rfl rfl (by decide) (by decide) (by decide)
theorem e106_64 : zE X 106 64 [l0] [.int 7, .ref a1] (N, 7, 595) h Q = zE X 106 66 [l0] [.ref N, .ref a1] (N + 1, 8, 602) (va_up h N (.inl (.int, 7, fun _ => 0))) Q := zE_newa (t := .int) (m := 7) (by decide +kernel) rfl rfl (by decide) (by decide) (by decide)
theorem e106_102 : zE X 106 102 [l0] [.int 24, .ref a1] (N, 8, 602) h Q = zE X 106 104 [l0] [.ref N, .ref a1] (N + 1, 9, 626) (va_up h N (.inl (.int, 24, fun _ => 0))) Q := zE_newa (t := .int) (m := 24) (by decide +kernel) rfl rfl (by decide) (by decide) (by decide)
theorem e106_110 : zE X 106 110 [l0] [.int 40, .ref a1] (N, 9, 626) h Q = zE X 106 112 [l0] [.ref N, .ref a1] (N + 1, 10, 666) (va_up h N (.inl (.int, 40, fun _ => 0))) Q := zE_newa (t := .int) (m := 40) (by decide +kernel) rfl rfl (by decide) (by decide) (by decide)
theorem e106_118 : zE X 106 118 [l0] [.int 40, .ref a1] (N, 10, 666) h Q = zE X 106 120 [l0] [.ref N, .ref a1] (N + 1, 11, 706) (va_up h N (.inl (.int, 40, fun _ => 0))) Q := zE_newa (t := .int) (m := 40) (by decide +kernel) rfl rfl (by decide) (by decide) (by decide)
theorem e106_126 : zE X 106 126 [l0] [.int 40, .ref a1] (N, 11, 706) h Q = zE X 106 128 [l0] [.ref N, .ref a1] (N + 1, 12, 746) (va_up h N (.inl (.boolean, 40, fun _ => 0))) Q := zE_newa (t := .boolean) (m := 40) (by decide +kernel) rfl rfl (by decide) (by decide) (by decide)
theorem e106_133 : zE X 106 133 [l0] [.int 5, .ref a1] (N, 12, 746) h Q = zE X 106 135 [l0] [.ref N, .ref a1] (N + 1, 13, 751) (va_up h N (.inl (.int, 5, fun _ => 0))) Q := zE_newa (t := .int) (m := 5) (by decide +kernel) rfl rfl (by decide) (by decide) (by decide)
theorem e106_140 : zE X 106 140 [l0] [.int 5, .ref a1] (N, 13, 751) h Q = zE X 106 142 [l0] [.ref N, .ref a1] (N + 1, 14, 756) (va_up h N (.inl (.int, 5, fun _ => 0))) Q := zE_newa (t := .int) (m := 5) (by decide +kernel) rfl rfl (by decide) (by decide) (by decide)
theorem e106_147 : zE X 106 147 [l0] [.int 2, .ref a1] (N, 14, 756) h Q = zE X 106 149 [l0] [.ref N, .ref a1] (N + 1, 15, 758) (va_up h N (.inl (.int, 2, fun _ => 0))) Q := zE_newa (t := .int) (m := 2) (by decide +kernel) rfl rfl (by decide) (by decide) (by decide)
theorem e106_155 : zE X 106 155 [l0] [.int 48, .ref a1] (N, 15, 758) h Q = zE X 106 157 [l0] [.ref N, .ref a1] (N + 1, 16, 806) (va_up h N (.inl (.int, 48, fun _ => 0))) Q := zE_newa (t := .int) (m := 48) (by decide +kernel) rfl rfl (by decide) (by decide) (by decide)
theorem e106_163 : zE X 106 163 [l0] [.int 48, .ref a1] (N, 16, 806) h Q = zE X 106 165 [l0] [.ref N, .ref a1] (N + 1, 17, 854) (va_up h N (.inl (.int, 48, fun _ => 0))) Q := zE_newa (t := .int) (m := 48) (by decide +kernel) rfl rfl (by decide) (by decide) (by decide)
theorem e106_171 : zE X 106 171 [l0] [.int 24, .ref a1] (N, 17, 854) h Q = zE X 106 173 [l0] [.ref N, .ref a1] (N + 1, 18, 878) (va_up h N (.inl (.int, 24, fun _ => 0))) Q := zE_newa (t := .int) (m := 24) (by decide +kernel) rfl rfl (by decide) (by decide) (by decide)
theorem e106_179 : zE X 106 179 [l0] [.int 24, .ref a1] (N, 18, 878) h Q = zE X 106 181 [l0] [.ref N, .ref a1] (N + 1, 19, 902) (va_up h N (.inl (.int, 24, fun _ => 0))) Q := zE_newa (t := .int) (m := 24) (by decide +kernel) rfl rfl (by decide) (by decide) (by decide)
theorem e106_187 : zE X 106 187 [l0] [.int 24, .ref a1] (N, 19, 902) h Q = zE X 106 189 [l0] [.ref N, .ref a1] (N + 1, 20, 926) (va_up h N (.inl (.boolean, 24, fun _ => 0))) Q := zE_newa (t := .boolean) (m := 24) (by decide +kernel) rfl rfl (by decide) (by decide) (by decide)
theorem e106_195 : zE X 106 195 [l0] [.int 24, .ref a1] (N, 20, 926) h Q = zE X 106 197 [l0] [.ref N, .ref a1] (N + 1, 21, 950) (va_up h N (.inl (.boolean, 24, fun _ => 0))) Q := zE_newa (t := .boolean) (m := 24) (by decide +kernel) rfl rfl (by decide) (by decide) (by decide)
-- the head of the law
theorem e0_0 : zE X 0 0 [l0, l1, l2, l3] [] (N, 0, 0) h Q = zE X 0 3 [l0, l1, l2, l3] [.ref N] (N + 1, 1, 17) (va_up h N (.inr (9, zdf 9))) Q := zE_new (k := 7) (q := 97) (by decide +kernel) rfl (by decide) (by decide) rfl
theorem e0_4 : zE X 0 4 [l0, l1, l2, l3] [.ref a0, .ref a1] (N, 1, 17) h Q = zE X 1 0 [some (.ref a0)] [] (N, 0, 0) h (fun v N' h' => zE X 0 7 [l0, l1, l2, l3] (v.toList ++ [.ref a1]) (N', 53, 1064) h' Q) := zE_invn (k := 9) (z := 1) (nest := false) (q := 99) (by decide +kernel) rfl rfl rfl rfl (by decide) rfl rfl rfl
theorem e0_8 : zE X 0 8 [l0, l1, l2, l3] [] (N, 53, 1064) h Q = zE X 0 11 [l0, l1, l2, l3] [.ref N] (N + 1, 54, 1097) (va_up h N (.inr (10, zdf 10))) Q := zE_new (k := 10) (q := 806) (by decide +kernel) rfl (by decide) (by decide) rfl
theorem e0_12 : zE X 0 12 [l0, l1, l2, l3] [.ref a0, .ref a1] (N, 54, 1097) h Q = zE X 106 0 [some (.ref a0)] [] (N, 0, 0) h (fun v N' h' => zE X 0 15 [l0, l1, l2, l3] (v.toList ++ [.ref a1]) (N', 75, 2047) h' Q) := zE_invn (k := 12) (z := 106) (nest := false) (q := 808) (by decide +kernel) rfl rfl rfl rfl (by decide) rfl rfl rfl
end ZM
