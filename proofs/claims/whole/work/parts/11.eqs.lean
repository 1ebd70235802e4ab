-- the interpreter's run, an equation an instruction
section ZEQ
variable {X : Nat × (Nat → Int32)} {y pc : Nat} {L : zL} {st : List Value} {w : zN} {h : zH} {Q : Option Value → Nat → zH → Prop}
theorem zS_of {i : Instr} {len : Nat} (hd : decode (mB y) pc = .ok (i, len)) : zS X (y, pc, L, st, w, h) = zI X y pc L st w h i len := by
  unfold zS
  dsimp only
  rw [hd]
theorem zE_iconst {n : Int} {v : Int32} (hd : decode (mB y) pc = .ok (.iconst n, 1)) (hv : Int32.ofInt n = v) : zE X y pc L st w h Q = zE X y (pc + 1) L (.int v :: st) w h Q := by subst hv; exact zE_go (by rw [zS_of hd]; rfl)
theorem zE_bipush {n : Int} {v : Int32} (hd : decode (mB y) pc = .ok (.bipush n, 2)) (hv : (Int8.ofInt n).toInt32 = v) : zE X y pc L st w h Q = zE X y (pc + 2) L (.int v :: st) w h Q := by subst hv; exact zE_go (by rw [zS_of hd]; rfl)
theorem zE_sipush {n : Int} {v : Int32} (hd : decode (mB y) pc = .ok (.sipush n, 3)) (hv : (Int16.ofInt n).toInt32 = v) : zE X y pc L st w h Q = zE X y (pc + 3) L (.int v :: st) w h Q := by subst hv; exact zE_go (by rw [zS_of hd]; rfl)
theorem zE_lconst {n : Fin 2} {v : Int64} (hd : decode (mB y) pc = .ok (.lconst n, 1)) (hv : Int64.ofNat n = v) : zE X y pc L st w h Q = zE X y (pc + 1) L (.long v :: st) w h Q := by subst hv; exact zE_go (by rw [zS_of hd]; rfl)
theorem zE_ldc {k q : Nat} {v : Int32} (hd : decode (mB y) pc = .ok (.ldc k, 2)) (hk : zki? (mC y) k = some (v, q)) : zE X y pc L st w h Q = zE X y (pc + 2) L (.int v :: st) w h Q := zE_go (by rw [zS_of hd]; simp only [zI, hk]; rfl)
theorem zE_ldcw {k q : Nat} {v : Int32} (hd : decode (mB y) pc = .ok (.ldc_w k, 3)) (hk : zki? (mC y) k = some (v, q)) : zE X y pc L st w h Q = zE X y (pc + 3) L (.int v :: st) w h Q := zE_go (by rw [zS_of hd]; simp only [zI, hk]; rfl)
theorem zE_ldc2 {k q : Nat} {v : Int64} (hd : decode (mB y) pc = .ok (.ldc2_w k, 3)) (hk : zkl? (mC y) k = some (v, q)) : zE X y pc L st w h Q = zE X y (pc + 3) L (.long v :: st) w h Q := zE_go (by rw [zS_of hd]; simp only [zI, hk]; rfl)
theorem zE_iload_n {k : Fin 4} {x : Int32} (hd : decode (mB y) pc = .ok (.iload_n k, 1)) (hl : L[k.val]? = some (some (.int x))) : zE X y pc L st w h Q = zE X y (pc + 1) L (.int x :: st) w h Q := zE_go (by rw [zS_of hd]; simp only [zI, zint, hl]; rfl)
theorem zE_iload {k : Nat} {x : Int32} (hd : decode (mB y) pc = .ok (.iload k, 2)) (hl : L[k]? = some (some (.int x))) : zE X y pc L st w h Q = zE X y (pc + 2) L (.int x :: st) w h Q := zE_go (by rw [zS_of hd]; simp only [zI, zint, hl]; rfl)
theorem zE_lload_n {k : Fin 4} {x : Int64} (hd : decode (mB y) pc = .ok (.lload_n k, 1)) (hl : L[k.val]? = some (some (.long x))) : zE X y pc L st w h Q = zE X y (pc + 1) L (.long x :: st) w h Q := zE_go (by rw [zS_of hd]; simp only [zI, zlong, hl]; rfl)
theorem zE_lload {k : Nat} {x : Int64} (hd : decode (mB y) pc = .ok (.lload k, 2)) (hl : L[k]? = some (some (.long x))) : zE X y pc L st w h Q = zE X y (pc + 2) L (.long x :: st) w h Q := zE_go (by rw [zS_of hd]; simp only [zI, zlong, hl]; rfl)
theorem zE_aload_n {k : Fin 4} {x : Nat} (hd : decode (mB y) pc = .ok (.aload_n k, 1)) (hl : L[k.val]? = some (some (.ref x))) : zE X y pc L st w h Q = zE X y (pc + 1) L (.ref x :: st) w h Q := zE_go (by rw [zS_of hd]; simp only [zI, zref, hl]; rfl)
theorem zE_aload {k : Nat} {x : Nat} (hd : decode (mB y) pc = .ok (.aload k, 2)) (hl : L[k]? = some (some (.ref x))) : zE X y pc L st w h Q = zE X y (pc + 2) L (.ref x :: st) w h Q := zE_go (by rw [zS_of hd]; simp only [zI, zref, hl]; rfl)
theorem zE_aload_s {k : Fin 4} {x : Nat} (hd : decode (mB y) pc = .ok (.aload_n k, 1)) (hl : L[k.val]? = some (some (.retAddr x))) : zE X y pc L st w h Q = zE X y (pc + 1) L (.retAddr x :: st) w h Q := zE_go (by rw [zS_of hd]; simp only [zI, zref, hl]; rfl)
theorem zE_istore_n {k : Fin 4} {x : Int32} {L' : zL} (hd : decode (mB y) pc = .ok (.istore_n k, 1)) (hi : zst y k = true) (hl : L.set k.val (some (.int x)) = L') : zE X y pc L (.int x :: st) w h Q = zE X y (pc + 1) L' st w h Q := by subst hl; exact zE_go (by rw [zS_of hd]; simp only [zI, zist, hi]; rfl)
theorem zE_istore {k : Nat} {x : Int32} {L' : zL} (hd : decode (mB y) pc = .ok (.istore k, 2)) (hi : zst y k = true) (hl : L.set k (some (.int x)) = L') : zE X y pc L (.int x :: st) w h Q = zE X y (pc + 2) L' st w h Q := by subst hl; exact zE_go (by rw [zS_of hd]; simp only [zI, zist, hi]; rfl)
theorem zE_astore_n {k : Fin 4} {x : Nat} {L' : zL} (hd : decode (mB y) pc = .ok (.astore_n k, 1)) (hi : zst y k = true) (hl : L.set k.val (some (.ref x)) = L') : zE X y pc L (.ref x :: st) w h Q = zE X y (pc + 1) L' st w h Q := by subst hl; exact zE_go (by rw [zS_of hd]; simp only [zI, zast, hi]; rfl)
theorem zE_lstore {k : Nat} {x : Int64} {L' : zL} (hd : decode (mB y) pc = .ok (.lstore k, 2)) (hi : (zst y k && decide (k + 1 < mL y) && (mLs y).contains k) = true) (hl : (L.set k (some (.long x))).set (k + 1) none = L') : zE X y pc L (.long x :: st) w h Q = zE X y (pc + 2) L' st w h Q := by subst hl; exact zE_go (by rw [zS_of hd]; simp only [zI, zlst, hi]; rfl)
theorem zE_iinc {k : Nat} {n : Int} {x v : Int32} {L' : zL} (hd : decode (mB y) pc = .ok (.iinc k n, 3)) (hi : zst y k = true) (hk : L[k]? = some (some (.int x))) (hv : Int32.ofInt n = v) (hl : L.set k (some (.int (x + v))) = L') : zE X y pc L st w h Q = zE X y (pc + 3) L' st w h Q := by subst hv; subst hl; exact zE_go (by rw [zS_of hd]; simp only [zI, hk, hi]; rfl)
theorem zE_iadd {a b : Int32} (hd : decode (mB y) pc = .ok (.iadd, 1)) : zE X y pc L (.int b :: .int a :: st) w h Q = zE X y (pc + 1) L (.int (a + b) :: st) w h Q := zE_go (by rw [zS_of hd]; rfl)
theorem zE_isub {a b : Int32} (hd : decode (mB y) pc = .ok (.isub, 1)) : zE X y pc L (.int b :: .int a :: st) w h Q = zE X y (pc + 1) L (.int (a - b) :: st) w h Q := zE_go (by rw [zS_of hd]; rfl)
theorem zE_imul {a b : Int32} (hd : decode (mB y) pc = .ok (.imul, 1)) : zE X y pc L (.int b :: .int a :: st) w h Q = zE X y (pc + 1) L (.int (a * b) :: st) w h Q := zE_go (by rw [zS_of hd]; rfl)
theorem zE_iand {a b : Int32} (hd : decode (mB y) pc = .ok (.iand, 1)) : zE X y pc L (.int b :: .int a :: st) w h Q = zE X y (pc + 1) L (.int (a &&& b) :: st) w h Q := zE_go (by rw [zS_of hd]; rfl)
theorem zE_ior {a b : Int32} (hd : decode (mB y) pc = .ok (.ior, 1)) : zE X y pc L (.int b :: .int a :: st) w h Q = zE X y (pc + 1) L (.int (a ||| b) :: st) w h Q := zE_go (by rw [zS_of hd]; rfl)
theorem zE_ixor {a b : Int32} (hd : decode (mB y) pc = .ok (.ixor, 1)) : zE X y pc L (.int b :: .int a :: st) w h Q = zE X y (pc + 1) L (.int (a ^^^ b) :: st) w h Q := zE_go (by rw [zS_of hd]; rfl)
theorem zE_ishl {a b : Int32} (hd : decode (mB y) pc = .ok (.ishl, 1)) : zE X y pc L (.int b :: .int a :: st) w h Q = zE X y (pc + 1) L (.int (a <<< (b &&& 31)) :: st) w h Q := zE_go (by rw [zS_of hd]; rfl)
theorem zE_ishr {a b : Int32} (hd : decode (mB y) pc = .ok (.ishr, 1)) : zE X y pc L (.int b :: .int a :: st) w h Q = zE X y (pc + 1) L (.int (a >>> (b &&& 31)) :: st) w h Q := zE_go (by rw [zS_of hd]; rfl)
theorem zE_iushr {a b : Int32} (hd : decode (mB y) pc = .ok (.iushr, 1)) : zE X y pc L (.int b :: .int a :: st) w h Q = zE X y (pc + 1) L (.int (a.toUInt32 >>> (b.toUInt32 &&& Int32.toUInt32 31)).toInt32 :: st) w h Q := zE_go (by rw [zS_of hd]; rfl)
theorem zE_idiv {a b : Int32} (hd : decode (mB y) pc = .ok (.idiv, 1)) : zE X y pc L (.int b :: .int a :: st) w h Q = if b = 0 then False else zE X y (pc + 1) L (.int (a / b) :: st) w h Q := by
  split
  · next hb => exact zE_none (by rw [zS_of hd]; simp only [zI, hb]; rfl)
  · next hb => exact zE_go (by rw [zS_of hd]; simp only [zI, hb]; rfl)
theorem zE_irem {a b : Int32} (hd : decode (mB y) pc = .ok (.irem, 1)) : zE X y pc L (.int b :: .int a :: st) w h Q = if b = 0 then False else zE X y (pc + 1) L (.int (a - a / b * b) :: st) w h Q := by
  split
  · next hb => exact zE_none (by rw [zS_of hd]; simp only [zI, hb]; rfl)
  · next hb => exact zE_go (by rw [zS_of hd]; simp only [zI, hb]; rfl)
theorem zE_ldiv {a b : Int64} (hd : decode (mB y) pc = .ok (.ldiv, 1)) : zE X y pc L (.long b :: .long a :: st) w h Q = if b = 0 then False else zE X y (pc + 1) L (.long (a / b) :: st) w h Q := by
  split
  · next hb => exact zE_none (by rw [zS_of hd]; simp only [zI, hb]; rfl)
  · next hb => exact zE_go (by rw [zS_of hd]; simp only [zI, hb]; rfl)
theorem zE_lrem {a b : Int64} (hd : decode (mB y) pc = .ok (.lrem, 1)) : zE X y pc L (.long b :: .long a :: st) w h Q = if b = 0 then False else zE X y (pc + 1) L (.long (a - a / b * b) :: st) w h Q := by
  split
  · next hb => exact zE_none (by rw [zS_of hd]; simp only [zI, hb]; rfl)
  · next hb => exact zE_go (by rw [zS_of hd]; simp only [zI, hb]; rfl)
theorem zE_ineg {a : Int32} (hd : decode (mB y) pc = .ok (.ineg, 1)) : zE X y pc L (.int a :: st) w h Q = zE X y (pc + 1) L (.int (-a) :: st) w h Q := zE_go (by rw [zS_of hd]; rfl)
theorem zE_lneg {a : Int64} (hd : decode (mB y) pc = .ok (.lneg, 1)) : zE X y pc L (.long a :: st) w h Q = zE X y (pc + 1) L (.long (-a) :: st) w h Q := zE_go (by rw [zS_of hd]; rfl)
theorem zE_ladd {a b : Int64} (hd : decode (mB y) pc = .ok (.ladd, 1)) : zE X y pc L (.long b :: .long a :: st) w h Q = zE X y (pc + 1) L (.long (a + b) :: st) w h Q := zE_go (by rw [zS_of hd]; rfl)
theorem zE_lmul {a b : Int64} (hd : decode (mB y) pc = .ok (.lmul, 1)) : zE X y pc L (.long b :: .long a :: st) w h Q = zE X y (pc + 1) L (.long (a * b) :: st) w h Q := zE_go (by rw [zS_of hd]; rfl)
theorem zE_land {a b : Int64} (hd : decode (mB y) pc = .ok (.land, 1)) : zE X y pc L (.long b :: .long a :: st) w h Q = zE X y (pc + 1) L (.long (a &&& b) :: st) w h Q := zE_go (by rw [zS_of hd]; rfl)
theorem zE_lor {a b : Int64} (hd : decode (mB y) pc = .ok (.lor, 1)) : zE X y pc L (.long b :: .long a :: st) w h Q = zE X y (pc + 1) L (.long (a ||| b) :: st) w h Q := zE_go (by rw [zS_of hd]; rfl)
theorem zE_lshl {a : Int64} {b : Int32} (hd : decode (mB y) pc = .ok (.lshl, 1)) : zE X y pc L (.int b :: .long a :: st) w h Q = zE X y (pc + 1) L (.long (a <<< (b.toInt64 &&& 63)) :: st) w h Q := zE_go (by rw [zS_of hd]; rfl)
theorem zE_lshr {a : Int64} {b : Int32} (hd : decode (mB y) pc = .ok (.lshr, 1)) : zE X y pc L (.int b :: .long a :: st) w h Q = zE X y (pc + 1) L (.long (a >>> (b.toInt64 &&& 63)) :: st) w h Q := zE_go (by rw [zS_of hd]; rfl)
theorem zE_lcmp {a b : Int64} (hd : decode (mB y) pc = .ok (.lcmp, 1)) : zE X y pc L (.long b :: .long a :: st) w h Q = zE X y (pc + 1) L (.int (lg_cmp a b) :: st) w h Q := zE_go (by rw [zS_of hd]; rfl)
theorem zE_i2l {a : Int32} (hd : decode (mB y) pc = .ok (.i2l, 1)) : zE X y pc L (.int a :: st) w h Q = zE X y (pc + 1) L (.long a.toInt64 :: st) w h Q := zE_go (by rw [zS_of hd]; rfl)
theorem zE_l2i {a : Int64} (hd : decode (mB y) pc = .ok (.l2i, 1)) : zE X y pc L (.long a :: st) w h Q = zE X y (pc + 1) L (.int a.toInt32 :: st) w h Q := zE_go (by rw [zS_of hd]; rfl)
theorem zE_i2b {a : Int32} (hd : decode (mB y) pc = .ok (.i2b, 1)) : zE X y pc L (.int a :: st) w h Q = zE X y (pc + 1) L (.int a.toInt8.toInt32 :: st) w h Q := zE_go (by rw [zS_of hd]; rfl)
theorem zE_dup {a : Value} (hd : decode (mB y) pc = .ok (.dup, 1)) (hc : a.category = 1) : zE X y pc L (a :: st) w h Q = zE X y (pc + 1) L (a :: a :: st) w h Q := zE_go (by rw [zS_of hd]; simp only [zI, hc]; rfl)
theorem zE_dup2 {a b : Value} (hd : decode (mB y) pc = .ok (.dup2, 1)) (hc : a.category = 1) (hc2 : b.category = 1) : zE X y pc L (a :: b :: st) w h Q = zE X y (pc + 1) L (a :: b :: a :: b :: st) w h Q := zE_go (by rw [zS_of hd]; simp only [zI, hc, hc2]; rfl)
theorem zE_pop {a : Value} (hd : decode (mB y) pc = .ok (.pop, 1)) (hc : a.category = 1) : zE X y pc L (a :: st) w h Q = zE X y (pc + 1) L st w h Q := zE_go (by rw [zS_of hd]; simp only [zI, hc]; rfl)
theorem zjmp_eq {pc t : Nat} {off : Int} (ht : (pc : Int) + off = (t : Int)) (f : Nat → zA) : zjmp pc off f = f t := by
  unfold zjmp
  rw [if_pos (by rw [ht]; exact Int.natCast_nonneg t), ht, Int.toNat_natCast]
theorem zE_goto {off : Int} {t : Nat} (hd : decode (mB y) pc = .ok (.goto off, 3)) (ht : (pc : Int) + off = (t : Int)) : zE X y pc L st w h Q = zE X y t L st w h Q := zE_go (by rw [zS_of hd]; simp only [zI, zjmp_eq ht]; rfl)
theorem zE_br {st0 : List Value} {c : Prop} [Decidable c] {off : Int} {t : Nat} (hs : zS X (y, pc, L, st, w, h) = zbr y pc L st0 w h c off) (ht : (pc : Int) + off = (t : Int)) : zE X y pc L st w h Q = if c then zE X y t L st0 w h Q else zE X y (pc + 3) L st0 w h Q := by
  unfold zbr at hs
  rw [zjmp_eq ht] at hs
  split
  · next hc => exact zE_go (by rw [hs, if_pos hc])
  · next hc => exact zE_go (by rw [hs, if_neg hc])
theorem zE_if {cn : Jvm.ClassFile.Cond} {x : Int32} {off : Int} {t : Nat} (hd : decode (mB y) pc = .ok (.ifCond cn off, 3)) (ht : (pc : Int) + off = (t : Int)) : zE X y pc L (.int x :: st) w h Q = if zcond1 cn x = true then zE X y t L st w h Q else zE X y (pc + 3) L st w h Q := zE_br (by rw [zS_of hd]; rfl) ht
theorem zE_icmp {cn : Jvm.ClassFile.Cond} {a b : Int32} {off : Int} {t : Nat} (hd : decode (mB y) pc = .ok (.if_icmp cn off, 3)) (ht : (pc : Int) + off = (t : Int)) : zE X y pc L (.int b :: .int a :: st) w h Q = if zcond2 cn a b = true then zE X y t L st w h Q else zE X y (pc + 3) L st w h Q := zE_br (by rw [zS_of hd]; rfl) ht
theorem zite {c d : Prop} [Decidable c] [Decidable d] (h : c ↔ d) {a b : Prop} : (if c then a else b) = (if d then a else b) := by
  by_cases hc : c
  · rw [if_pos hc, if_pos (h.mp hc)]
  · rw [if_neg hc, if_neg (fun q => hc (h.mpr q))]
theorem zitn {c d : Prop} [Decidable c] [Decidable d] (h : c ↔ ¬ d) {a b : Prop} : (if c then a else b) = (if d then b else a) := by
  by_cases hc : c
  · rw [if_pos hc, if_neg (h.mp hc)]
  · rw [if_neg hc, if_pos (Classical.byContradiction fun q => hc (h.mpr q))]
theorem zE_if_eq {x : Int32} {off : Int} {t : Nat} (hd : decode (mB y) pc = .ok (.ifCond .eq off, 3)) (ht : (pc : Int) + off = (t : Int)) : zE X y pc L (.int x :: st) w h Q = if x = 0 then zE X y t L st w h Q else zE X y (pc + 3) L st w h Q := (zE_if hd ht).trans (zite (by simp [zcond1]))
theorem zE_if_ne {x : Int32} {off : Int} {t : Nat} (hd : decode (mB y) pc = .ok (.ifCond .ne off, 3)) (ht : (pc : Int) + off = (t : Int)) : zE X y pc L (.int x :: st) w h Q = if x = 0 then zE X y (pc + 3) L st w h Q else zE X y t L st w h Q := (zE_if hd ht).trans (zitn (by simp [zcond1]))
theorem zE_if_lt {x : Int32} {off : Int} {t : Nat} (hd : decode (mB y) pc = .ok (.ifCond .lt off, 3)) (ht : (pc : Int) + off = (t : Int)) : zE X y pc L (.int x :: st) w h Q = if x < 0 then zE X y t L st w h Q else zE X y (pc + 3) L st w h Q := (zE_if hd ht).trans (zite (by simp [zcond1]))
theorem zE_if_ge {x : Int32} {off : Int} {t : Nat} (hd : decode (mB y) pc = .ok (.ifCond .ge off, 3)) (ht : (pc : Int) + off = (t : Int)) : zE X y pc L (.int x :: st) w h Q = if 0 ≤ x then zE X y t L st w h Q else zE X y (pc + 3) L st w h Q := (zE_if hd ht).trans (zite (by simp [zcond1]))
theorem zE_if_gt {x : Int32} {off : Int} {t : Nat} (hd : decode (mB y) pc = .ok (.ifCond .gt off, 3)) (ht : (pc : Int) + off = (t : Int)) : zE X y pc L (.int x :: st) w h Q = if 0 < x then zE X y t L st w h Q else zE X y (pc + 3) L st w h Q := (zE_if hd ht).trans (zite (by simp [zcond1]))
theorem zE_if_le {x : Int32} {off : Int} {t : Nat} (hd : decode (mB y) pc = .ok (.ifCond .le off, 3)) (ht : (pc : Int) + off = (t : Int)) : zE X y pc L (.int x :: st) w h Q = if x ≤ 0 then zE X y t L st w h Q else zE X y (pc + 3) L st w h Q := (zE_if hd ht).trans (zite (by simp [zcond1]))
theorem zE_icmp_eq {a b : Int32} {off : Int} {t : Nat} (hd : decode (mB y) pc = .ok (.if_icmp .eq off, 3)) (ht : (pc : Int) + off = (t : Int)) : zE X y pc L (.int b :: .int a :: st) w h Q = if a = b then zE X y t L st w h Q else zE X y (pc + 3) L st w h Q := (zE_icmp hd ht).trans (zite (by simp [zcond2]))
theorem zE_icmp_ne {a b : Int32} {off : Int} {t : Nat} (hd : decode (mB y) pc = .ok (.if_icmp .ne off, 3)) (ht : (pc : Int) + off = (t : Int)) : zE X y pc L (.int b :: .int a :: st) w h Q = if a = b then zE X y (pc + 3) L st w h Q else zE X y t L st w h Q := (zE_icmp hd ht).trans (zitn (by simp [zcond2]))
theorem zE_icmp_lt {a b : Int32} {off : Int} {t : Nat} (hd : decode (mB y) pc = .ok (.if_icmp .lt off, 3)) (ht : (pc : Int) + off = (t : Int)) : zE X y pc L (.int b :: .int a :: st) w h Q = if a < b then zE X y t L st w h Q else zE X y (pc + 3) L st w h Q := (zE_icmp hd ht).trans (zite (by simp [zcond2]))
theorem zE_icmp_ge {a b : Int32} {off : Int} {t : Nat} (hd : decode (mB y) pc = .ok (.if_icmp .ge off, 3)) (ht : (pc : Int) + off = (t : Int)) : zE X y pc L (.int b :: .int a :: st) w h Q = if b ≤ a then zE X y t L st w h Q else zE X y (pc + 3) L st w h Q := (zE_icmp hd ht).trans (zite (by simp [zcond2]))
theorem zE_icmp_gt {a b : Int32} {off : Int} {t : Nat} (hd : decode (mB y) pc = .ok (.if_icmp .gt off, 3)) (ht : (pc : Int) + off = (t : Int)) : zE X y pc L (.int b :: .int a :: st) w h Q = if b < a then zE X y t L st w h Q else zE X y (pc + 3) L st w h Q := (zE_icmp hd ht).trans (zite (by simp [zcond2]))
theorem zE_icmp_le {a b : Int32} {off : Int} {t : Nat} (hd : decode (mB y) pc = .ok (.if_icmp .le off, 3)) (ht : (pc : Int) + off = (t : Int)) : zE X y pc L (.int b :: .int a :: st) w h Q = if a ≤ b then zE X y t L st w h Q else zE X y (pc + 3) L st w h Q := (zE_icmp hd ht).trans (zite (by simp [zcond2]))
/-- a field of an object of a class -/
def zgf (c : zC) (ci k : Nat) (F : Value → Prop) : Prop := match c with
  | .inr (c', fs) => if c' = ci then match fs[k]? with
    | some v => F v
    | none => False
    else False
  | .inl _ => False
def zpf (c : zC) (ci k : Nat) (v : Value) (F : zC → Prop) : Prop := match c with
  | .inr (c', fs) => if c' = ci ∧ k < fs.length then F (.inr (c', fs.set k v)) else False
  | .inl _ => False
/-- an element of an array: kind 0 ints, 1 bytes and booleans -/
def zal (c : zC) (kd : Nat) (i : Int32) (F : Int32 → Prop) : Prop := match c with
  | .inl (ty, n, f) => if (if kd = 0 then ty = FieldType.int else (ty = .byte ∨ ty = .boolean)) ∧ ¬ (i < 0 ∨ n ≤ i.toNatClampNeg) then F (f i.toNatClampNeg) else False
  | .inr _ => False
def zas (c : zC) (kd : Nat) (i x : Int32) (F : zC → Prop) : Prop := match c with
  | .inl (ty, n, f) => if (if kd = 0 then ty = FieldType.int else (ty = .byte ∨ ty = .boolean)) ∧ ¬ (i < 0 ∨ n ≤ i.toNatClampNeg) then F (.inl (ty, n, upd f i.toNatClampNeg (if kd = 0 then x else vp_nar ty x))) else False
  | .inr _ => False
def zan (c : zC) (F : Int32 → Prop) : Prop := match c with
  | .inl (_, n, _) => F (Int32.ofNat n)
  | .inr _ => False
/-- a receiver of a class -/
def zrc (c : zC) (ci : Nat) (P : Prop) : Prop := match c with
  | .inr (c', _) => if c' = ci then P else False
  | .inl _ => False
theorem zE_getfield {k a ci kk q : Nat} {nest : Bool} (hd : decode (mB y) pc = .ok (.getfield k, 3)) (hf : zfl? (mC y) k = some (ci, kk, nest, q)) : zE X y pc L (.ref a :: st) w h Q = zgf (h a) ci kk (fun v => zE X y (pc + 3) L (v :: st) w h Q) := by
  have e := zS_of (X := X) (L := L) (st := .ref a :: st) (w := w) (h := h) hd
  simp only [zI, hf] at e
  unfold zgf
  split
  · next c' fs ha =>
    simp only [ha] at e
    split
    · next hc =>
      simp only [hc, if_true] at e
      split
      · next v hv => simp only [hv] at e; exact zE_go e
      · next hv => simp only [hv] at e; exact zE_none e
    · next hc => simp only [hc, if_false] at e; exact zE_none e
  · next ha => simp only [ha] at e; exact zE_none e
theorem zE_putfield {k a ci kk q : Nat} {nest : Bool} {v : Value} (hd : decode (mB y) pc = .ok (.putfield k, 3)) (hf : zfl? (mC y) k = some (ci, kk, nest, q)) (hfin : zfin y (ci, kk, nest, q) = true) (hfit : zfit (zty ci kk) v = true) : zE X y pc L (v :: .ref a :: st) w h Q = zpf (h a) ci kk v (fun c => zE X y (pc + 3) L st w (va_up h a c) Q) := by
  have e := zS_of (X := X) (L := L) (st := v :: .ref a :: st) (w := w) (h := h) hd
  simp only [zI, hf, hfin, hfit, Bool.and_true] at e
  unfold zpf
  split
  · next c' fs ha =>
    simp only [ha] at e
    split
    · next hc => simp only [hc.1, hc.2, decide_true, Bool.and_self] at e ⊢; exact zE_go e
    · next hc =>
      have hb : (decide (c' = ci) && decide (kk < fs.length)) = false := by
        rw [Bool.eq_false_iff]; intro hq; simp only [Bool.and_eq_true, decide_eq_true_eq] at hq; exact hc hq
      simp only [hb] at e; exact zE_none e
  · next ha => simp only [ha] at e; exact zE_none e
theorem zE_iaload {a : Nat} {i : Int32} (hd : decode (mB y) pc = .ok (.iaload, 1)) : zE X y pc L (.int i :: .ref a :: st) w h Q = zal (h a) 0 i (fun x => zE X y (pc + 1) L (.int x :: st) w h Q) := by
  have e := zS_of (X := X) (L := L) (st := .int i :: .ref a :: st) (w := w) (h := h) hd
  simp only [zI] at e
  unfold zal
  split
  · next ty n f ha =>
    simp only [ha] at e
    simp only [if_true]
    split
    · next hc => rw [if_pos hc] at e; exact zE_go e
    · next hc => rw [if_neg hc] at e; exact zE_none e
  · next ha => simp only [ha] at e; exact zE_none e
theorem zE_baload {a : Nat} {i : Int32} (hd : decode (mB y) pc = .ok (.baload, 1)) : zE X y pc L (.int i :: .ref a :: st) w h Q = zal (h a) 1 i (fun x => zE X y (pc + 1) L (.int x :: st) w h Q) := by
  have e := zS_of (X := X) (L := L) (st := .int i :: .ref a :: st) (w := w) (h := h) hd
  simp only [zI] at e
  unfold zal
  split
  · next ty n f ha =>
    simp only [ha] at e
    simp only [Nat.one_ne_zero, if_false]
    split
    · next hc => rw [if_pos hc] at e; exact zE_go e
    · next hc => rw [if_neg hc] at e; exact zE_none e
  · next ha => simp only [ha] at e; exact zE_none e
theorem zE_iastore {a : Nat} {i x : Int32} (hd : decode (mB y) pc = .ok (.iastore, 1)) : zE X y pc L (.int x :: .int i :: .ref a :: st) w h Q = zas (h a) 0 i x (fun c => zE X y (pc + 1) L st w (va_up h a c) Q) := by
  have e := zS_of (X := X) (L := L) (st := .int x :: .int i :: .ref a :: st) (w := w) (h := h) hd
  simp only [zI] at e
  unfold zas
  split
  · next ty n f ha =>
    simp only [ha] at e
    simp only [if_true]
    split
    · next hc => rw [if_pos hc] at e; exact zE_go e
    · next hc => rw [if_neg hc] at e; exact zE_none e
  · next ha => simp only [ha] at e; exact zE_none e
theorem zE_bastore {a : Nat} {i x : Int32} (hd : decode (mB y) pc = .ok (.bastore, 1)) : zE X y pc L (.int x :: .int i :: .ref a :: st) w h Q = zas (h a) 1 i x (fun c => zE X y (pc + 1) L st w (va_up h a c) Q) := by
  have e := zS_of (X := X) (L := L) (st := .int x :: .int i :: .ref a :: st) (w := w) (h := h) hd
  simp only [zI] at e
  unfold zas
  split
  · next ty n f ha =>
    simp only [ha] at e
    simp only [Nat.one_ne_zero, if_false]
    split
    · next hc => rw [if_pos hc] at e; exact zE_go e
    · next hc => rw [if_neg hc] at e; exact zE_none e
  · next ha => simp only [ha] at e; exact zE_none e
theorem zE_alen {a : Nat} (hd : decode (mB y) pc = .ok (.arraylength, 1)) : zE X y pc L (.ref a :: st) w h Q = zan (h a) (fun x => zE X y (pc + 1) L (.int x :: st) w h Q) := by
  have e := zS_of (X := X) (L := L) (st := .ref a :: st) (w := w) (h := h) hd
  simp only [zI] at e
  unfold zan
  split
  · next ty n f ha => simp only [ha] at e; exact zE_go e
  · next ha => simp only [ha] at e; exact zE_none e
theorem zE_slen {a : Nat} (hd : decode (mB 0) pc = .ok (.arraylength, 1)) : zE X 0 pc L (.retAddr a :: st) w h Q = zE X 0 (pc + 1) L (.int (Int32.ofNat X.1) :: st) w h Q := by
  have e := zS_of (X := X) (L := L) (st := .retAddr a :: st) (w := w) (h := h) hd
  exact zE_go e
theorem zE_sld {a : Nat} {i : Int32} (hd : decode (mB 0) pc = .ok (.iaload, 1)) : zE X 0 pc L (.int i :: .retAddr a :: st) w h Q = if ¬ (i < 0 ∨ X.1 ≤ i.toNatClampNeg) then zE X 0 (pc + 1) L (.int (X.2 i.toNatClampNeg) :: st) w h Q else False := by
  have e := zS_of (X := X) (L := L) (st := .int i :: .retAddr a :: st) (w := w) (h := h) hd
  simp only [zI] at e
  split
  · next hc => rw [if_pos ⟨trivial, hc⟩] at e; exact zE_go e
  · next hc => rw [if_neg (fun q => hc q.2)] at e; exact zE_none e
theorem zE_ireturn {x : Int32} (hd : decode (mB y) pc = .ok (.ireturn, 1)) (hr : mR y = some .int) : zE X y pc L [.int x] w h Q = Q (some (.int x)) w.1 h := zE_ret (r := (some (.int x), w.1, h)) (by rw [zS_of hd]; simp only [zI, hr]; rfl)
theorem zE_zreturn {x : Int32} (hd : decode (mB y) pc = .ok (.ireturn, 1)) (hr : mR y = some .boolean) : zE X y pc L [.int x] w h Q = if x = 0 ∨ x = 1 then Q (some (.int x)) w.1 h else False := by
  have e := zS_of (X := X) (L := L) (st := [.int x]) (w := w) (h := h) hd
  simp only [zI, hr] at e
  split
  · next hc => exact zE_ret (r := (some (.int x), w.1, h)) (by rw [e]; rcases hc with rfl | rfl <;> rfl)
  · next hc =>
    have e1 : (x == 0) = false := by rw [beq_eq_false_iff_ne]; exact fun q => hc (Or.inl q)
    have e2 : (x == 1) = false := by rw [beq_eq_false_iff_ne]; exact fun q => hc (Or.inr q)
    exact zE_none (by rw [e, e1, e2]; rfl)
theorem zE_areturn {a : Nat} {cn : String} (hd : decode (mB y) pc = .ok (.areturn, 1)) (hr : mR y = some (.object cn)) : zE X y pc L [.ref a] w h Q = Q (some (.ref a)) w.1 h := zE_ret (r := (some (.ref a), w.1, h)) (by rw [zS_of hd]; simp only [zI, hr]; rfl)
theorem zE_return (hd : decode (mB y) pc = .ok (.return_, 1)) (hr : mR y = none) : zE X y pc L [] w h Q = Q none w.1 h := zE_ret (r := (none, w.1, h)) (by rw [zS_of hd]; simp only [zI, hr]; rfl)
/-- the static side of a call -/
def zck (y z : Nat) (rest as : Nat) : Bool := decide (rest ≤ 8) && decide ((mRm z).frames + 1 ≤ (mRm y).frames) && decide (8 + (mL z + 11) + (mRm z).locals ≤ (mRm y).locals) && decide (as ≤ mL z) && decide (z ≠ 0) && decide (z ≠ 2) && decide (z < 160)
theorem zcall_eq {rest as : List Value} {z N : Nat} (h1 : zck y z (zcw rest) (zargs as).length = true) (h2 : zlok z (zentry z as) = true) (h3 : (mRm z).cells = 0 ∧ (mRm z).slots = 0) : zcall y pc L rest w h z as = if w.2.1 ≤ (mRm y).cells ∧ w.2.2 ≤ (mRm y).slots then some (.inr (.inl ((z, 0, zentry z as, [], (w.1, 0, 0), h), fun r => (y, pc + 3, L, r.1.toList ++ rest, (r.2.1, w.2.1, w.2.2), r.2.2)))) else none := by
  simp only [zck, Bool.and_eq_true, decide_eq_true_eq] at h1
  obtain ⟨⟨⟨⟨⟨⟨a1, a2⟩, a3⟩, a4⟩, a5⟩, a6⟩, a7⟩ := h1
  unfold zcall
  simp only [a1, a2, a3, a4, a5, a6, a7, h2, h3.1, h3.2, Nat.add_zero, decide_true, Bool.true_and, Bool.and_true, ne_eq, not_false_eq_true]
  by_cases hc : w.2.1 ≤ (mRm y).cells ∧ w.2.2 ≤ (mRm y).slots
  · rw [if_pos hc, if_pos]
    simp [hc.1, hc.2]
  · rw [if_neg hc, if_neg]
    simp only [Bool.and_eq_true, decide_eq_true_eq]
    exact hc
theorem zE_invs {k z q : Nat} {nest : Bool} {rest as : List Value} {L' : zL} {c s : Nat} {N : Nat} (hd : decode (mB y) pc = .ok (.invokestatic k, 3)) (hm : zml? (mC y) k = some (z, nest, q)) (hz : mSt z = 1) (hn : mPn z ≤ st.length) (hr : st.drop (mPn z) = rest) (ha : (st.take (mPn z)).reverse = as) (h1 : zck y z (zcw rest) (zargs as).length = true) (h2 : zlok z (zentry z as) = true) (h3 : (mRm z).cells = 0 ∧ (mRm z).slots = 0) (hL : zentry z as = L') (hc : c ≤ (mRm y).cells ∧ s ≤ (mRm y).slots) :
    zE X y pc L st (N, c, s) h Q = zE X z 0 L' [] (N, 0, 0) h (fun v N' h' => zE X y (pc + 3) L (v.toList ++ rest) (N', c, s) h' Q) := by
  subst hL
  have e := zS_of (X := X) (L := L) (st := st) (w := (N, c, s)) (h := h) hd
  simp only [zI, hm, hz, hn, hr, ha, decide_true, Bool.and_self] at e
  rw [zcall_eq (N := N) h1 h2 h3, if_pos hc] at e
  exact zE_call e
theorem zE_invv {k z q a : Nat} {nest : Bool} {rest as : List Value} {L' : zL} {c s : Nat} {N : Nat} (hd : decode (mB y) pc = .ok (.invokevirtual k, 3)) (hm : zml? (mC y) k = some (z, nest, q)) (hz : mSt z = 0) (hi : (mN z).name ≠ "<init>") (hr : st.drop (mPn z) = .ref a :: rest) (ha : (st.take (mPn z)).reverse = as) (h1 : zck y z (zcw rest) (zargs (.ref a :: as)).length = true) (h2 : zlok z (zentry z (.ref a :: as)) = true) (h3 : (mRm z).cells = 0 ∧ (mRm z).slots = 0) (hL : zentry z (.ref a :: as) = L') (hc : c ≤ (mRm y).cells ∧ s ≤ (mRm y).slots) :
    zE X y pc L st (N, c, s) h Q = zrc (h a) (mC z) (zE X z 0 L' [] (N, 0, 0) h (fun v N' h' => zE X y (pc + 3) L (v.toList ++ rest) (N', c, s) h' Q)) := by
  subst hL
  have e := zS_of (X := X) (L := L) (st := st) (w := (N, c, s)) (h := h) hd
  simp only [zI, hm, Option.elim_some, hr, ha] at e
  unfold zrc
  split
  · next c' fs hh =>
    simp only [hh, hz, hi, decide_true, Bool.true_and, ne_eq, not_false_eq_true, Bool.and_true] at e
    split
    · next hcc =>
      simp only [hcc, decide_true] at e
      rw [zcall_eq (N := N) h1 h2 h3, if_pos hc] at e
      exact zE_call e
    · next hcc => simp only [hcc, decide_false] at e; exact zE_none e
  · next hh => simp only [hh] at e; exact zE_none e
end ZEQ
