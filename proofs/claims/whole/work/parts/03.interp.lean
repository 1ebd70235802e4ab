-- an interpreter of the claim's code over plain data: cells by number, no tables; part 04, 05 tie it to the machine
/-- a cell: an array (kind, length, contents), or an object (number of its class, fields) -/
abbrev zC : Type := (FieldType × Nat × (Nat → Int32)) ⊕ (Nat × List Value)
abbrev zH : Type := Nat → zC
/-- how many cells there are; cells and slots that the running method has made -/
abbrev zN : Type := Nat × Nat × Nat
abbrev zL : Type := List (Option Value)
/-- method, place, locals, stack, counts, heap -/
abbrev zF : Type := Nat × Nat × zL × List Value × zN × zH
abbrev zR : Type := Option Value × Nat × zH
/-- what an instruction does: goes on; calls (and goes on with the answer); returns; none: the interpreter has no word on it -/
abbrev zA : Type := Option (zF ⊕ ((zF × (zR → zF)) ⊕ zR))
def zdead : zC := .inr (1000, [])
def zgo (y pc : Nat) (L : zL) (st : List Value) (w : zN) (h : zH) : zA := some (.inl (y, pc, L, st, w, h))
def zif (b : Bool) (a : zA) : zA := if b = true then a else none
def zjmp (pc : Nat) (off : Int) (f : Nat → zA) : zA := if 0 ≤ (pc : Int) + off then f ((pc : Int) + off).toNat else none
/-- a store into a local spoils no long before it -/
def zst (y i : Nat) : Bool := decide (i < mL y) && (mLs y).all (fun j => j + 1 != i)
def zcw (st : List Value) : Nat := (st.map fun v => v.category).sum
/-- a value for a field of a type -/
def zfit (ty : FieldType) (v : Value) : Bool := match ty, v with
  | .int, .int _ => true
  | .long, .long _ => true
  | .boolean, .int x => x == 0 || x == 1
  | .object _, .ref _ => true
  | .array _, .ref _ => true
  | _, _ => false
def zTT (ci : Nat) : u_T := match zcls[ci]? with
  | some q => q.2.1
  | none => zt0
def zTn (ci : Nat) : Nat := match zcls[ci]? with
  | some q => q.2.2
  | none => 0
/-- a final field is put in a constructor of its own class alone -/
def zfin (y : Nat) (f : Nat × Nat × Bool × Nat) : Bool := !(zTT f.1 f.2.1).2.2.2 || (!f.2.2.1 && (mN y).name == "<init>" && (zTT f.1 f.2.1).1 == zcn.getD (mC y) "")
def zfl? (c i : Nat) : Option (Nat × Nat × Bool × Nat) := zfl.lookup (c, i)
def zml? (c i : Nat) : Option (Nat × Bool × Nat) := zml.lookup (c, i)
def zol? (c i : Nat) : Option Nat := zol.lookup (c, i)
def zcl? (c i : Nat) : Option (Nat × Nat) := zcl.lookup (c, i)
def zki? (c i : Nat) : Option (Int32 × Nat) := zki.lookup (c, i)
def zkl? (c i : Nat) : Option (Int64 × Nat) := zkl.lookup (c, i)
/-- the locals at a method's entry: arguments, a long takes two places -/
def zargs : List Value → zL
  | [] => []
  | v :: l => if v.category = 2 then some v :: none :: zargs l else some v :: zargs l
def zentry (z : Nat) (as : List Value) : zL := zargs as ++ List.replicate (mL z - (zargs as).length) none
/-- longs stand where the table says -/
def zlok (z : Nat) (L : zL) : Bool := (List.range L.length).all fun i => match L[i]? with
  | some (some v) => v.category != 2 || (mLs z).contains i
  | _ => true
/-- a call of z with arguments as (the first is the deepest), rest below -/
def zcall (y pc : Nat) (L : zL) (rest : List Value) (w : zN) (h : zH) (z : Nat) (as : List Value) : zA :=
  if decide (zcw rest ≤ 8) && decide ((mRm z).frames + 1 ≤ (mRm y).frames) && decide (8 + (mL z + 11) + (mRm z).locals ≤ (mRm y).locals) && decide (w.2.1 + (mRm z).cells ≤ (mRm y).cells) && decide (w.2.2 + (mRm z).slots ≤ (mRm y).slots) && decide ((zargs as).length ≤ mL z) && zlok z (zentry z as) && decide (z ≠ 0) && decide (z ≠ 2) && decide (z < 160) = true then
    some (.inr (.inl ((z, 0, zentry z as, [], (w.1, 0, 0), h), fun r => (y, pc + 3, L, r.1.toList ++ rest, (r.2.1, w.2.1 + (mRm z).cells, w.2.2 + (mRm z).slots), r.2.2))))
  else none
def zld (y pc len : Nat) (L : zL) (st : List Value) (w : zN) (h : zH) (v : Option Value) : zA := match v with
  | some v => zgo y (pc + len) L (v :: st) w h
  | none => none
def zint (L : zL) (i : Nat) : Option Value := match L[i]? with
  | some (some (.int x)) => some (.int x)
  | _ => none
def zlong (L : zL) (i : Nat) : Option Value := match L[i]? with
  | some (some (.long x)) => some (.long x)
  | _ => none
def zref (L : zL) (i : Nat) : Option Value := match L[i]? with
  | some (some (.ref x)) => some (.ref x)
  | some (some (.retAddr x)) => some (.retAddr x)
  | _ => none
def zist (y pc len : Nat) (L : zL) (st : List Value) (w : zN) (h : zH) (i : Nat) : zA := match st with
  | .int x :: st => zif (zst y i) (zgo y (pc + len) (L.set i (some (.int x))) st w h)
  | _ => none
def zast (y pc len : Nat) (L : zL) (st : List Value) (w : zN) (h : zH) (i : Nat) : zA := match st with
  | .ref x :: st => zif (zst y i) (zgo y (pc + len) (L.set i (some (.ref x))) st w h)
  | _ => none
def zlst (y pc len : Nat) (L : zL) (st : List Value) (w : zN) (h : zH) (i : Nat) : zA := match st with
  | .long x :: st => zif (zst y i && decide (i + 1 < mL y) && (mLs y).contains i) (zgo y (pc + len) ((L.set i (some (.long x))).set (i + 1) none) st w h)
  | _ => none
def zi2 (y pc : Nat) (L : zL) (st : List Value) (w : zN) (h : zH) (f : Int32 → Int32 → Int32) : zA := match st with
  | .int b :: .int a :: st => zgo y (pc + 1) L (.int (f a b) :: st) w h
  | _ => none
def zl2 (y pc : Nat) (L : zL) (st : List Value) (w : zN) (h : zH) (f : Int64 → Int64 → Int64) : zA := match st with
  | .long b :: .long a :: st => zgo y (pc + 1) L (.long (f a b) :: st) w h
  | _ => none
def zbr (y pc : Nat) (L : zL) (st : List Value) (w : zN) (h : zH) (c : Prop) [Decidable c] (off : Int) : zA :=
  zjmp pc off (fun t => if c then zgo y t L st w h else zgo y (pc + 3) L st w h)
def zcond1 (c : Jvm.ClassFile.Cond) (x : Int32) : Bool := match c with
  | .eq => decide (x = 0)
  | .ne => decide (¬ x = 0)
  | .lt => decide (x < 0)
  | .ge => decide (0 ≤ x)
  | .gt => decide (0 < x)
  | .le => decide (x ≤ 0)
def zcond2 (c : Jvm.ClassFile.Cond) (x y : Int32) : Bool := match c with
  | .eq => decide (x = y)
  | .ne => decide (¬ x = y)
  | .lt => decide (x < y)
  | .ge => decide (y ≤ x)
  | .gt => decide (y < x)
  | .le => decide (x ≤ y)
def zI (X : Nat × (Nat → Int32)) (y pc : Nat) (L : zL) (st : List Value) (w : zN) (h : zH) (i : Instr) (len : Nat) : zA :=
  match i with
  | .iconst n => zif (len == 1) (zgo y (pc + 1) L (.int (Int32.ofInt n) :: st) w h)
  | .bipush n => zif (len == 2) (zgo y (pc + 2) L (.int (Int8.ofInt n).toInt32 :: st) w h)
  | .sipush n => zif (len == 3) (zgo y (pc + 3) L (.int (Int16.ofInt n).toInt32 :: st) w h)
  | .lconst n => zif (len == 1) (zgo y (pc + 1) L (.long (Int64.ofNat n) :: st) w h)
  | .ldc k => zif (len == 2) (match zki? (mC y) k with
    | some v => zgo y (pc + 2) L (.int v.1 :: st) w h
    | none => none)
  | .ldc_w k => zif (len == 3) (match zki? (mC y) k with
    | some v => zgo y (pc + 3) L (.int v.1 :: st) w h
    | none => none)
  | .ldc2_w k => zif (len == 3) (match zkl? (mC y) k with
    | some v => zgo y (pc + 3) L (.long v.1 :: st) w h
    | none => none)
  | .iload_n k => zif (len == 1) (zld y pc 1 L st w h (zint L k))
  | .iload k => zif (len == 2) (zld y pc 2 L st w h (zint L k))
  | .lload_n k => zif (len == 1) (zld y pc 1 L st w h (zlong L k))
  | .lload k => zif (len == 2) (zld y pc 2 L st w h (zlong L k))
  | .aload_n k => zif (len == 1) (zld y pc 1 L st w h (zref L k))
  | .aload k => zif (len == 2) (zld y pc 2 L st w h (zref L k))
  | .istore_n k => zif (len == 1) (zist y pc 1 L st w h k)
  | .istore k => zif (len == 2) (zist y pc 2 L st w h k)
  | .lstore k => zif (len == 2) (zlst y pc 2 L st w h k)
  | .astore_n k => zif (len == 1) (zast y pc 1 L st w h k)
  | .iinc k n => zif (len == 3) (match L[k]? with
    | some (some (.int x)) => zif (zst y k) (zgo y (pc + 3) (L.set k (some (.int (x + Int32.ofInt n)))) st w h)
    | _ => none)
  | .iadd => zif (len == 1) (zi2 y pc L st w h (fun a b => a + b))
  | .isub => zif (len == 1) (zi2 y pc L st w h (fun a b => a - b))
  | .imul => zif (len == 1) (zi2 y pc L st w h (fun a b => a * b))
  | .iand => zif (len == 1) (zi2 y pc L st w h (fun a b => a &&& b))
  | .ior => zif (len == 1) (zi2 y pc L st w h (fun a b => a ||| b))
  | .ixor => zif (len == 1) (zi2 y pc L st w h (fun a b => a ^^^ b))
  | .ishl => zif (len == 1) (zi2 y pc L st w h (fun a b => a <<< (b &&& 31)))
  | .ishr => zif (len == 1) (zi2 y pc L st w h (fun a b => a >>> (b &&& 31)))
  | .iushr => zif (len == 1) (zi2 y pc L st w h (fun a b => (a.toUInt32 >>> (b.toUInt32 &&& Int32.toUInt32 31)).toInt32))
  | .idiv => zif (len == 1) (match st with
    | .int b :: .int a :: st => if b = 0 then none else zgo y (pc + 1) L (.int (a / b) :: st) w h
    | _ => none)
  | .irem => zif (len == 1) (match st with
    | .int b :: .int a :: st => if b = 0 then none else zgo y (pc + 1) L (.int (a - a / b * b) :: st) w h
    | _ => none)
  | .ineg => zif (len == 1) (match st with
    | .int a :: st => zgo y (pc + 1) L (.int (-a) :: st) w h
    | _ => none)
  | .ladd => zif (len == 1) (zl2 y pc L st w h (fun a b => a + b))
  | .lmul => zif (len == 1) (zl2 y pc L st w h (fun a b => a * b))
  | .land => zif (len == 1) (zl2 y pc L st w h (fun a b => a &&& b))
  | .lor => zif (len == 1) (zl2 y pc L st w h (fun a b => a ||| b))
  | .ldiv => zif (len == 1) (match st with
    | .long b :: .long a :: st => if b = 0 then none else zgo y (pc + 1) L (.long (a / b) :: st) w h
    | _ => none)
  | .lrem => zif (len == 1) (match st with
    | .long b :: .long a :: st => if b = 0 then none else zgo y (pc + 1) L (.long (a - a / b * b) :: st) w h
    | _ => none)
  | .lneg => zif (len == 1) (match st with
    | .long a :: st => zgo y (pc + 1) L (.long (-a) :: st) w h
    | _ => none)
  | .lshl => zif (len == 1) (match st with
    | .int b :: .long a :: st => zgo y (pc + 1) L (.long (a <<< (b.toInt64 &&& 63)) :: st) w h
    | _ => none)
  | .lshr => zif (len == 1) (match st with
    | .int b :: .long a :: st => zgo y (pc + 1) L (.long (a >>> (b.toInt64 &&& 63)) :: st) w h
    | _ => none)
  | .lcmp => zif (len == 1) (match st with
    | .long b :: .long a :: st => zgo y (pc + 1) L (.int (lg_cmp a b) :: st) w h
    | _ => none)
  | .i2l => zif (len == 1) (match st with
    | .int a :: st => zgo y (pc + 1) L (.long a.toInt64 :: st) w h
    | _ => none)
  | .l2i => zif (len == 1) (match st with
    | .long a :: st => zgo y (pc + 1) L (.int a.toInt32 :: st) w h
    | _ => none)
  | .i2b => zif (len == 1) (match st with
    | .int a :: st => zgo y (pc + 1) L (.int a.toInt8.toInt32 :: st) w h
    | _ => none)
  | .dup => zif (len == 1) (match st with
    | a :: st => zif (a.category == 1) (zgo y (pc + 1) L (a :: a :: st) w h)
    | _ => none)
  | .dup2 => zif (len == 1) (match st with
    | a :: b :: st => zif (a.category == 1 && b.category == 1) (zgo y (pc + 1) L (a :: b :: a :: b :: st) w h)
    | _ => none)
  | .pop => zif (len == 1) (match st with
    | a :: st => zif (a.category == 1) (zgo y (pc + 1) L st w h)
    | _ => none)
  | .ifCond c off => zif (len == 3) (match st with
    | .int x :: st => zbr y pc L st w h (zcond1 c x = true) off
    | _ => none)
  | .if_icmp c off => zif (len == 3) (match st with
    | .int b :: .int a :: st => zbr y pc L st w h (zcond2 c a b = true) off
    | _ => none)
  | .goto off => zif (len == 3) (zjmp pc off (fun t => zgo y t L st w h))
  | .tableswitch d lo hi offs => match st with
    | .int x :: st => if x.toInt < lo ∨ hi < x.toInt then zjmp pc d (fun t => zgo y t L st w h) else
      match offs[(x.toInt - lo).toNat]? with
      | some off => zjmp pc off (fun t => zgo y t L st w h)
      | none => none
    | _ => none
  | .getfield k => zif (len == 3) (match zfl? (mC y) k, st with
    | some f, .ref a :: st => match h a with
      | .inr (c, fs) => if c = f.1 then match fs[f.2.1]? with
        | some v => zgo y (pc + 3) L (v :: st) w h
        | none => none
        else none
      | .inl _ => none
    | _, _ => none)
  | .putfield k => zif (len == 3) (match zfl? (mC y) k, st with
    | some f, v :: .ref a :: st => match h a with
      | .inr (c, fs) => zif (decide (c = f.1) && decide (f.2.1 < fs.length) && zfit (zty f.1 f.2.1) v && zfin y f) (zgo y (pc + 3) L st w (va_up h a (.inr (c, fs.set f.2.1 v))))
      | .inl _ => none
    | _, _ => none)
  | .iaload => zif (len == 1) (match st with
    | .int i :: .ref a :: st => match h a with
      | .inl (ty, n, f) => if ty = .int ∧ ¬ (i < 0 ∨ n ≤ i.toNatClampNeg) then zgo y (pc + 1) L (.int (f i.toNatClampNeg) :: st) w h else none
      | .inr _ => none
    | .int i :: .retAddr _ :: st => if y = 0 ∧ ¬ (i < 0 ∨ X.1 ≤ i.toNatClampNeg) then zgo y (pc + 1) L (.int (X.2 i.toNatClampNeg) :: st) w h else none
    | _ => none)
  | .baload => zif (len == 1) (match st with
    | .int i :: .ref a :: st => match h a with
      | .inl (ty, n, f) => if (ty = .byte ∨ ty = .boolean) ∧ ¬ (i < 0 ∨ n ≤ i.toNatClampNeg) then zgo y (pc + 1) L (.int (f i.toNatClampNeg) :: st) w h else none
      | .inr _ => none
    | _ => none)
  | .iastore => zif (len == 1) (match st with
    | .int x :: .int i :: .ref a :: st => match h a with
      | .inl (ty, n, f) => if ty = .int ∧ ¬ (i < 0 ∨ n ≤ i.toNatClampNeg) then zgo y (pc + 1) L st w (va_up h a (.inl (ty, n, upd f i.toNatClampNeg x))) else none
      | .inr _ => none
    | _ => none)
  | .bastore => zif (len == 1) (match st with
    | .int x :: .int i :: .ref a :: st => match h a with
      | .inl (ty, n, f) => if (ty = .byte ∨ ty = .boolean) ∧ ¬ (i < 0 ∨ n ≤ i.toNatClampNeg) then zgo y (pc + 1) L st w (va_up h a (.inl (ty, n, upd f i.toNatClampNeg (vp_nar ty x)))) else none
      | .inr _ => none
    | _ => none)
  | .arraylength => zif (len == 1) (match st with
    | .ref a :: st => match h a with
      | .inl (_, n, _) => zgo y (pc + 1) L (.int (Int32.ofNat n) :: st) w h
      | .inr _ => none
    | .retAddr _ :: st => if y = 0 then zgo y (pc + 1) L (.int (Int32.ofNat X.1) :: st) w h else none
    | _ => none)
  | .new k => zif (len == 3) (match zcl? (mC y) k with
    | some c => zif (decide (w.2.1 + 1 ≤ (mRm y).cells) && decide (w.2.2 + (zdf c.1).length ≤ (mRm y).slots)) (zgo y (pc + 3) L (.ref w.1 :: st) (w.1 + 1, w.2.1 + 1, w.2.2 + (zdf c.1).length) (va_up h w.1 (.inr (c.1, zdf c.1))))
    | none => none)
  | .newarray t => zif (len == 2) (match st with
    | .int n :: st => zif ((newarray.typeOf t == .int || newarray.typeOf t == .byte || newarray.typeOf t == .boolean) && decide (¬ n < 0) && decide (n.toNatClampNeg ≤ 1000) && decide (w.2.1 + 1 ≤ (mRm y).cells) && decide (w.2.2 + n.toNatClampNeg ≤ (mRm y).slots))
      (zgo y (pc + 2) L (.ref w.1 :: st) (w.1 + 1, w.2.1 + 1, w.2.2 + n.toNatClampNeg) (va_up h w.1 (.inl (newarray.typeOf t, n.toNatClampNeg, fun _ => 0))))
    | _ => none)
  | .invokestatic k => zif (len == 3) (match zml? (mC y) k with
    | some z => zif (decide (mSt z.1 = 1) && decide (mPn z.1 ≤ st.length)) (zcall y pc L (st.drop (mPn z.1)) w h z.1 (st.take (mPn z.1)).reverse)
    | none => none)
  | .invokevirtual k => zif (len == 3) (match zml? (mC y) k, st.drop ((zml? (mC y) k).elim 0 (fun z => mPn z.1)) with
    | some z, .ref a :: rest => match h a with
      | .inr (c, _) => zif (decide (mSt z.1 = 0) && decide (c = mC z.1) && decide ((mN z.1).name ≠ "<init>")) (zcall y pc L rest w h z.1 (.ref a :: (st.take (mPn z.1)).reverse))
      | .inl _ => none
    | _, _ => none)
  | .invokespecial k => zif (len == 3) (match zml? (mC y) k, st with
    | some z, .ref a :: rest => zif (decide (mSt z.1 = 0) && decide (mPn z.1 = 0) && decide ((mN z.1).name = "<init>")) (zcall y pc L rest w h z.1 [.ref a])
    | none, .ref _ :: rest => match zol? (mC y) k with
      | some _ => zif (decide (1 ≤ (mRm y).frames) && decide (zcw rest + 12 ≤ (mRm y).locals)) (zgo y (pc + 3) L rest w h)
      | none => none
    | _, _ => none)
  | .ireturn => zif (len == 1) (match st with
    | [.int x] => zif (mR y == some .int || (mR y == some .boolean && (x == 0 || x == 1))) (some (.inr (.inr (some (.int x), w.1, h))))
    | _ => none)
  | .areturn => zif (len == 1) (match st with
    | [.ref a] => zif (match mR y with
      | some (.object _) => true
      | _ => false) (some (.inr (.inr (some (.ref a), w.1, h))))
    | _ => none)
  | .return_ => zif (len == 1) (match st with
    | [] => zif (mR y == none) (some (.inr (.inr (none, w.1, h))))
    | _ => none)
  | _ => none
def zS (X : Nat × (Nat → Int32)) (c : zF) : zA := match decode (mB c.1) c.2.1 with
  | .ok (i, len) => zI X c.1 c.2.1 c.2.2.1 c.2.2.2.1 c.2.2.2.2.1 c.2.2.2.2.2 i len
  | .error _ => none
def zrun (X : Nat × (Nat → Int32)) : Nat → zF → Option zR
  | 0, _ => none
  | n + 1, c => match zS X c with
    | none => none
    | some (.inl c') => zrun X n c'
    | some (.inr (.inl (c1, k))) => match zrun X n c1 with
      | none => none
      | some r => zrun X n (k r)
    | some (.inr (.inr r)) => some r
/-- from here the interpreter comes to a return, with Q -/
def zE (X : Nat × (Nat → Int32)) (y pc : Nat) (L : zL) (st : List Value) (w : zN) (h : zH) (Q : Option Value → Nat → zH → Prop) : Prop := ∃ (n : Nat) (r : zR), zrun X n (y, pc, L, st, w, h) = some r ∧ Q r.1 r.2.1 r.2.2
theorem zrun_mono (X : Nat × (Nat → Int32)) : ∀ (n : Nat) (c : zF) (r : zR), zrun X n c = some r → zrun X (n + 1) c = some r := by
  intro n
  induction n with
  | zero => intro c r h; simp [zrun] at h
  | succ n ih =>
    intro c r h
    rw [zrun] at h ⊢
    split at h
    · cases h
    · next c' e => exact ih _ _ h
    · next c1 k e =>
      split at h
      · cases h
      · next r1 e1 => rw [ih _ _ e1]; exact ih _ _ h
    · exact h
theorem zrun_le (X : Nat × (Nat → Int32)) {n k : Nat} (hk : n ≤ k) {c : zF} {r : zR} (h : zrun X n c = some r) : zrun X k c = some r := by
  induction hk with
  | refl => exact h
  | step _ ih => exact zrun_mono X _ _ _ ih
section ZE
variable {X : Nat × (Nat → Int32)} {y pc : Nat} {L : zL} {st : List Value} {w : zN} {h : zH} {Q : Option Value → Nat → zH → Prop}
theorem zE_go {y' pc' : Nat} {L' : zL} {st' : List Value} {w' : zN} {h' : zH} (e : zS X (y, pc, L, st, w, h) = zgo y' pc' L' st' w' h') : zE X y pc L st w h Q = zE X y' pc' L' st' w' h' Q := by
  apply propext
  constructor
  · rintro ⟨n, r, h1, h2⟩
    cases n with
    | zero => simp [zrun] at h1
    | succ n => rw [zrun, e] at h1; exact ⟨n, r, h1, h2⟩
  · rintro ⟨n, r, h1, h2⟩
    exact ⟨n + 1, r, by rw [zrun, e]; exact h1, h2⟩
theorem zE_ret {r : zR} (e : zS X (y, pc, L, st, w, h) = some (.inr (.inr r))) : zE X y pc L st w h Q = Q r.1 r.2.1 r.2.2 := by
  apply propext
  constructor
  · rintro ⟨n, r', h1, h2⟩
    cases n with
    | zero => simp [zrun] at h1
    | succ n => rw [zrun, e] at h1; cases h1; exact h2
  · intro h2
    exact ⟨1, r, by rw [zrun, e], h2⟩
theorem zE_none (e : zS X (y, pc, L, st, w, h) = none) : zE X y pc L st w h Q = False := by
  apply propext
  constructor
  · rintro ⟨n, r', h1, h2⟩
    cases n with
    | zero => simp [zrun] at h1
    | succ n => rw [zrun, e] at h1; cases h1
  · exact False.elim
theorem zE_call {y1 pc1 : Nat} {L1 : zL} {st1 : List Value} {w1 : zN} {h1 : zH} {y2 pc2 : Nat} {L2 : zL} {st2 : zR → List Value} {w2 : zR → zN} {h2 : zR → zH} (e : zS X (y, pc, L, st, w, h) = some (.inr (.inl ((y1, pc1, L1, st1, w1, h1), fun r => (y2, pc2, L2, st2 r, w2 r, h2 r))))) :
    zE X y pc L st w h Q = zE X y1 pc1 L1 st1 w1 h1 (fun v N' h' => zE X y2 pc2 L2 (st2 (v, N', h')) (w2 (v, N', h')) (h2 (v, N', h')) Q) := by
  apply propext
  constructor
  · rintro ⟨n, r, g1, g2⟩
    cases n with
    | zero => simp [zrun] at g1
    | succ n =>
      rw [zrun, e] at g1
      dsimp only at g1
      split at g1
      · cases g1
      · next r1 e1 => exact ⟨n, r1, e1, n, r, g1, g2⟩
  · rintro ⟨n, r1, g1, k, r, g2, g3⟩
    refine ⟨max n k + 1, r, ?_, g3⟩
    rw [zrun, e]
    dsimp only
    rw [zrun_le X (Nat.le_max_left n k) g1]
    exact zrun_le X (Nat.le_max_right n k) g2
end ZE
