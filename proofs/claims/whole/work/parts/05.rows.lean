-- rows of stores and of makings that also tell the heap's size
section ZVA
variable {p : Program} {l : Launch} {e : Env} {R : Room} {s : State} {m : MethodId} {args : Array Value} {below : List Frame} {meth : Method} {c : Code} {H : Heap} {locs : List Loc} {cells slots : Nat} {Q : State → Prop}
variable {cc : ByteArray} {pc : Nat} {ls : Array Slot} {rest : List Value} {D : va_G} {cl : List vw_C} {A : Nat → Prop} {a : Nat} {tys : List (ClassId × FieldType)} {ws : va_W} {H0 : Heap}
theorem zput (nest : Bool) (hexec : p.tables.exec = Jvm.exec) (hb : c.code = cc) {own C host : String} {T : u_T} {N ci index : Nat} {Ts : List Cond} (hts : ∀ w ∈ Ts, w.before args s = true) (hin : ∀ w ∈ u_ws C T N, w ∈ Ts) (ty0 : Nat → FieldType) (hty : ∀ k, k < N → parseFieldDescriptor (T k).2.2.1 = some (ty0 k)) (hnm : ∀ a, a < N → ∀ b, b < N → a ≠ b → (T a).2.1 ≠ (T b).2.1) (hown : s.vm.findClass own = some m.cls) (hK : va_K D cl tys s) (hP : va_P D cl ws H) (hD : va_D A ws) (hS0 : va_S A H0 H locs) (q0 : Nat) {fs : List Value} (he : ws[q0]? = some (a, .inr (ci, fs))) (hc : cl[ci]? = some (C, T, N)) (k : Nat) (hk : k < N)
    (hlink : (if nest = true then Cond.fieldLinkNest own index (T k).1 (T k).2.1 (T k).2.2.1 host else Cond.fieldLink own index (T k).1 (T k).2.1 (T k).2.2.1).before args s = true)
    (hfin : (T k).2.2.2 = false ∨ (nest = false ∧ (T k).2.2.2 = true ∧ meth.name = "<init>" ∧ (T k).1 = own)) {v : Value} (hn : narrow (ty0 k) v = v) (hfit : fits (ty0 k) v = true) (hl : k < fs.length)
    (hdg : decode cc pc = .ok (.putfield index, 3)) (kk : ∀ (H1 : Heap) (locs1 : List Loc), H1.size = H.size → va_P D cl (ws.set q0 (a, .inr (ci, fs.set k v))) H1 → va_S A H0 H1 locs1 → W p l e R s m args below meth c H1 locs1 cells slots Q (F0 m (pc + 3) ls rest)) : W p l e R s m args below meth c H locs cells slots Q (F0 m pc ls (v :: .ref a :: rest)) := by
  have hap := va_apart (own := own) hts hin ty0 hty hnm hK hc
  have hd := hty k hk
  obtain ⟨r, h1, cell, q1, q2, q3, q4⟩ := hP q0 _ he
  have hr : r = (C, T, N) := Option.some.inj (h1.symm.trans hc)
  subst hr
  obtain ⟨hS, hfc, kC, hkC, hkind⟩ := hK.1 ci _ hc
  obtain ⟨cf, kf, fi, f, hi, hsl⟩ := hS k hk
  have hlay := hts _ (hin _ (u_in_lay hk))
  unfold u_lay at hlay
  have hst := (u_facts hfc hkC (u_lays hts hin hk) hi).1
  have fin : ∀ H' : Heap, H'[a]? = some (cell.setSlot f.slot v) → H'.size = H.size → (∀ q, q ≠ a → H'[q]? = H[q]?) → W p l e R s m args below meth c H' (locs ++ [⟨a, f.slot⟩]) cells slots Q (F0 m (pc + 3) ls rest) := by
    intro H' e1 e2 e3
    rw [hsl] at e1 ⊢
    exact kk H' _ e2 (hP.set hD he ⟨_, hc, t_OB.to (V := updV (vp_V fs) k v) ⟨_, e1, q2, q3, t_set q4 hap hk v⟩ (fun j _ => vp_updV_set hl v j)⟩ e3) (hS0.put e2 e3 (hD.2 q0 _ he))
  rcases hfin with hfin | ⟨hne, hfin, hin2, hdecl⟩
  · rw [if_neg (by rw [hfin]; decide)] at hlay
    have h6 := u_store hfc hkC hkind hlay hi hd hn hfit
    cases nest with
    | true =>
      rw [if_pos rfl] at hlink
      exact va_WputK hexec hb (f := f) hown hlink hi hst (by rw [q2]; exact h6) q1 q3 (by rw [hsl]; exact k2_hasslot (q4 k hk)) rfl rfl hdg fin
    | false =>
      rw [if_neg (by decide)] at hlink
      exact W.putK hexec hb (f := f) ⟨hown, hlink, ⟨_, _, _, hi⟩, hst⟩ (by rw [q2]; exact h6) q1 q3 (by rw [hsl]; exact k2_hasslot (q4 k hk)) rfl rfl hdg fin
  · subst hne
    rw [if_neg (by decide)] at hlink
    rw [if_pos hfin] at hlay
    have hcf : m.cls = cf := by
      obtain ⟨_, _, c', _, _, _, -, -, hf', -, -, -, hown2, -⟩ := Cond.laysFinal_spec hlay
      have e1 : c' = cf := by have := hi.symm.trans hf'; simp at this; exact this.1.symm
      rw [hdecl] at hown2
      rw [← e1]; exact Option.some.inj (hown.symm.trans hown2)
    have h6 := u_fits hfc hkC hkind (Or.inr hlay) hi hd hn hfit
    exact W.putFinK hexec hb hown hlink hi hst hcf hin2 (by rw [q2]; exact h6) q1 q3 (by rw [hsl]; exact k2_hasslot (q4 k hk)) rfl rfl hdg fin
theorem zarr_eq {cA : ClassId} {n : Nat} {f : Nat → Int32} {j : Nat} {x : Int32} : (vp_cell cA (n, .inl f)).setSlot j (.int x) = vp_cell cA (n, .inl (upd f j x)) := by
  rw [vp_cell_i, vp_cell_i, arrV_store]
  congr 1
  funext q
  by_cases hq : q = j
  · subst hq; simp [updV, upd]
  · simp [updV, upd, hq]
end ZVA
section ZVW
variable {p : Program} {l : Launch} {e : Env} {R : Room} {s : State} {m : MethodId} {args : Array Value} {below : List Frame} {meth : Method} {c : Code} {H : Heap} {locs : List Loc} {cells slots : Nat} {Q : State → Prop}
variable {cc : ByteArray} {pc : Nat} {ls : Array Slot} {rest : List Value} {D : va_G} {b base : Nat} {ca : FieldType → ClassId} {N : Nat} {h : zH}
/-- what a store into an array leaves -/
theorem zW.stored (hw : zW D b base ca N h s H) (hS : va_S (fun q => base ≤ q) s.heap H locs) {a n : Nat} {ty : FieldType} {f : Nat → Int32} (ha : h a = .inl (ty, n, f)) {j k : Nat} {x : Int32} {H1 : Heap} (e1 : H1[base + a]? = some ((vp_cell (ca ty) (n, .inl f)).setSlot j (.int x))) (e2 : H1.size = H.size) (e3 : ∀ q : Nat, q ≠ base + a → H1[q]? = H[q]?) :
    zW D b base ca N (va_up h a (.inl (ty, n, upd f j x))) s H1 ∧ va_S (fun q => base ≤ q) s.heap H1 (locs ++ [⟨base + a, k⟩]) := by
  obtain ⟨g1, -⟩ := hw.arr ha
  refine ⟨hw.put (hw.arr_lt ha) (fun ty' n' f' he => ?_) e2 (hw.1.set (zrw_D b base ca N h) g1 ?_ e3), hS.put e2 e3 (Nat.le_add_right _ _)⟩
  · cases he; exact hw.2.2.2.2.2 a _ _ _ ha
  · show H1[base + a]? = some (vp_cell (ca ty) (n, .inl (upd f j x)))
    rw [e1, zarr_eq]
theorem ziast (hexec : p.tables.exec = Jvm.exec) (hb : c.code = cc) (hw : zW D b base ca N h s H) (hS : va_S (fun q => base ≤ q) s.heap H locs) {a n : Nat} {f : Nat → Int32} (ha : h a = .inl (.int, n, f)) {i x : Int32} (hin : ¬ (i < 0 ∨ n ≤ i.toNatClampNeg)) (hdg : decode cc pc = .ok (.iastore, 1))
    (kk : ∀ (H1 : Heap) (locs1 : List Loc), zW D b base ca N (va_up h a (.inl (.int, n, upd f i.toNatClampNeg x))) s H1 → va_S (fun q => base ≤ q) s.heap H1 locs1 → W p l e R s m args below meth c H1 locs1 cells slots Q (F0 m (pc + 1) ls rest)) : W p l e R s m args below meth c H locs cells slots Q (F0 m pc ls (.int x :: .int i :: .ref (base + a) :: rest)) := by
  obtain ⟨g1, g2⟩ := hw.arr ha
  refine W.iast hexec hb (hw.1 a _ g1) ((g2.2 0 _ rfl).1 n (fun j => .int (f j))) (fun q => by cases q) (by show ¬ (i < 0 ∨ (arrV _ _ _).slots.size ≤ _); rw [arrV_size]; exact hin) rfl rfl hdg fun H1 e1 e2 e3 => ?_
  obtain ⟨k1, k2⟩ := hw.stored hS ha (k := i.toNatClampNeg) e1 e2 e3
  exact kk H1 _ k1 k2
theorem zbast (hexec : p.tables.exec = Jvm.exec) (hb : c.code = cc) (hw : zW D b base ca N h s H) (hS : va_S (fun q => base ≤ q) s.heap H locs) {a n : Nat} {ty : FieldType} {f : Nat → Int32} (hty : ty = .byte ∨ ty = .boolean) (ha : h a = .inl (ty, n, f)) {i x : Int32} (hin : ¬ (i < 0 ∨ n ≤ i.toNatClampNeg)) (hdg : decode cc pc = .ok (.bastore, 1))
    (kk : ∀ (H1 : Heap) (locs1 : List Loc), zW D b base ca N (va_up h a (.inl (ty, n, upd f i.toNatClampNeg (vp_nar ty x)))) s H1 → va_S (fun q => base ≤ q) s.heap H1 locs1 → W p l e R s m args below meth c H1 locs1 cells slots Q (F0 m (pc + 1) ls rest)) : W p l e R s m args below meth c H locs cells slots Q (F0 m pc ls (.int x :: .int i :: .ref (base + a) :: rest)) := by
  obtain ⟨g1, g2⟩ := hw.arr ha
  rcases hty with rfl | rfl
  · refine W.bast hexec hb (hw.1 a _ g1) ((g2.2 0 _ rfl).1 n (fun j => .int (f j))) (fun q => by cases q) (by show ¬ (i < 0 ∨ (arrV _ _ _).slots.size ≤ _); rw [arrV_size]; exact hin) rfl rfl hdg fun H1 e1 e2 e3 => ?_
    obtain ⟨k1, k2⟩ := hw.stored hS ha (x := vp_nar .byte x) (k := i.toNatClampNeg) e1 e2 e3
    exact kk H1 _ k1 k2
  · refine W.zast hexec hb (hw.1 a _ g1) ((g2.2 0 _ rfl).1 n (fun j => .int (f j))) (fun q => by cases q) (by show ¬ (i < 0 ∨ (arrV _ _ _).slots.size ≤ _); rw [arrV_size]; exact hin) rfl rfl hdg fun H1 e1 e2 e3 => ?_
    obtain ⟨k1, k2⟩ := hw.stored hS ha (x := vp_nar .boolean x) (k := i.toNatClampNeg) e1 e2 e3
    exact kk H1 _ k1 k2
theorem zpushed (hw : zW D b base ca N h s H) (hS : va_S (fun q => base ≤ q) s.heap H locs) {cl : zC} (hc : ∀ ty n f, cl = .inl (ty, n, f) → ty = FieldType.int ∨ ty = .byte ∨ ty = .boolean) {H1 : Heap} (e1 : va_at D zcls (H.size, zce b base ca cl) H1) (e2 : H1.size = H.size + 1) (e3 : ∀ q : Nat, q < H.size → H1[q]? = H[q]?) :
    zW D b base ca (N + 1) (va_up h N cl) s H1 ∧ va_S (fun q => base ≤ q) s.heap H1 locs := by
  have hk : ∀ (k : Nat) (x : Nat × va_E), (zrw b base ca N h)[k]? = some x → H1[x.1]? = H[x.1]? := fun k x hx => e3 x.1 ((hw.1 k x hx).lt)
  refine ⟨hw.push hc e2 ((hw.1.kept hk).app (fun k x hx => ?_)), ⟨Nat.le_trans hS.1 (by omega), fun x h1 h2 => (e3 x (Nat.lt_of_lt_of_le h1 hS.1)).trans (hS.2.1 x h1 h2), hS.2.2⟩⟩
  have hz : k < 1 := (List.getElem?_eq_some_iff.mp hx).1
  rw [show k = 0 by omega] at hx
  cases hx
  rw [← hw.2.2.2.1]
  exact e1
theorem znewa (hexec : p.tables.exec = Jvm.exec) (hb : c.code = cc) {atype : ArrayType} (hty : newarray.typeOf atype = FieldType.int ∨ newarray.typeOf atype = .byte ∨ newarray.typeOf atype = .boolean) (harr : (Cond.arrayClass (newarray.typeOf atype)).before args s = true) (hw : zW D b base ca N h s H) (hS : va_S (fun q => base ≤ q) s.heap H locs)
    {n : Int32} (hn : ¬ n < 0) (hsm : n.toNatClampNeg ≤ 1000) (hcells : cells + 1 ≤ R.cells) (hslots : slots + n.toNatClampNeg ≤ R.slots) (hdg : decode cc pc = .ok (.newarray atype, 2))
    (kk : ∀ (H1 : Heap), zW D b base ca (N + 1) (va_up h N (.inl (newarray.typeOf atype, n.toNatClampNeg, fun _ => 0))) s H1 → va_S (fun q => base ≤ q) s.heap H1 locs → W p l e R s m args below meth c H1 locs (cells + 1) (slots + n.toNatClampNeg) Q (F0 m (pc + 2) ls (.ref (base + N) :: rest))) : W p l e R s m args below meth c H locs cells slots Q (F0 m pc ls (.int n :: rest)) := by
  have hbytes : n.toNatClampNeg * componentBytes (newarray.typeOf atype) ≤ 536870912 := by
    have h8 : componentBytes (newarray.typeOf atype) ≤ 8 := by rcases hty with h | h | h <;> rw [h] <;> decide
    have := Nat.mul_le_mul hsm h8
    omega
  refine va_newaK hexec hb harr rfl hdg rfl hn rfl hbytes hcells hslots rfl fun H1 cA e1 z1 o1 hAr hNm => ?_
  have hca : ca (newarray.typeOf atype) = cA := by
    have h2 := (hw.2.2.1 _ hty).2
    have h3 : s.vm.findClass ("[" ++ (newarray.typeOf atype).toString) = some (ca (newarray.typeOf atype)) := by
      rcases hty with h | h | h <;> rw [h] at h2 ⊢ <;> exact h2
    exact Option.some.inj (h3.symm.trans hNm)
  have hat : va_at D zcls (H.size, zce b base ca (.inl (newarray.typeOf atype, n.toNatClampNeg, fun _ => 0))) H1 := by
    show H1[H.size]? = some (vp_cell (ca (newarray.typeOf atype)) (n.toNatClampNeg, .inl fun _ => 0))
    rw [e1, hca, vp_cell_i]
    congr 2
    rcases hty with h | h | h <;> rw [h] <;> rfl
  obtain ⟨k1, k2⟩ := zpushed hw hS (fun ty n f he => by cases he; exact hty) hat z1 o1
  rw [hw.2.2.2.1]
  exact kk H1 k1 k2
theorem znew (hexec : p.tables.exec = Jvm.exec) (hb : c.code = cc) {own C : String} {T : u_T} {M ci index : Nat} {Ts : List Cond} (hts : ∀ w ∈ Ts, w.before args s = true) (hin : ∀ w ∈ u_ws C T M, w ∈ Ts) (ty : Nat → FieldType) (hty : ∀ k, k < M → parseFieldDescriptor (T k).2.2.1 = some (ty k)) (hown : s.vm.findClass own = some m.cls) (hcl : (Cond.classLink own index C).before args s = true) (hinst : (Cond.instantiable C M).before args s = true) (hini : (Cond.initialized C).before args s = true)
    (hw : zW D b base ca N h s H) (hS : va_S (fun q => base ≤ q) s.heap H locs) (hc : zcls[ci]? = some (C, T, M)) {fs : List Value} (hfs : ∀ j, j < M → defaultValue (ty j) = vp_V (fs.map (zrv b base)) j) (hcells : cells + 1 ≤ R.cells) (hslots : slots + M ≤ R.slots) (hdg : decode cc pc = .ok (.new index, 3))
    (kk : ∀ (H1 : Heap), zW D b base ca (N + 1) (va_up h N (.inr (ci, fs))) s H1 → va_S (fun q => base ≤ q) s.heap H1 locs → W p l e R s m args below meth c H1 locs (cells + 1) (slots + M) Q (F0 m (pc + 3) ls (.ref (base + N) :: rest))) : W p l e R s m args below meth c H locs cells slots Q (F0 m pc ls rest) := by
  have hKn := hw.2.1.1 ci _ hc
  refine W.newcK hexec hb hown hcl hinst hini rfl hdg hcells hslots hKn.2.1 rfl fun H1 kC hkC e1 z1 o1 => ?_
  have hat : va_at D zcls (H.size, zce b base ca (.inr (ci, fs))) H1 := ⟨_, hc, (u_born ty hts hin hKn hkC e1 hty).to hfs⟩
  obtain ⟨k1, k2⟩ := zpushed hw hS (fun ty n f he => by cases he) hat z1 o1
  rw [hw.2.2.2.1]
  exact kk H1 k1 k2
end ZVW
