-- the interpreter's steps are the machine's
/-- what holds of the running method -/
def zX (p : Program) (s : State) (m : MethodId) (args : Array Value) (meth : Method) (cd : Code) (b base : Nat) (X : Nat × (Nat → Int32)) (y : Nat) : Prop :=
  p.tables.exec = Jvm.exec ∧ cd.code = mB y ∧ cd.maxLocals = mL y ∧ meth.sig.returnType = mR y ∧ meth.locks = false ∧ s.vm.findClass (zcn.getD (mC y) "") = some m.cls ∧ zT s ∧ (∀ ty, ty = FieldType.int ∨ ty = .byte ∨ ty = .boolean → (Cond.arrayClass ty).before args s = true) ∧ ((mN y).name = "<init>" → meth.name = "<init>") ∧ (y = 0 → va_X b X.1 X.2 s s.heap ∧ b < s.heap.size ∧ b < base)
/-- from this frame the machine comes to Q, over every heap that holds the interpreter's -/
def zG (p : Program) (l : Launch) (e : Env) (s : State) (m : MethodId) (args : Array Value) (below : List Frame) (meth : Method) (cd : Code) (Q : State → Prop) (D : va_G) (b base : Nat) (ca : FieldType → ClassId) (y pc : Nat) (L : zL) (st : List Value) (w : zN) (h : zH) : Prop :=
  ∀ (ls : Array Slot) (H : Heap) (locs : List Loc), lv_has ls (mL y) (zlv b base L) → zlt y L → zW D b base ca w.1 h s H → va_S (fun q => base ≤ q) s.heap H locs → w.2.1 ≤ (mRm y).cells → w.2.2 ≤ (mRm y).slots →
    W p l e (mRm y) s m args below meth cd H locs w.2.1 w.2.2 Q (F0 m pc ls (st.map (zrv b base)))
theorem zif_some {c : Bool} {a : zA} {r : zF ⊕ ((zF × (zR → zF)) ⊕ zR)} (h : zif c a = some r) : c = true ∧ a = some r := by
  unfold zif at h
  split at h
  · next hc => exact ⟨hc, h⟩
  · cases h
theorem zgo_some {y pc : Nat} {L : zL} {st : List Value} {w : zN} {h : zH} {r : zF ⊕ ((zF × (zR → zF)) ⊕ zR)} (e : zgo y pc L st w h = some r) : r = .inl (y, pc, L, st, w, h) := (Option.some.inj e).symm
theorem zjmp_some {pc : Nat} {off : Int} {f : Nat → zA} {r : zF ⊕ ((zF × (zR → zF)) ⊕ zR)} (h : zjmp pc off f = some r) : ∃ t : Nat, (pc : Int) + off = (t : Int) ∧ f t = some r := by
  unfold zjmp at h
  split at h
  · next hc => exact ⟨((pc : Int) + off).toNat, (Int.toNat_of_nonneg hc).symm, h⟩
  · cases h
section ZSS
variable {p : Program} {l : Launch} {e : Env} {s : State} {m : MethodId} {args : Array Value} {below : List Frame} {meth : Method} {cd : Code} {Q : State → Prop} {D : va_G} {b base : Nat} {ca : FieldType → ClassId} {X : Nat × (Nat → Int32)} {y pc len : Nat} {L : zL} {st : List Value} {w : zN} {h : zH} {r : zF ⊕ ((zF × (zR → zF)) ⊕ zR)}
/-- the step's own claim: it goes on in the same method, and what is good there is good here -/
def zOK (p : Program) (l : Launch) (e : Env) (s : State) (m : MethodId) (args : Array Value) (below : List Frame) (meth : Method) (cd : Code) (Q : State → Prop) (D : va_G) (b base : Nat) (ca : FieldType → ClassId) (y pc : Nat) (L : zL) (st : List Value) (w : zN) (h : zH) (r : zF ⊕ ((zF × (zR → zF)) ⊕ zR)) : Prop :=
  ∃ (pc' : Nat) (L' : zL) (st' : List Value) (w' : zN) (h' : zH), r = .inl (y, pc', L', st', w', h') ∧ (zG p l e s m args below meth cd Q D b base ca y pc' L' st' w' h' → zG p l e s m args below meth cd Q D b base ca y pc L st w h)
theorem zs_push {n : Nat} {v : Value} (hs : zgo y (pc + n) L (v :: st) w h = some r) (row : ∀ {H : Heap} {locs : List Loc} {ls : Array Slot} {rest : List Value}, W p l e (mRm y) s m args below meth cd H locs w.2.1 w.2.2 Q (F0 m (pc + n) ls (zrv b base v :: rest)) → W p l e (mRm y) s m args below meth cd H locs w.2.1 w.2.2 Q (F0 m pc ls rest)) : zOK p l e s m args below meth cd Q D b base ca y pc L st w h r := by
  rw [zgo_some hs]
  exact ⟨_, _, _, _, _, rfl, fun k ls H locs h1 h2 h3 h4 h5 h6 => row (k ls H locs h1 h2 h3 h4 h5 h6)⟩
theorem zs_i2 {f : Int32 → Int32 → Int32} (hs : zi2 y pc L st w h f = some r) (row : ∀ {H : Heap} {locs : List Loc} {ls : Array Slot} {rest : List Value} {a c : Int32}, W p l e (mRm y) s m args below meth cd H locs w.2.1 w.2.2 Q (F0 m (pc + 1) ls (.int (f a c) :: rest)) → W p l e (mRm y) s m args below meth cd H locs w.2.1 w.2.2 Q (F0 m pc ls (.int c :: .int a :: rest))) : zOK p l e s m args below meth cd Q D b base ca y pc L st w h r := by
  unfold zi2 at hs
  split at hs
  · rw [zgo_some hs]
    exact ⟨_, _, _, _, _, rfl, fun k ls H locs h1 h2 h3 h4 h5 h6 => row (k ls H locs h1 h2 h3 h4 h5 h6)⟩
  · cases hs
theorem zs_l2 {f : Int64 → Int64 → Int64} (hs : zl2 y pc L st w h f = some r) (row : ∀ {H : Heap} {locs : List Loc} {ls : Array Slot} {rest : List Value} {a c : Int64}, W p l e (mRm y) s m args below meth cd H locs w.2.1 w.2.2 Q (F0 m (pc + 1) ls (.long (f a c) :: rest)) → W p l e (mRm y) s m args below meth cd H locs w.2.1 w.2.2 Q (F0 m pc ls (.long c :: .long a :: rest))) : zOK p l e s m args below meth cd Q D b base ca y pc L st w h r := by
  unfold zl2 at hs
  split at hs
  · rw [zgo_some hs]
    exact ⟨_, _, _, _, _, rfl, fun k ls H locs h1 h2 h3 h4 h5 h6 => row (k ls H locs h1 h2 h3 h4 h5 h6)⟩
  · cases hs
/-- a load of a local -/
theorem zs_ld {n i : Nat} {v : Value} (hv : L[i]? = some (some v)) (hs : zgo y (pc + n) L (v :: st) w h = some r) (row : ∀ {H : Heap} {locs : List Loc} {ls : Array Slot} {rest : List Value}, ls[i]? = some (.val (zrv b base v)) → W p l e (mRm y) s m args below meth cd H locs w.2.1 w.2.2 Q (F0 m (pc + n) ls (zrv b base v :: rest)) → W p l e (mRm y) s m args below meth cd H locs w.2.1 w.2.2 Q (F0 m pc ls rest)) : zOK p l e s m args below meth cd Q D b base ca y pc L st w h r := by
  rw [zgo_some hs]
  exact ⟨_, _, _, _, _, rfl, fun k ls H locs h1 h2 h3 h4 h5 h6 => row (zlv_get h1 hv) (k ls H locs h1 h2 h3 h4 h5 h6)⟩
/-- a store into a local, of one place -/
theorem zs_st {n i : Nat} {v : Value} {st0 : List Value} (hc : v.category = 1) (hi : zst y i = true) (hs : zgo y (pc + n) (L.set i (some v)) st0 w h = some r) (hst : st = v :: st0) (row : ∀ {H : Heap} {locs : List Loc} {ls : Array Slot} {rest : List Value} {lv' : List (Nat × Value)}, lv_has ls (mL y) (zlv b base L) → i < mL y → (i, zrv b base v) :: (zlv b base L).filter (fun q => !(q.1 == i) && !(q.1 + 1 == i && q.2.category == 2)) = lv' → (∀ ls' : Array Slot, lv_has ls' (mL y) lv' → W p l e (mRm y) s m args below meth cd H locs w.2.1 w.2.2 Q (F0 m (pc + n) ls' rest)) → W p l e (mRm y) s m args below meth cd H locs w.2.1 w.2.2 Q (F0 m pc ls (zrv b base v :: rest))) : zOK p l e s m args below meth cd Q D b base ca y pc L st w h r := by
  subst hst
  rw [zgo_some hs]
  refine ⟨_, _, _, _, _, rfl, fun k ls H locs h1 h2 h3 h4 h5 h6 => row h1 (zst_spec hi).1 rfl (fun ls' hl' => ?_)⟩
  obtain ⟨g1, g2⟩ := zset1 (b := b) (base := base) (v := v) hc h2 hi
  exact k ls' H locs (zlv_of hl' g1) g2 h3 h4 h5 h6
theorem zs_br {off : Int} {c : Prop} [Decidable c] {st0 : List Value} (hs : zbr y pc L st0 w h c off = some r) (row : ∀ {H : Heap} {locs : List Loc} {ls : Array Slot} {tgt : Nat}, (pc : Int) + off = (tgt : Int) → (c → W p l e (mRm y) s m args below meth cd H locs w.2.1 w.2.2 Q (F0 m tgt ls (st0.map (zrv b base)))) → (¬ c → W p l e (mRm y) s m args below meth cd H locs w.2.1 w.2.2 Q (F0 m (pc + 3) ls (st0.map (zrv b base)))) → W p l e (mRm y) s m args below meth cd H locs w.2.1 w.2.2 Q (F0 m pc ls (st.map (zrv b base)))) : zOK p l e s m args below meth cd Q D b base ca y pc L st w h r := by
  unfold zbr at hs
  obtain ⟨t, ht, hs⟩ := zjmp_some hs
  split at hs
  · next hc =>
    rw [zgo_some hs]
    exact ⟨_, _, _, _, _, rfl, fun k ls H locs h1 h2 h3 h4 h5 h6 => row ht (fun _ => k ls H locs h1 h2 h3 h4 h5 h6) (fun hn => absurd hc hn)⟩
  · next hc =>
    rw [zgo_some hs]
    exact ⟨_, _, _, _, _, rfl, fun k ls H locs h1 h2 h3 h4 h5 h6 => row ht (fun hn => absurd hn hc) (fun _ => k ls H locs h1 h2 h3 h4 h5 h6)⟩
end ZSS
theorem zki_ok {c i : Nat} {v : Int32 × Nat} (hv : zki? c i = some v) : Cond.constant (zcn.getD c "") i v.1 ∈ lw_tbl ∧ ztw (Cond.constant (zcn.getD c "") i v.1) = true := by
  have h := List.all_eq_true.mp zki_all _ (zlk _ _ _ hv)
  simp only [Bool.and_eq_true, decide_eq_true_eq] at h
  exact ⟨List.mem_of_getElem? h.1, h.2⟩
theorem zkl_ok {c i : Nat} {v : Int64 × Nat} (hv : zkl? c i = some v) : Cond.constantLong (zcn.getD c "") i v.1 ∈ lw_tbl ∧ ztw (Cond.constantLong (zcn.getD c "") i v.1) = true := by
  have h := List.all_eq_true.mp zkl_all _ (zlk _ _ _ hv)
  simp only [Bool.and_eq_true, decide_eq_true_eq] at h
  exact ⟨List.mem_of_getElem? h.1, h.2⟩
theorem zol_ok {c i v : Nat} (hv : zol? c i = some v) : Cond.methodLink (zcn.getD c "") i objectInit ∈ lw_tbl ∧ ztw (Cond.methodLink (zcn.getD c "") i objectInit) = true := by
  have h := List.all_eq_true.mp zol_all _ (zlk _ _ _ hv)
  simp only [Bool.and_eq_true, decide_eq_true_eq] at h
  exact ⟨List.mem_of_getElem? h.1, h.2⟩
theorem zcl_ok {c i : Nat} {v : Nat × Nat} (hv : zcl? c i = some v) : Cond.classLink (zcn.getD c "") i (zcn.getD v.1 "") ∈ lw_tbl ∧ ztw (Cond.classLink (zcn.getD c "") i (zcn.getD v.1 "")) = true ∧ v.1 < 11 := by
  have h := List.all_eq_true.mp zcl_all _ (zlk _ _ _ hv)
  simp only [Bool.and_eq_true, decide_eq_true_eq] at h
  exact ⟨List.mem_of_getElem? h.1.1, h.1.2, h.2⟩
theorem zfl_ok {c i : Nat} {f : Nat × Nat × Bool × Nat} (hv : zfl? c i = some f) : zfw c i f ∈ lw_tbl ∧ ztw (zfw c i f) = true ∧ f.1 < 11 ∧ f.2.1 < zTn f.1 := by
  have h := List.all_eq_true.mp zfl_all _ (zlk _ _ _ hv)
  simp only [Bool.and_eq_true, decide_eq_true_eq] at h
  exact ⟨List.mem_of_getElem? h.1.1.1, h.1.1.2, h.1.2, h.2⟩
theorem zint_some {L : zL} {i : Nat} {v : Value} (h : zint L i = some v) : ∃ x, v = .int x ∧ L[i]? = some (some (.int x)) := by
  unfold zint at h
  split at h
  · next x hx => cases h; exact ⟨x, rfl, hx⟩
  · cases h
theorem zlong_some {L : zL} {i : Nat} {v : Value} (h : zlong L i = some v) : ∃ x, v = .long x ∧ L[i]? = some (some (.long x)) := by
  unfold zlong at h
  split at h
  · next x hx => cases h; exact ⟨x, rfl, hx⟩
  · cases h
theorem zref_some {L : zL} {i : Nat} {v : Value} (h : zref L i = some v) (b base : Nat) : (∃ a, zrv b base v = .ref a) ∧ L[i]? = some (some v) := by
  unfold zref at h
  split at h
  · next x hx => cases h; exact ⟨⟨_, rfl⟩, hx⟩
  · next x hx => cases h; exact ⟨⟨_, rfl⟩, hx⟩
  · cases h
theorem zld_some {y pc n : Nat} {L : zL} {st : List Value} {w : zN} {h : zH} {v : Option Value} {r : zF ⊕ ((zF × (zR → zF)) ⊕ zR)} (hs : zld y pc n L st w h v = some r) : ∃ v', v = some v' ∧ zgo y (pc + n) L (v' :: st) w h = some r := by
  unfold zld at hs
  split at hs
  · exact ⟨_, rfl, hs⟩
  · cases hs
/-- all words that hold -/
def zTs : List Cond := lw_tbl.filter ztw
theorem zTs_in {w : Cond} (h : w ∈ lw_tbl ∧ ztw w = true) : w ∈ zTs := List.mem_filter.mpr h
theorem zT.all {s : State} (hT : zT s) (args : Array Value) : ∀ w ∈ zTs, w.before args s = true := fun w hw => hT.use (List.mem_filter.mp hw).1 (List.mem_filter.mp hw).2 args
theorem zfit_spec {ty : FieldType} {v : Value} (h : zfit ty v = true) (b base : Nat) : narrow ty (zrv b base v) = zrv b base v ∧ fits ty (zrv b base v) = true := by
  unfold zfit at h
  split at h
  · exact ⟨rfl, rfl⟩
  · exact ⟨rfl, rfl⟩
  · next x =>
    simp only [Bool.or_eq_true, beq_iff_eq] at h
    rcases h with rfl | rfl <;> exact ⟨rfl, rfl⟩
  · exact ⟨rfl, rfl⟩
  · exact ⟨rfl, rfl⟩
  · cases h
section ZSG
variable {p : Program} {l : Launch} {e : Env} {s : State} {m : MethodId} {args : Array Value} {below : List Frame} {meth : Method} {cd : Code} {Q : State → Prop} {D : va_G} {b base : Nat} {ca : FieldType → ClassId} {X : Nat × (Nat → Int32)} {y pc len : Nat} {L : zL} {st : List Value} {w : zN} {h : zH} {r : zF ⊕ ((zF × (zR → zF)) ⊕ zR)}
theorem zs_getfield (C : zX p s m args meth cd b base X y) {k : Nat} (hd : decode (mB y) pc = .ok (.getfield k, 3)) {f : Nat × Nat × Bool × Nat} (hf : zfl? (mC y) k = some f) {a : Nat} {st0 : List Value} {fs : List Value} {v : Value} (ha : h a = .inr (f.1, fs)) (hv : fs[f.2.1]? = some v) (hst : st = .ref a :: st0) (hs : zgo y (pc + 3) L (v :: st0) w h = some r) : zOK p l e s m args below meth cd Q D b base ca y pc L st w h r := by
  subst hst
  obtain ⟨hx, hb, hml, hr, hlk, hown, hT, harr, hnm, h0⟩ := C
  obtain ⟨g1, g2, g3, g4⟩ := zfl_ok hf
  obtain ⟨c1, c2, c3, c4, c5, c6, c7, c8, c9⟩ := zcok f.1 g3
  rw [zgo_some hs]
  refine ⟨_, _, _, _, _, rfl, fun kk ls H locs h1 h2 h3 h4 h5 h6 => ?_⟩
  have hv' : (fs.map (zrv b base))[f.2.1]? = some (zrv b base v) := by rw [List.getElem?_map, hv]; rfl
  have hlink := hT.use g1 g2 args
  unfold zfw at hlink
  split at hlink
  · exact va_getN (D := D) (tys := []) hx hb (hT.all args) (fun w hw => zTs_in (c2 w hw)) hown h3.2.1 h3.1 a (h3.obj ha (by omega)) c1 f.2.1 g4 hlink (fun _ h9 => h9) hv' hd (kk ls H locs h1 h2 h3 h4 h5 h6)
  · exact va_get (D := D) (tys := []) hx hb (hT.all args) (fun w hw => zTs_in (c2 w hw)) hown h3.2.1 h3.1 a (h3.obj ha (by omega)) c1 f.2.1 g4 hlink (fun _ h9 => h9) hv' hd (kk ls H locs h1 h2 h3 h4 h5 h6)
theorem zs_putfield (C : zX p s m args meth cd b base X y) {k : Nat} (hd : decode (mB y) pc = .ok (.putfield k, 3)) {f : Nat × Nat × Bool × Nat} (hf : zfl? (mC y) k = some f) {a : Nat} {st0 : List Value} {fs : List Value} {v : Value} (ha : h a = .inr (f.1, fs)) (hl : f.2.1 < fs.length) (hfit : zfit (zty f.1 f.2.1) v = true) (hfin : (zTT f.1 f.2.1).2.2.2 = false ∨ (f.2.2.1 = false ∧ (zTT f.1 f.2.1).2.2.2 = true ∧ (mN y).name = "<init>" ∧ (zTT f.1 f.2.1).1 = zcn.getD (mC y) "")) (hst : st = v :: .ref a :: st0) (hs : zgo y (pc + 3) L st0 w (va_up h a (.inr (f.1, fs.set f.2.1 v))) = some r) : zOK p l e s m args below meth cd Q D b base ca y pc L st w h r := by
  subst hst
  obtain ⟨hx, hb, hml, hr, hlk, hown, hT, harr, hnm, h0⟩ := C
  obtain ⟨g1, g2, g3, g4⟩ := zfl_ok hf
  obtain ⟨c1, c2, c3, c4, c5, c6, c7, c8, c9⟩ := zcok f.1 g3
  rw [zgo_some hs]
  refine ⟨_, _, _, _, _, rfl, fun kk ls H locs h1 h2 h3 h4 h5 h6 => ?_⟩
  have hlink := hT.use g1 g2 args
  unfold zfw at hlink
  obtain ⟨n1, n2⟩ := zfit_spec hfit b base
  refine zput (D := D) (tys := []) f.2.2.1 hx hb (hT.all args) (fun w hw => zTs_in (c2 w hw)) (zty f.1) c3 c4 hown h3.2.1 h3.1 (zrw_D b base ca w.1 h) h4 a (h3.obj ha (by omega)) c1 f.2.1 g4 hlink ?_ n1 n2 (by rw [List.length_map]; exact hl) hd (fun H1 locs1 z1 z2 z3 => ?_)
  · rcases hfin with q | ⟨q1, q2, q3, q4⟩
    · exact Or.inl q
    · exact Or.inr ⟨q1, q2, hnm q3, q4⟩
  · refine kk ls H1 locs1 h1 h2 (h3.put (h3.obj_lt ha (by omega)) (fun ty n f' he => by cases he) z1 ?_) z3 h5 h6
    rw [← List.map_set] at z2
    exact z2
theorem zs_iaload (C : zX p s m args meth cd b base X y) (hd : decode (mB y) pc = .ok (.iaload, 1)) {a n : Nat} {st0 : List Value} {f : Nat → Int32} {i : Int32} (ha : h a = .inl (.int, n, f)) (hin : ¬ (i < 0 ∨ n ≤ i.toNatClampNeg)) (hst : st = .int i :: .ref a :: st0) (hs : zgo y (pc + 1) L (.int (f i.toNatClampNeg) :: st0) w h = some r) : zOK p l e s m args below meth cd Q D b base ca y pc L st w h r := by
  subst hst
  obtain ⟨hx, hb, -⟩ := C
  rw [zgo_some hs]
  refine ⟨_, _, _, _, _, rfl, fun kk ls H locs h1 h2 h3 h4 h5 h6 => ?_⟩
  obtain ⟨g1, g2⟩ := h3.arr ha
  exact va_iald hx hb g2 h3.1 a 0 g1 rfl hin hd (kk ls H locs h1 h2 h3 h4 h5 h6)
theorem zs_baload (C : zX p s m args meth cd b base X y) (hd : decode (mB y) pc = .ok (.baload, 1)) {a n : Nat} {st0 : List Value} {ty : FieldType} (hty : ty = .byte ∨ ty = .boolean) {f : Nat → Int32} {i : Int32} (ha : h a = .inl (ty, n, f)) (hin : ¬ (i < 0 ∨ n ≤ i.toNatClampNeg)) (hst : st = .int i :: .ref a :: st0) (hs : zgo y (pc + 1) L (.int (f i.toNatClampNeg) :: st0) w h = some r) : zOK p l e s m args below meth cd Q D b base ca y pc L st w h r := by
  subst hst
  obtain ⟨hx, hb, -⟩ := C
  rw [zgo_some hs]
  refine ⟨_, _, _, _, _, rfl, fun kk ls H locs h1 h2 h3 h4 h5 h6 => ?_⟩
  obtain ⟨g1, g2⟩ := h3.arr ha
  rcases hty with rfl | rfl
  · exact va_bald hx hb g2 h3.1 a 0 g1 rfl hin hd (kk ls H locs h1 h2 h3 h4 h5 h6)
  · exact va_zald hx hb g2 h3.1 a 0 g1 rfl hin hd (kk ls H locs h1 h2 h3 h4 h5 h6)
theorem zs_alen (C : zX p s m args meth cd b base X y) (hd : decode (mB y) pc = .ok (.arraylength, 1)) {a n : Nat} {st0 : List Value} {ty : FieldType} {f : Nat → Int32} (ha : h a = .inl (ty, n, f)) (hst : st = .ref a :: st0) (hs : zgo y (pc + 1) L (.int (Int32.ofNat n) :: st0) w h = some r) : zOK p l e s m args below meth cd Q D b base ca y pc L st w h r := by
  subst hst
  obtain ⟨hx, hb, -⟩ := C
  rw [zgo_some hs]
  refine ⟨_, _, _, _, _, rfl, fun kk ls H locs h1 h2 h3 h4 h5 h6 => ?_⟩
  obtain ⟨g1, g2⟩ := h3.arr ha
  exact va_alen hx hb g2 h3.1 a 0 g1 rfl rfl hd (kk ls H locs h1 h2 h3 h4 h5 h6)
theorem zs_iastore (C : zX p s m args meth cd b base X y) (hd : decode (mB y) pc = .ok (.iastore, 1)) {a n : Nat} {st0 : List Value} {f : Nat → Int32} {i x : Int32} (ha : h a = .inl (.int, n, f)) (hin : ¬ (i < 0 ∨ n ≤ i.toNatClampNeg)) (hst : st = .int x :: .int i :: .ref a :: st0) (hs : zgo y (pc + 1) L st0 w (va_up h a (.inl (.int, n, upd f i.toNatClampNeg x))) = some r) : zOK p l e s m args below meth cd Q D b base ca y pc L st w h r := by
  subst hst
  obtain ⟨hx, hb, -⟩ := C
  rw [zgo_some hs]
  exact ⟨_, _, _, _, _, rfl, fun kk ls H locs h1 h2 h3 h4 h5 h6 => ziast hx hb h3 h4 ha hin hd (fun H1 locs1 z1 z2 => kk ls H1 locs1 h1 h2 z1 z2 h5 h6)⟩
theorem zs_bastore (C : zX p s m args meth cd b base X y) (hd : decode (mB y) pc = .ok (.bastore, 1)) {a n : Nat} {st0 : List Value} {ty : FieldType} (hty : ty = .byte ∨ ty = .boolean) {f : Nat → Int32} {i x : Int32} (ha : h a = .inl (ty, n, f)) (hin : ¬ (i < 0 ∨ n ≤ i.toNatClampNeg)) (hst : st = .int x :: .int i :: .ref a :: st0) (hs : zgo y (pc + 1) L st0 w (va_up h a (.inl (ty, n, upd f i.toNatClampNeg (vp_nar ty x)))) = some r) : zOK p l e s m args below meth cd Q D b base ca y pc L st w h r := by
  subst hst
  obtain ⟨hx, hb, -⟩ := C
  rw [zgo_some hs]
  exact ⟨_, _, _, _, _, rfl, fun kk ls H locs h1 h2 h3 h4 h5 h6 => zbast hx hb h3 h4 hty ha hin hd (fun H1 locs1 z1 z2 => kk ls H1 locs1 h1 h2 z1 z2 h5 h6)⟩
theorem zs_new (C : zX p s m args meth cd b base X y) {k : Nat} (hd : decode (mB y) pc = .ok (.new k, 3)) {c : Nat × Nat} (hc : zcl? (mC y) k = some c) (hcs : w.2.1 + 1 ≤ (mRm y).cells) (hss : w.2.2 + (zdf c.1).length ≤ (mRm y).slots) (hs : zgo y (pc + 3) L (.ref w.1 :: st) (w.1 + 1, w.2.1 + 1, w.2.2 + (zdf c.1).length) (va_up h w.1 (.inr (c.1, zdf c.1))) = some r) : zOK p l e s m args below meth cd Q D b base ca y pc L st w h r := by
  obtain ⟨hx, hb, hml, hr, hlk, hown, hT, harr, hnm, h0⟩ := C
  obtain ⟨g1, g2, g3⟩ := zcl_ok hc
  obtain ⟨c1, c2, c3, c4, c5, c6, c7, c8, c9⟩ := zcok c.1 g3
  rw [zgo_some hs]
  refine ⟨_, _, _, _, _, rfl, fun kk ls H locs h1 h2 h3 h4 h5 h6 => ?_⟩
  refine znew (M := zTn c.1) (ci := c.1) (fs := zdf c.1) hx hb (hT.all args) (fun w hw => zTs_in (c2 w hw)) (zty c.1) c3 hown (hT.use g1 g2 args) (hT.use c8 rfl args) (hT.use c9 rfl args) h3 h4 c1 (fun j hj => ?_) hcs (by rw [← c5]; exact hss) hd (fun H1 z1 z2 => ?_)
  · have e1 := c6 j hj
    unfold vp_V
    rw [List.getD_eq_getElem?_getD, List.getElem?_map, ← e1]
    exact (c7 j hj b base).symm
  · have := kk ls H1 locs h1 h2 z1 z2 hcs hss
    rw [c5] at this
    exact this
theorem zs_newarray (C : zX p s m args meth cd b base X y) {t : ArrayType} (hd : decode (mB y) pc = .ok (.newarray t, 2)) {n : Int32} {st0 : List Value} (hty : newarray.typeOf t = FieldType.int ∨ newarray.typeOf t = .byte ∨ newarray.typeOf t = .boolean) (hn : ¬ n < 0) (hsm : n.toNatClampNeg ≤ 1000) (hcs : w.2.1 + 1 ≤ (mRm y).cells) (hss : w.2.2 + n.toNatClampNeg ≤ (mRm y).slots) (hst : st = .int n :: st0) (hs : zgo y (pc + 2) L (.ref w.1 :: st0) (w.1 + 1, w.2.1 + 1, w.2.2 + n.toNatClampNeg) (va_up h w.1 (.inl (newarray.typeOf t, n.toNatClampNeg, fun _ => 0))) = some r) : zOK p l e s m args below meth cd Q D b base ca y pc L st w h r := by
  subst hst
  obtain ⟨hx, hb, hml, hr, hlk, hown, hT, harr, hnm, h0⟩ := C
  rw [zgo_some hs]
  exact ⟨_, _, _, _, _, rfl, fun kk ls H locs h1 h2 h3 h4 h5 h6 => znewa hx hb hty (harr _ hty) h3 h4 hn hsm hcs hss hd (fun H1 z1 z2 => kk ls H1 locs h1 h2 z1 z2 hcs hss)⟩
theorem zs_objinit (C : zX p s m args meth cd b base X y) {k : Nat} (hd : decode (mB y) pc = .ok (.invokespecial k, 3)) {q a : Nat} (hq : zol? (mC y) k = some q) {st0 : List Value} (hfr : 1 ≤ (mRm y).frames) (hlo : zcw st0 + 12 ≤ (mRm y).locals) (hst : st = .ref a :: st0) (hs : zgo y (pc + 3) L st0 w h = some r) : zOK p l e s m args below meth cd Q D b base ca y pc L st w h r := by
  subst hst
  obtain ⟨hx, hb, hml, hr, hlk, hown, hT, harr, hnm, h0⟩ := C
  obtain ⟨g1, g2⟩ := zol_ok hq
  rw [zgo_some hs]
  refine ⟨_, _, _, _, _, rfl, fun kk ls H locs h1 h2 h3 h4 h5 h6 => ?_⟩
  have hcat : ((st0.map (zrv b base)).map fun v => v.category).sum = zcw st0 := by
    unfold zcw
    rw [List.map_map]
    congr 1
    apply List.map_congr_left
    intro v _
    exact zrv_cat b base v
  refine W.objInit hx hb hown (hT.use g1 g2 args) (hT.use zo1 zo3 args) (hT.use zo2 zo4 args) rfl (by rw [hml]; exact h1.1) rfl hd hfr ?_ ?_
  · show 2 * 0 + ((st0.map (zrv b base)).map fun v => v.category).sum + 12 ≤ _
    rw [hcat]; omega
  · exact kk ls H locs h1 h2 h3 h4 h5 h6
end ZSG
