-- returns; a method's contract out of its run; the law's walk out of the interpreter's
section ZRE
variable {p : Program} {l : Launch} {e : Env} {s : State} {m : MethodId} {args : Array Value} {below : List Frame} {meth : Method} {cd : Code} {D : va_G} {b base : Nat} {ca : FieldType → ClassId} {X : Nat × (Nat → Int32)} {y pc : Nat} {L : zL} {st : List Value} {w : zN} {h : zH}
theorem zs_ret (C : zX p s m args meth cd b base X y) {r : zR} (hs : zS X (y, pc, L, st, w, h) = some (.inr (.inr r))) : zG p l e s m args below meth cd (MQ below (zQc D b base ca r) args s (mRm y).cells (mRm y).slots (fun q => base ≤ q)) D b base ca y pc L st w h := by
  obtain ⟨hx, hb, hml, hr, hlk, hown, hT, harr, hnm, h0⟩ := C
  unfold zS at hs
  dsimp only at hs
  split at hs
  · next i len hd =>
    rcases zI_ret hs with rfl | rfl | rfl
    · obtain ⟨hl, hs0⟩ := zif_some hs; clear hs; have hs := hs0; clear hs0; obtain rfl := eq_of_beq hl
      split at hs
      · next x =>
        obtain ⟨hq, hs⟩ := zif_some hs
        cases hs
        intro ls H locs h1 h2 h3 h4 h5 h6
        refine W.widen h5 h6 ?_
        simp only [Bool.or_eq_true, Bool.and_eq_true, beq_iff_eq] at hq
        rcases hq with q | ⟨q1, q2⟩
        · exact W.iret hx hb (by rw [hr, q]) (fun t ht hW => ⟨⟨rfl, by rw [ht]; exact h3.moved hW.alike⟩, h4.F ht⟩) h4.2.2 hd
        · exact W.zret (ty := .boolean) hx hb (by rw [hr, q1]) (by rcases q2 with rfl | rfl <;> rfl) (fun t ht hW => ⟨⟨rfl, by rw [ht]; exact h3.moved hW.alike⟩, h4.F ht⟩) h4.2.2 hd
      · cases hs
    · obtain ⟨hl, hs0⟩ := zif_some hs; clear hs; have hs := hs0; clear hs0; obtain rfl := eq_of_beq hl
      split at hs
      · next a =>
        obtain ⟨hq, hs⟩ := zif_some hs
        cases hs
        intro ls H locs h1 h2 h3 h4 h5 h6
        refine W.widen h5 h6 ?_
        split at hq
        · next nm hnm2 => exact W.aret (v := .ref (base + a)) hx hb (by rw [hr, hnm2]) (Or.inl ⟨_, rfl⟩) (Or.inr ⟨_, rfl⟩) (fun t ht hW => ⟨⟨rfl, by rw [ht]; exact h3.moved hW.alike⟩, h4.F ht⟩) h4.2.2 hd
        · cases hq
      · cases hs
    · obtain ⟨hl, hs0⟩ := zif_some hs; clear hs; have hs := hs0; clear hs0; obtain rfl := eq_of_beq hl
      split at hs
      · obtain ⟨hq, hs⟩ := zif_some hs
        cases hs
        intro ls H locs h1 h2 h3 h4 h5 h6
        refine W.widen h5 h6 ?_
        exact W.vret hx hb (by rw [hr]; exact eq_of_beq hq) (fun t ht hW => ⟨⟨rfl, by rw [ht]; exact h3.moved hW.alike⟩, h4.F ht⟩) h4.2.2 hd
      · cases hs
  · cases hs
end ZRE
theorem zsl_len (b base : Nat) : ∀ as : List Value, (lg_sl (as.map (zrv b base))).length = (zargs as).length
  | [] => rfl
  | v :: as => by
    have ih := zsl_len b base as
    simp only [lg_sl, List.map_cons, List.flatMap_cons, List.length_append] at ih ⊢
    rw [ih, zargs, zrv_cat]
    split <;> simp <;> omega
theorem zargs_lv (b base : Nat) : ∀ (as : List Value) (k j : Nat) (v : Value), (zargs as)[j]? = some (some v) → (k + j, zrv b base v) ∈ lv_args k (as.map (zrv b base))
  | [], k, j, v, h => by simp [zargs] at h
  | u :: as, k, j, v, h => by
    simp only [List.map_cons, lv_args, zrv_cat]
    rw [zargs] at h
    split at h
    · next hc =>
      rw [if_pos hc]
      cases j with
      | zero => simp at h; subst h; exact List.mem_cons_self
      | succ j =>
        cases j with
        | zero => simp at h
        | succ j =>
          simp at h
          have := zargs_lv b base as (k + 2) j v h
          rw [show k + (j + 1 + 1) = k + 2 + j by omega]
          exact List.mem_cons_of_mem _ this
    · next hc =>
      rw [if_neg hc]
      cases j with
      | zero => simp at h; subst h; exact List.mem_cons_self
      | succ j =>
        simp at h
        have := zargs_lv b base as (k + 1) j v h
        rw [show k + (j + 1) = k + 1 + j by omega]
        exact List.mem_cons_of_mem _ this
theorem zentry_get {z : Nat} {as : List Value} {j : Nat} {v : Value} (h : (zentry z as)[j]? = some (some v)) : (zargs as)[j]? = some (some v) := by
  unfold zentry at h
  by_cases hj : j < (zargs as).length
  · rwa [List.getElem?_append_left hj] at h
  · rw [List.getElem?_append_right (by omega)] at h
    have := List.mem_of_getElem? h
    rw [List.mem_replicate] at this
    cases this.2
theorem zlok_lt {z : Nat} {L : zL} (h : zlok z L = true) : zlt z L := by
  intro i v hi hc
  have hlt := (List.getElem?_eq_some_iff.mp hi).1
  have := List.all_eq_true.mp h i (List.mem_range.mpr hlt)
  rw [hi] at this
  simp only [Bool.or_eq_true, bne_iff_ne, List.contains_iff_mem] at this
  rcases this with q | q
  · exact absurd hc q
  · exact q
theorem zMet_of {l : Launch} {D : va_G} {b base : Nat} {ca : FieldType → ClassId} {X : Nat × (Nat → Int32)} {N : Nat} {h : zH} {z : Nat} {as : List Value} {r : zR} (hz : z < 160) (h0 : z ≠ 0) (h2 : z ≠ 2) (ha : (zargs as).length ≤ mL z) (hk : zlok z (zentry z as) = true)
    (run : ∀ (p : Program) (e : Env) (s : State) (m : MethodId) (args : Array Value) (below : List Frame) (meth : Method) (cd : Code), zX p s m args meth cd b base X z → zG p l e s m args below meth cd (MQ below (zQc D b base ca r) args s (mRm z).cells (mRm z).slots (fun q => base ≤ q)) D b base ca z 0 (zentry z as) [] (N, 0, 0) h) : zMet l D b base ca N h z as r := by
  obtain ⟨m1, m2, m3, m4, m5, m6, m7, m8⟩ := zm_ok hz h0 h2
  unfold zMet
  refine MetFree.of_bodySF (code := mB z) (maxLocals := mL z) (ret := mR z) m1 ?_ ?_
  · intro args s m hp hn
    obtain ⟨meth, c, g1, g2, g3, g4, g5, g6, -, -⟩ := Cond.code_spec hn (atoms_spec (ws := zws z) hp _ List.mem_cons_self)
    exact ⟨meth, c, g1, g2, g3, g4, g5, g6⟩
  · intro p e s m args below meth c s₁ B hml hP _
    have hh0 : s₁.heap = s.heap := by rw [B.state]; rfl
    obtain ⟨rfl, hT, hW⟩ := hP
    have hts := atoms_spec (ws := zws z) B.pre
    have C : zX p s m (as.map (zrv b base)).toArray meth c b base X z := by
      refine ⟨B.exec, B.bytes, hml, B.returns, B.notSynchronized, ?_, hT, ?_, fun hn => (name_of_methodNamed B.named B.method).1.trans hn, fun q => absurd q h0⟩
      · rw [m3]; exact findClass_of_methodNamed B.named
      · intro ty hy
        rcases hy with rfl | rfl | rfl <;> exact hts _ (by simp [zws])
    have hl := lv_entry (as.map (zrv b base)) (n := mL z) (by rw [zsl_len]; exact ha)
    have key := run p e s m _ below meth c C
    have hlv : lv_has ((lg_sl (as.map (zrv b base)) ++ List.replicate (mL z - (lg_sl (as.map (zrv b base))).length) Slot.unset).toArray) (mL z) (zlv b base (zentry z as)) := by
      refine zlv_of hl (fun q hq => ?_)
      obtain ⟨v, e1, e2⟩ := zlv_mem.mp hq
      have := zargs_lv b base as 0 q.1 v (zentry_get e1)
      rw [Nat.zero_add, ← e2] at this
      exact this
    have hw0 := key _ s.heap [] hlv (zlok_lt hk) hW va_S.rf (Nat.zero_le _) (Nat.zero_le _)
    have hw1 : W p l e (headSpec (zws z) (mRm z)).room s m (as.map (zrv b base)).toArray below meth c s.heap [] 0 0 (MQ below (zQc D b base ca r) (as.map (zrv b base)).toArray s (mRm z).cells (mRm z).slots (fun q => base ≤ q)) (entryFrame m (as.map (zrv b base)).toArray (mL z)) := by
      rw [lg_entry_eq]
      exact hw0
    obtain ⟨t, a1, o, b1, b2, b3⟩ := hw1 s₁ hh0 (Stand.of_body B)
    exact ⟨t, o, a1, b1, b2, ⟨b3.1, b3.2⟩⟩
/-- THE INTERPRETER IS THE MACHINE'S: a run of it to a return r, from a frame of a method that stands so, is one of the machine's -/
theorem zsound (X : Nat × (Nat → Int32)) (l : Launch) (D : va_G) (b base : Nat) (ca : FieldType → ClassId) : ∀ (n : Nat) (y pc : Nat) (L : zL) (st : List Value) (w : zN) (h : zH) (r : zR), zrun X n (y, pc, L, st, w, h) = some r → ∀ (p : Program) (e : Env) (s : State) (m : MethodId) (args : Array Value) (below : List Frame) (meth : Method) (cd : Code) (Q : State → Prop), zX p s m args meth cd b base X y →
    (∀ pc' L' st' w' h', zS X (y, pc', L', st', w', h') = some (.inr (.inr r)) → zG p l e s m args below meth cd Q D b base ca y pc' L' st' w' h') → zG p l e s m args below meth cd Q D b base ca y pc L st w h := by
  intro n
  induction n with
  | zero => intro y pc L st w h r hr; cases hr
  | succ n ih =>
    intro y pc L st w h r hr p e s m args below meth cd Q C fin
    rw [zrun] at hr
    split at hr
    · cases hr
    · next c' hc =>
      have hc0 := hc
      unfold zS at hc
      dsimp only at hc
      split at hc
      · next i len hd =>
        obtain ⟨pc', L', st', w', h', e1, e2⟩ := zs_go (l := l) (e := e) (below := below) (Q := Q) (D := D) (ca := ca) C hd hc
        cases e1
        exact e2 (ih y pc' L' st' w' h' r hr p e s m args below meth cd Q C fin)
      · cases hc
    · next c1 k hc =>
      unfold zS at hc
      dsimp only at hc
      split at hc
      · next i len hd =>
        obtain ⟨z, as, rest, z0, z2, z3, z4, z5, rfl, rfl, hgo⟩ := zs_call (l := l) (e := e) (below := below) (Q := Q) (D := D) (ca := ca) C hd hc
        split at hr
        · cases hr
        · next r1 hr1 =>
          refine hgo r1 (zMet_of (X := X) z3 z0 z2 z4 z5 (fun p' e' s' m' args' below' meth' cd' C' => ?_)) (ih y _ _ _ _ _ r hr p e s m args below meth cd Q C fin)
          exact ih z 0 (zentry z as) [] (w.1, 0, 0) h r1 hr1 p' e' s' m' args' below' meth' cd' _ C' (fun pc' L' st' w' h' hs => zs_ret C' hs)
      · cases hc
    · next r' hc =>
      cases hr
      exact fin pc L st w h hc
/-! THE CLAIM OUT OF ONE WALK OF THE LAW'S BODY. Your part is whole_start (and what it stands on); all else here is the same for every law, but numbers. -/
def R_law : String := "PursesByLotLaw"
def lw_P (b : Addr) (xs : List Int32) (args : Array Value) (s : State) : Prop := args = #[.ref b] ∧ s.IntsAt b xs ∧ xs.length ≤ 3584 ∧ (Jvm.Cond.and given_1 narrow_1).before args s = true
def lw_Q (_ : Array Value) (s : State) (o : Outcome) (t : State) : Prop := o = .returned (some (.int 1)) ∧ Framed s o t [] 75 2047
def lw_Z (below : List Frame) (a : Array Value) (s : State) : State → Prop := fun t => ∃ o, t.status = .running ∧ Ended t below o ∧ lw_Q a s o t
/-- the law's own end, with 1 on the stack, nothing written that was there before, its room as the claim has it -/
theorem lw_ret {p : Program} {l : Launch} {e : Env} {s : State} {m : MethodId} {below : List Frame} {meth : Method} {c : Code} {b : Nat} (hx : p.tables.exec = Jvm.exec) (hb : c.code = code) (hr : meth.sig.returnType = ret) (hlocks : meth.locks = false) {pc : Nat} {H : Heap} {ls : Array Slot} (hdg : decode code pc = .ok (.ireturn, 1)) : W p l e room_1 s m #[Value.ref b] below meth c H [] 75 2047 (lw_Z below #[Value.ref b] s) (F0 m pc ls [.int 1]) := by
  intro T hT X
  obtain ⟨fs, hret, hrun, hended, hW, hframe⟩ := X.leave (v := some (.int 1)) (hlocks := hlocks) (fun h => by rw [hr] at h; cases h)
  have hmeth' : T.vm.method? m = some meth := X.method'
  refine ⟨T.setFrames fs, ?_, .returned (some (.int 1)), hrun, hended, rfl, ⟨_, rfl⟩, hW, hframe⟩
  jvm_step X.here [X.here.top, hx, hb, hdg, hmeth', hr, ret, narrow_b1]
  (try refine ⟨rfl, ?_⟩); (try refine ⟨rfl, ?_⟩)
  first | (intro acts; rw [hret _ acts rfl rfl rfl]) | rw [hret _ _ rfl rfl rfl]
  exact Steps.refl _
/-- what holds at the law's entry: the machine, the code, the tables' words (any of lw_tbl by 'hts w (by decide +kernel)'), the script of L ints xs at the cell b, what the Statement gives of the start (any of its parts by flat_of_before) -/
def lw_At (p : Program) (s : State) (m : MethodId) (meth : Method) (c : Code) (b L : Nat) (xs : Nat → Int32) : Prop :=
  p.tables.exec = Jvm.exec ∧ c.code = code ∧ meth.sig.returnType = ret ∧ c.maxLocals = 4 ∧ s.vm.findClass R_law = some m.cls ∧ (∀ w ∈ lw_tbl, w.before #[Value.ref b] s = true) ∧ va_X b L xs s s.heap ∧ b < s.heap.size ∧ meth.locks = false ∧ (Jvm.Cond.and given_1 narrow_1).before #[Value.ref b] s = true
/-- the law's walk, out of the interpreter's -/
theorem zstart {p : Program} {e : Env} {s : State} {m : MethodId} {below : List Frame} {meth : Method} {c : Code} (l : Launch) {b L : Nat} {xs : Nat → Int32} (C0 : lw_At p s m meth c b L xs)
    (hE : zE (L, xs) 0 0 [some (.retAddr 0), none, none, none] [] (0, 0, 0) (fun _ => zdead) (fun v _ _ => v = some (.int 1))) : W p l e room_1 s m #[Value.ref b] below meth c s.heap [] 0 0 (lw_Z below #[Value.ref b] s) (entryFrame m ([Value.ref b] : List Value).toArray 4) := by
  obtain ⟨hx, hb, hr, hml, hown, hts, hX, hbl, hlocks, hgv⟩ := id C0
  have hT : zT s := fun w hw hk => va_Nw.of (ztw_on hk) (hts w hw)
  have harr : ∀ ty, ty = FieldType.int ∨ ty = .byte ∨ ty = .boolean → (Cond.arrayClass ty).before #[Value.ref b] s = true := by
    intro ty hy
    rcases hy with rfl | rfl | rfl
    · exact hts _ za_int
    · exact hts _ za_byte
    · exact hts _ za_boolean
  have hca : ∀ ty, ∃ cA : ClassId, (ty = FieldType.int ∨ ty = .byte ∨ ty = .boolean) → ArrOfT s cA ty ∧ va_RA s cA ty := by
    intro ty
    by_cases hy : ty = FieldType.int ∨ ty = .byte ∨ ty = .boolean
    · obtain ⟨cA, kA, comp, h1, h2, h3⟩ := Cond.arrayClass_spec (harr ty hy)
      refine ⟨cA, fun _ => ⟨fun n z => ⟨fun k h => (by cases h), kA, h2, comp, h3⟩, ?_⟩⟩
      rcases hy with rfl | rfl | rfl <;> exact h1
    · exact ⟨0, fun h => absurd h hy⟩
  obtain ⟨ca, hca⟩ := Classical.axiomOfChoice hca
  have hkn : ∀ ci, ∃ q : ClassId × (Nat → Nat), ci < 11 → u_Kn s (zcn.getD ci "") (zTT ci) (zTn ci) q.1 q.2 := by
    intro ci
    by_cases hc : ci < 11
    · obtain ⟨c1, c2, c3, c4, c5, c6, c7, c8, c9⟩ := zcok ci hc
      obtain ⟨cC, iS, hk⟩ := u_known (C := zcn.getD ci "") (T := zTT ci) (N := zTn ci) (n := zTn ci) (hT.all #[Value.ref b]) (fun w hw => zTs_in (c2 w hw)) (hT.use c8 rfl _)
      exact ⟨(cC, iS), fun _ => hk⟩
    · exact ⟨(0, fun _ => 0), fun h => absurd h hc⟩
  obtain ⟨f, hf⟩ := Classical.axiomOfChoice hkn
  have hK : va_K (fun ci => (f ci).1, fun ci => (f ci).2) zcls [] s := by
    refine ⟨fun ci q hq => ?_, fun k q h => by simp at h⟩
    have hc : ci < 11 := (List.getElem?_eq_some_iff.mp hq).1
    rw [(zcok ci hc).1] at hq
    cases hq
    exact hf ci hc
  have C : zX p s m #[Value.ref b] meth c b s.heap.size (L, xs) 0 := ⟨hx, hb, hml, hr, hlocks, hown, hT, harr, fun hn => absurd hn (by decide), fun _ => ⟨hX, hbl, hbl⟩⟩
  obtain ⟨n, r, h1, h2⟩ := hE
  have hW : zW (fun ci => (f ci).1, fun ci => (f ci).2) b s.heap.size ca 0 (fun _ => zdead) s s.heap := ⟨fun k q h => by simp [zrw] at h, hK, fun ty hy => hca ty hy, rfl, fun _ _ => rfl, fun i ty n f h => by cases h⟩
  have key := zsound (L, xs) l (fun ci => (f ci).1, fun ci => (f ci).2) b s.heap.size ca n 0 0 _ [] (0, 0, 0) _ r h1 p e s m #[Value.ref b] below meth c (lw_Z below #[Value.ref b] s) C (fun pc' L' st' w' h' hs => ?_)
  · have hl := lv_entry ([Value.ref b]) (n := 4) (Nat.le_of_ble_eq_true rfl)
    rw [lg_entry_eq]
    refine key _ s.heap [] (zlv_of hl (fun q hq => ?_)) (by intro i v hi hc; match i, hi with
      | 0, hi => cases hi; cases hc
      | 1, hi => cases hi
      | 2, hi => cases hi
      | 3, hi => cases hi
      | i + 4, hi => simp at hi) hW va_S.rf (Nat.zero_le _) (Nat.zero_le _)
    obtain ⟨v, e1, e2⟩ := zlv_mem.mp hq
    match q, e1, e2 with
    | (0, q2), e1, e2 => cases e1; cases e2; exact List.mem_cons_self
    | (1, q2), e1, e2 => cases e1
    | (2, q2), e1, e2 => cases e1
    | (3, q2), e1, e2 => cases e1
    | (i + 4, q2), e1, e2 => simp at e1
  · unfold zS at hs
    dsimp only at hs
    split at hs
    · next i len hd =>
      rcases zI_ret hs with rfl | rfl | rfl
      · obtain ⟨hl, hs0⟩ := zif_some hs; clear hs; have hs := hs0; clear hs0; obtain rfl := eq_of_beq hl
        split at hs
        · next x =>
          obtain ⟨hq, hs⟩ := zif_some hs
          cases hs
          cases h2
          intro ls H locs h1 h2 h3 h4 h5 h6
          refine va_forget (fun q hq => h4.2.2 q hq) ?_
          refine W.widen (k := 75) (n := 2047) h5 h6 ?_
          exact lw_ret hx hb hr hlocks hd
        · cases hs
      · obtain ⟨hl, hs0⟩ := zif_some hs; clear hs; have hs := hs0; clear hs0; obtain rfl := eq_of_beq hl
        split at hs
        · obtain ⟨hq, hs⟩ := zif_some hs
          cases hs
          cases h2
        · cases hs
      · obtain ⟨hl, hs0⟩ := zif_some hs; clear hs; have hs := hs0; clear hs0; obtain rfl := eq_of_beq hl
        split at hs
        · obtain ⟨hq, hs⟩ := zif_some hs
          cases hs
          cases h2
        · cases hs
    · cases hs
