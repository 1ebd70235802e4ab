-- calls, returns, the whole run
theorem zml_ok {c i : Nat} {z : Nat × Bool × Nat} (hv : zml? c i = some z) : zmw c i z ∈ lw_tbl ∧ ztw (zmw c i z) = true := by
  have h := List.all_eq_true.mp zml_all _ (zlk _ _ _ hv)
  simp only [Bool.and_eq_true, decide_eq_true_eq] at h
  exact ⟨List.mem_of_getElem? h.1, h.2⟩
/-- a method's facts -/
theorem zm_ok {z : Nat} (hz : z < 160) (h0 : z ≠ 0) (h2 : z ≠ 2) : plainFor (mN z) = true ∧ ((mN z).cls ≠ "java/lang/invoke/MethodHandle" ∧ (mN z).cls ≠ "java/lang/invoke/VarHandle" ∧ (parseMethodDescriptor (mN z).desc).map (fun d => d.parameters.length) = some (mPn z)) ∧ zcn.getD (mC z) "" = (mN z).cls ∧ (if mSt z = 1 then Cond.static (mN z) else Cond.instanceMethod (mN z)) ∈ lw_tbl ∧ (mSt z = 1 ∨ (mN z).name = "<init>" ∨ Cond.selects (mN z).cls (mN z) (mN z) ∈ lw_tbl) ∧ Cond.initialized (mN z).cls ∈ lw_tbl ∧ (mSt z = 1 ∨ mC z < 11) ∧ Cond.code (mN z) (mB z) (mL z) (mR z) ∈ lw_tbl := by
  have h := List.all_eq_true.mp zmc_all z (List.mem_range.mpr hz)
  have e0 : (z == 0) = false := by simpa using h0
  have e2 : (z == 2) = false := by simpa using h2
  rw [e0, e2] at h
  simp only [Bool.false_or, zmc, Bool.and_eq_true, Bool.or_eq_true, decide_eq_true_eq] at h
  obtain ⟨⟨⟨⟨⟨⟨⟨⟨a1, a2⟩, a3⟩, a4⟩, a5⟩, a6⟩, a7⟩, a8⟩, a9⟩ := h
  refine ⟨a1, ⟨a2, a3, a4⟩, a5, List.mem_of_getElem? a6, ?_, List.mem_of_getElem? a8, a9, List.mem_of_getElem? (zq z hz h0)⟩
  rcases a7 with (q | q) | q
  · exact Or.inl q
  · exact Or.inr (Or.inl q)
  · exact Or.inr (Or.inr (List.mem_of_getElem? q))
theorem zinit_ret {z : Nat} (hz : z < 160) (hn : (mN z).name = "<init>") : mR z = none := by
  have h : (List.range 160).all (fun z => decide ((mN z).name ≠ "<init>") || decide (mR z = none)) = true := by decide +kernel
  have h := List.all_eq_true.mp h z (List.mem_range.mpr hz)
  simp only [Bool.or_eq_true, decide_eq_true_eq] at h
  rcases h with q | q
  · exact absurd hn q
  · exact q
def zws (z : Nat) : List Cond := [.code (mN z) (mB z) (mL z) (mR z), .arrayClass .int, .arrayClass .byte, .arrayClass .boolean]
def zTa : List Cond := zTs ++ [.arrayClass .int, .arrayClass .byte, .arrayClass .boolean]
theorem zTa_all {s : State} {args : Array Value} (hT : zT s) (harr : ∀ ty, ty = FieldType.int ∨ ty = .byte ∨ ty = .boolean → (Cond.arrayClass ty).before args s = true) : ∀ w ∈ zTa, w.before args s = true := by
  intro w hw
  rcases List.mem_append.mp hw with h | h
  · exact hT.all args w h
  · simp only [List.mem_cons, List.not_mem_nil, or_false] at h
    rcases h with rfl | rfl | rfl
    · exact harr _ (Or.inl rfl)
    · exact harr _ (Or.inr (Or.inl rfl))
    · exact harr _ (Or.inr (Or.inr rfl))
theorem zws_good {z : Nat} (hc : Cond.code (mN z) (mB z) (mL z) (mR z) ∈ lw_tbl) : GoodIn zTa (zws z) := by
  intro w hw
  simp only [zws, List.mem_cons, List.not_mem_nil, or_false] at hw
  rcases hw with rfl | rfl | rfl | rfl
  · exact ⟨List.mem_append_left _ (zTs_in ⟨hc, rfl⟩), Or.inl rfl⟩
  · exact ⟨List.mem_append_right _ (by simp), Or.inr ⟨_, rfl⟩⟩
  · exact ⟨List.mem_append_right _ (by simp), Or.inr ⟨_, rfl⟩⟩
  · exact ⟨List.mem_append_right _ (by simp), Or.inr ⟨_, rfl⟩⟩
/-- a method's start and end, by the interpreter -/
def zPc (D : va_G) (b base : Nat) (ca : FieldType → ClassId) (N : Nat) (h : zH) (as : List Value) : Array Value → State → Prop := va_Pc (as.map (zrv b base)) (fun U => zT U ∧ zW D b base ca N h U U.heap)
def zQc (D : va_G) (b base : Nat) (ca : FieldType → ClassId) (r : zR) : Array Value → State → Outcome → State → Prop := fun _ st oc t => (oc = .returned (r.1.map (zrv b base)) ∧ zW D b base ca r.2.1 r.2.2 t t.heap) ∧ va_F (fun q => base ≤ q) st t
theorem zPc_blind {D : va_G} {b base : Nat} {ca : FieldType → ClassId} {N : Nat} {h : zH} {as : List Value} : FrameBlind (zPc D b base ca N h as) := by
  intro a U g mk q
  obtain ⟨q1, q2, q3⟩ := q
  exact ⟨q1, zT.same (u := U) rfl q2, zW.moved (u := U) (U := U.calling g mk a) (Vm.Alike.refl U.vm) q3⟩
def zMet (l : Launch) (D : va_G) (b base : Nat) (ca : FieldType → ClassId) (N : Nat) (h : zH) (z : Nat) (as : List Value) (r : zR) : Prop := Met l (mN z) (zws z) (mRm z) (zPc D b base ca N h as) (zQc D b base ca r) (mRm z).cells (mRm z).slots (fun q => base ≤ q)
section ZCA
variable {p : Program} {l : Launch} {e : Env} {s : State} {m : MethodId} {args : Array Value} {below : List Frame} {meth : Method} {cd : Code} {Q : State → Prop} {D : va_G} {b base : Nat} {ca : FieldType → ClassId} {X : Nat × (Nat → Int32)} {y pc len : Nat} {L : zL} {st : List Value} {w : zN} {h : zH}
theorem zcont {R : Room} {H : Heap} {locs : List Loc} {cells slots mc ms : Nat} {ls : Array Slot} {st0 rest : List Value} {r1 : zR} {a : Array Value} (hr : va_Run p l e R s m args below meth cd H locs cells slots mc ms (F0 m pc ls st0) rest (zQc D b base ca r1 a) (fun q => base ≤ q)) (hS : va_S (fun q => base ≤ q) s.heap H locs)
    (kk : ∀ (H1 : Heap) (locs1 : List Loc), zW D b base ca r1.2.1 r1.2.2 s H1 → va_S (fun q => base ≤ q) s.heap H1 locs1 → W p l e R s m args below meth cd H1 locs1 (cells + mc) (slots + ms) Q (F0 m (pc + 3) ls ((r1.1.map (zrv b base)).toList ++ rest))) : W p l e R s m args below meth cd H locs cells slots Q (F0 m pc ls st0) := by
  intro T hT X
  obtain ⟨v, st₀, t, T', L, h0, X', hL, e1, e2, ⟨⟨hv, hw⟩, hz, hk⟩, st⟩ := hr T hT X
  cases hv
  rw [h0] at hz hk
  have hal : t.vm.Alike s.vm := by rw [← e2]; exact X'.warmed.alike.symm
  have hw' : zW D b base ca r1.2.1 r1.2.2 s T'.heap := by rw [e1]; exact hw.moved hal
  obtain ⟨t2, a1, b1⟩ := kk T'.heap (locs ++ L) hw'
    ⟨Nat.le_trans hS.1 (by rw [e1]; exact hz), fun q h1 h2 => by rw [e1, hk q (Nat.lt_of_lt_of_le h1 hS.1) h2]; exact hS.2.1 q h1 h2, fun q hq => by
      rcases List.mem_append.mp hq with h | h
      · exact hS.2.2 q h
      · exact hL q h⟩ T' rfl X'
  exact ⟨t2, st t2 a1, b1⟩
theorem zcat {st0 : List Value} (b base : Nat) : ((st0.map (zrv b base)).map fun v => v.category).sum = zcw st0 := by
  unfold zcw
  rw [List.map_map]
  congr 1
  apply List.map_congr_left
  intro v _
  exact zrv_cat b base v
theorem zcall_some {rest as : List Value} {z : Nat} {q : zF × (zR → zF)} (hs : zcall y pc L rest w h z as = some (.inr (.inl q))) :
    (zcw rest ≤ 8 ∧ (mRm z).frames + 1 ≤ (mRm y).frames ∧ 8 + (mL z + 11) + (mRm z).locals ≤ (mRm y).locals ∧ w.2.1 + (mRm z).cells ≤ (mRm y).cells ∧ w.2.2 + (mRm z).slots ≤ (mRm y).slots ∧ (zargs as).length ≤ mL z ∧ zlok z (zentry z as) = true ∧ z ≠ 0 ∧ z ≠ 2 ∧ z < 160) ∧
    q = ((z, 0, zentry z as, [], (w.1, 0, 0), h), fun r => (y, pc + 3, L, r.1.toList ++ rest, (r.2.1, w.2.1 + (mRm z).cells, w.2.2 + (mRm z).slots), r.2.2)) := by
  unfold zcall at hs
  split at hs
  · next hc =>
    simp only [Bool.and_eq_true, decide_eq_true_eq] at hc
    obtain ⟨⟨⟨⟨⟨⟨⟨⟨⟨a1, a2⟩, a3⟩, a4⟩, a5⟩, a6⟩, a7⟩, a8⟩, a9⟩, a10⟩ := hc
    exact ⟨⟨a1, a2, a3, a4, a5, a6, a7, a8, a9, a10⟩, (Sum.inl.inj (Sum.inr.inj (Option.some.inj hs))).symm⟩
  · cases hs
theorem zstk {r : Option Value} {rest : List Value} : (r.map (zrv b base)).toList ++ rest.map (zrv b base) = (r.toList ++ rest).map (zrv b base) := by
  cases r <;> simp
theorem zgo_inr {y pc : Nat} {L : zL} {st : List Value} {w : zN} {h : zH} {x : (zF × (zR → zF)) ⊕ zR} (e : zgo y pc L st w h = some (.inr x)) : False := by cases e
theorem zI_call {i : Instr} {q : zF × (zR → zF)} (hs : zI X y pc L st w h i len = some (.inr (.inl q))) : (∃ k, i = .invokestatic k) ∨ (∃ k, i = .invokevirtual k) ∨ ∃ k, i = .invokespecial k := by
  cases i <;> first | exact Or.inl ⟨_, rfl⟩ | exact Or.inr (Or.inl ⟨_, rfl⟩) | exact Or.inr (Or.inr ⟨_, rfl⟩) | (exfalso; revert hs; simp only [zI, zif, zgo, zld, zist, zast, zlst, zi2, zl2, zbr, zjmp]; repeat' split) <;> simp
theorem zI_ret {i : Instr} {q : zR} (hs : zI X y pc L st w h i len = some (.inr (.inr q))) : i = .ireturn ∨ i = .areturn ∨ i = .return_ := by
  cases i <;> first | exact Or.inl rfl | exact Or.inr (Or.inl rfl) | exact Or.inr (Or.inr rfl) | (exfalso; revert hs; simp only [zI, zif, zgo, zld, zist, zast, zlst, zi2, zl2, zbr, zjmp, zcall]; repeat' split) <;> simp
/-- what a call needs, and what it gives -/
def zCl (p : Program) (l : Launch) (e : Env) (s : State) (m : MethodId) (args : Array Value) (below : List Frame) (meth : Method) (cd : Code) (Q : State → Prop) (D : va_G) (b base : Nat) (ca : FieldType → ClassId) (y pc : Nat) (L : zL) (st : List Value) (w : zN) (h : zH) (c1 : zF) (k : zR → zF) : Prop :=
  ∃ (z : Nat) (as rest : List Value), z ≠ 0 ∧ z ≠ 2 ∧ z < 160 ∧ (zargs as).length ≤ mL z ∧ zlok z (zentry z as) = true ∧ c1 = (z, 0, zentry z as, [], (w.1, 0, 0), h) ∧
    (k = fun r => (y, pc + 3, L, r.1.toList ++ rest, (r.2.1, w.2.1 + (mRm z).cells, w.2.2 + (mRm z).slots), r.2.2)) ∧
    ∀ r1 : zR, zMet l D b base ca w.1 h z as r1 → zG p l e s m args below meth cd Q D b base ca y (pc + 3) L (r1.1.toList ++ rest) (r1.2.1, w.2.1 + (mRm z).cells, w.2.2 + (mRm z).slots) r1.2.2 → zG p l e s m args below meth cd Q D b base ca y pc L st w h
/-- the call itself, by the kind of its link -/
theorem zs_callc (C : zX p s m args meth cd b base X y) {z : Nat} {as rest : List Value} {c1 : zF} {k : zR → zF} (hs : zcall y pc L rest w h z as = some (.inr (.inl (c1, k))))
    (row : ∀ (r1 : zR) (ls : Array Slot) (H : Heap) (locs : List Loc), zMet l D b base ca w.1 h z as r1 → z < 160 → z ≠ 0 → z ≠ 2 → zcw rest ≤ 8 → (mRm z).frames + 1 ≤ (mRm y).frames ∧ 8 + (mL z + 11) + (mRm z).locals ≤ (mRm y).locals → w.2.1 + (mRm z).cells ≤ (mRm y).cells ∧ w.2.2 + (mRm z).slots ≤ (mRm y).slots → ls.size = mL y → zW D b base ca w.1 h s H →
      ∃ a, va_Run p l e (mRm y) s m args below meth cd H locs w.2.1 w.2.2 (mRm z).cells (mRm z).slots (F0 m pc ls (st.map (zrv b base))) (rest.map (zrv b base)) (zQc D b base ca r1 a) (fun q => base ≤ q)) :
    zCl p l e s m args below meth cd Q D b base ca y pc L st w h c1 k := by
  obtain ⟨⟨a1, a2, a3, a4, a5, a6, a7, a8, a9, a10⟩, hq⟩ := zcall_some hs
  cases hq
  refine ⟨z, as, rest, a8, a9, a10, a6, a7, rfl, rfl, fun r1 hM kk ls H locs h1 h2 h3 h4 h5 h6 => ?_⟩
  obtain ⟨a, hrun⟩ := row r1 ls H locs hM a10 a8 a9 a1 ⟨a2, a3⟩ ⟨a4, a5⟩ h1.1 h3
  refine zcont hrun h4 (fun H1 locs1 z1 z2 => ?_)
  rw [zstk]
  exact kk ls H1 locs1 h1 h2 z1 z2 a4 a5
set_option maxHeartbeats 1000000 in
theorem zs_call (C : zX p s m args meth cd b base X y) {i : Instr} (hd : decode (mB y) pc = .ok (i, len)) {c1 : zF} {k : zR → zF} (hs : zI X y pc L st w h i len = some (.inr (.inl (c1, k)))) : zCl p l e s m args below meth cd Q D b base ca y pc L st w h c1 k := by
  have C0 := C
  obtain ⟨hx, hb, hml, hr, hlk, hown, hT, harr, hnm, h0⟩ := C
  cases i with
  | invokestatic idx =>
    obtain ⟨hl, hs0⟩ := zif_some hs; clear hs; have hs := hs0; clear hs0; obtain rfl := eq_of_beq hl
    split at hs
    · next z hz =>
      obtain ⟨hq, hs⟩ := zif_some hs
      simp only [Bool.and_eq_true, decide_eq_true_eq] at hq
      obtain ⟨g1, g2⟩ := zml_ok hz
      refine zs_callc C0 hs (fun r1 ls H locs hM hz1 hz0 hz2 hcw hR hf hsz hW => ?_)
      obtain ⟨m1, m2, m3, m4, m5, m6, m7, m8⟩ := zm_ok hz1 hz0 hz2
      rw [if_pos hq.1] at m4
      have hlen : (((st.take (mPn z.1)).reverse).map (zrv b base)).length = mPn z.1 := by simp [hq.2]
      have hstk : st.map (zrv b base) = (((st.take (mPn z.1)).reverse).map (zrv b base)).reverse ++ (st.drop (mPn z.1)).map (zrv b base) := by
        rw [List.map_reverse, List.reverse_reverse, ← List.map_append, List.take_append_drop]
      have hp : PreS s H (zPc D b base ca w.1 h (st.take (mPn z.1)).reverse) (((st.take (mPn z.1)).reverse).map (zrv b base)) := ⟨zPc_blind, fun U hU hW' => ⟨rfl, hT.warm hW', by rw [hU]; exact hW.moved hW'.alike⟩⟩
      have hlink := hT.use g1 g2 args
      unfold zmw at hlink g1 g2
      split at hlink
      · next hn =>
        rw [if_pos hn] at g1 g2
        exact ⟨_, va_runSN (Ts := zTa) ⟨hx, hb, hml, hown, zTa_all hT harr⟩ hM ⟨va_cnB (mPn z.1) (zTa_all hT harr) (zws_good m8) rfl rfl rfl (hT _ g1 g2) (hT.use m6 rfl args) m2 hR, hT.use m4 rfl args, trivial⟩ hp rfl hlen hsz hstk (lv_room (by rw [zcat]; exact hcw)) hd hf⟩
      · next hn =>
        exact ⟨_, va_runS (Ts := zTa) ⟨hx, hb, hml, hown, zTa_all hT harr⟩ hM ⟨callB_of (mPn z.1) (zTa_all hT harr) (zws_good m8) rfl rfl rfl (hT.use m6 rfl args) hlink m2 hR, hT.use m4 rfl args⟩ hp rfl hlen hsz hstk (lv_room (by rw [zcat]; exact hcw)) hd hf⟩
    · cases hs
  | invokevirtual idx =>
    obtain ⟨hl, hs0⟩ := zif_some hs; clear hs; have hs := hs0; clear hs0; obtain rfl := eq_of_beq hl
    split at hs
    · next z a rest hz hdrop =>
      rw [hz] at hdrop
      simp only [Option.elim_some] at hdrop
      split at hs
      · next c fs ha =>
        obtain ⟨hq, hs⟩ := zif_some hs
        simp only [Bool.and_eq_true, decide_eq_true_eq] at hq
        obtain ⟨⟨q1, q2⟩, q3⟩ := hq
        obtain ⟨g1, g2⟩ := zml_ok hz
        refine zs_callc C0 hs (fun r1 ls H locs hM hz1 hz0 hz2 hcw hR hf hsz hW => ?_)
        obtain ⟨m1, m2, m3, m4, m5, m6, m7, m8⟩ := zm_ok hz1 hz0 hz2
        rw [if_neg (by omega)] at m4
        have m7 : mC z.1 < 11 := by rcases m7 with q | q
                                    · omega
                                    · exact q
        have m5 : Cond.selects (mN z.1).cls (mN z.1) (mN z.1) ∈ lw_tbl := by
          rcases m5 with q | q | q
          · omega
          · exact absurd q q3
          · exact q
        have hlt : mPn z.1 < st.length := by
          rcases Nat.lt_or_ge (mPn z.1) st.length with q | q
          · exact q
          · rw [List.drop_eq_nil_of_le q] at hdrop; cases hdrop
        have hlen : (((st.take (mPn z.1)).reverse).map (zrv b base)).length = mPn z.1 := by simp; omega
        have hstk : st.map (zrv b base) = (((st.take (mPn z.1)).reverse).map (zrv b base)).reverse ++ .ref (base + a) :: rest.map (zrv b base) := by
          rw [List.map_reverse, List.reverse_reverse]
          conv => lhs; rw [← List.take_append_drop (mPn z.1) st, hdrop, List.map_append]
          rfl
        obtain ⟨c1, -⟩ := zcok (mC z.1) m7
        subst q2
        have hrecv := va_recv hW.2.1 hW.1 c1 (hW.obj ha (by omega))
        rw [show (zcn.getD (mC z.1) "", zTT (mC z.1), zTn (mC z.1)).1 = (mN z.1).cls from m3] at hrecv
        have hp : PreV s H (mN z.1).cls (base + a) (zPc D b base ca w.1 h (.ref a :: (st.take (mPn z.1)).reverse)) (((st.take (mPn z.1)).reverse).map (zrv b base)) := ⟨zPc_blind, hrecv, fun U hU hW' => ⟨rfl, hT.warm hW', by rw [hU]; exact hW.moved hW'.alike⟩⟩
        have hlink := hT.use g1 g2 args
        unfold zmw at hlink g1 g2
        split at hlink
        · next hn =>
          rw [if_pos hn] at g1 g2
          exact ⟨_, va_runVN (Ts := zTa) ⟨hx, hb, hml, hown, zTa_all hT harr⟩ hM ⟨va_cnB (mPn z.1) (zTa_all hT harr) (zws_good m8) rfl rfl rfl (hT _ g1 g2) (hT.use m6 rfl args) m2 hR, hT.use m4 rfl args, hT.use m5 rfl args⟩ hp rfl hlen hsz hstk (lv_room (by rw [zcat]; exact hcw)) hd hf⟩
        · next hn =>
          exact ⟨_, va_runV (Ts := zTa) ⟨hx, hb, hml, hown, zTa_all hT harr⟩ hM ⟨callB_of (mPn z.1) (zTa_all hT harr) (zws_good m8) rfl rfl rfl (hT.use m6 rfl args) hlink m2 hR, hT.use m4 rfl args, hT.use m5 rfl args⟩ hp rfl hlen hsz hstk (lv_room (by rw [zcat]; exact hcw)) hd hf⟩
      · cases hs
    · cases hs
  | invokespecial idx =>
    obtain ⟨hl, hs0⟩ := zif_some hs; clear hs; have hs := hs0; clear hs0; obtain rfl := eq_of_beq hl
    split at hs
    · next z a rest hz =>
      obtain ⟨hq, hs⟩ := zif_some hs
      simp only [Bool.and_eq_true, decide_eq_true_eq] at hq
      obtain ⟨⟨q1, q2⟩, q3⟩ := hq
      obtain ⟨g1, g2⟩ := zml_ok hz
      refine zs_callc C0 hs (fun r1 ls H locs hM hz1 hz0 hz2 hcw hR hf hsz hW => ?_)
      obtain ⟨m1, m2, m3, m4, m5, m6, m7, m8⟩ := zm_ok hz1 hz0 hz2
      rw [if_neg (by omega)] at m4
      rw [q2] at m2
      have hret : mR z.1 = none := zinit_ret hz1 q3
      have hp : PreS s H (zPc D b base ca w.1 h [.ref a]) [.ref (base + a)] := ⟨zPc_blind, fun U hU hW' => ⟨rfl, hT.warm hW', by rw [hU]; exact hW.moved hW'.alike⟩⟩
      have hlink := hT.use g1 g2 args
      have hwsz : zws z.1 = Cond.code (mN z.1) (mB z.1) (mL z.1) none :: [.arrayClass .int, .arrayClass .byte, .arrayClass .boolean] := by rw [zws, hret]
      unfold zmw at hlink g1 g2
      split at hlink
      · next hn =>
        rw [if_pos hn] at g1 g2
        exact ⟨_, va_runIN (Ts := zTa) (As := []) ⟨hx, hb, hml, hown, zTa_all hT harr⟩ hM ⟨va_cnB 0 (zTa_all hT harr) (zws_good m8) hwsz rfl rfl (hT _ g1 g2) (hT.use m6 rfl args) m2 hR, q3, hT.use m4 rfl args⟩ hp rfl rfl hsz rfl (lv_room (by rw [zcat]; exact hcw)) hd hf⟩
      · next hn =>
        exact ⟨_, va_runI (Ts := zTa) (As := []) ⟨hx, hb, hml, hown, zTa_all hT harr⟩ hM ⟨callB_of 0 (zTa_all hT harr) (zws_good m8) hwsz rfl rfl (hT.use m6 rfl args) hlink m2 hR, q3, hT.use m4 rfl args⟩ hp rfl rfl hsz rfl (lv_room (by rw [zcat]; exact hcw)) hd hf⟩
    · split at hs
      · obtain ⟨g, hs⟩ := zif_some hs; cases hs
      · cases hs
    · cases hs
  | _ => rcases zI_call hs with ⟨_, e⟩ | ⟨_, e⟩ | ⟨_, e⟩ <;> cases e
end ZCA
