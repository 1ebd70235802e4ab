-- the interpreter's heap as a world of the machine
def zrv (b base : Nat) : Value → Value
  | .ref i => .ref (base + i)
  | .retAddr _ => .ref b
  | v => v
theorem zrv_cat (b base : Nat) (v : Value) : (zrv b base v).category = v.category := by cases v <;> rfl
def zce (b base : Nat) (ca : FieldType → ClassId) : zC → va_E
  | .inl (ty, n, f) => .inl (ca ty, n, .inl f)
  | .inr (c, fs) => .inr (c, fs.map (zrv b base))
def zrw (b base : Nat) (ca : FieldType → ClassId) (N : Nat) (h : zH) : va_W := (List.range N).map (fun i => (base + i, zce b base ca (h i)))
theorem zrw_at {b base : Nat} {ca : FieldType → ClassId} {N : Nat} {h : zH} {i : Nat} (hi : i < N) : (zrw b base ca N h)[i]? = some (base + i, zce b base ca (h i)) := by
  simp [zrw, hi]
theorem zrw_len {b base : Nat} {ca : FieldType → ClassId} {N : Nat} {h : zH} : (zrw b base ca N h).length = N := by simp [zrw]
theorem zrw_inv {b base : Nat} {ca : FieldType → ClassId} {N : Nat} {h : zH} {i : Nat} {q : Nat × va_E} (hq : (zrw b base ca N h)[i]? = some q) : i < N ∧ q = (base + i, zce b base ca (h i)) := by
  have hi : i < N := by
    have := (List.getElem?_eq_some_iff.mp hq).1
    rwa [zrw_len] at this
  rw [zrw_at hi] at hq
  exact ⟨hi, (Option.some.inj hq).symm⟩
theorem zrw_set {b base : Nat} {ca : FieldType → ClassId} {N : Nat} {h : zH} {i : Nat} {c : zC} (hi : i < N) : (zrw b base ca N h).set i (base + i, zce b base ca c) = zrw b base ca N (va_up h i c) := by
  apply List.ext_getElem?
  intro j
  by_cases hj : j < N
  · rw [zrw_at hj]
    by_cases hij : i = j
    · subst hij
      rw [List.getElem?_set_self (by rw [zrw_len]; exact hi), va_up_self]
    · rw [List.getElem?_set_ne hij, zrw_at hj, va_up_ne _ _ (fun e => hij e.symm)]
  · rw [List.getElem?_eq_none (by rw [List.length_set, zrw_len]; omega), List.getElem?_eq_none (by rw [zrw_len]; omega)]
theorem zrw_push {b base : Nat} {ca : FieldType → ClassId} {N : Nat} {h : zH} {c : zC} : zrw b base ca N h ++ [(base + N, zce b base ca c)] = zrw b base ca (N + 1) (va_up h N c) := by
  apply List.ext_getElem?
  intro j
  by_cases hj : j < N
  · rw [List.getElem?_append_left (by rw [zrw_len]; exact hj), zrw_at hj, zrw_at (by omega), va_up_ne _ _ (by omega)]
  · by_cases hj2 : j = N
    · subst hj2
      rw [List.getElem?_append_right (by rw [zrw_len]; omega), zrw_len, Nat.sub_self, zrw_at (by omega), va_up_self]
      rfl
    · rw [List.getElem?_eq_none (by simp [zrw_len]; omega), List.getElem?_eq_none (by rw [zrw_len]; omega)]
theorem zrw_D (b base : Nat) (ca : FieldType → ClassId) (N : Nat) (h : zH) : va_D (fun q => base ≤ q) (zrw b base ca N h) := by
  refine ⟨fun i j p q hi hj e => ?_, fun k q hk => ?_⟩
  · obtain ⟨-, rfl⟩ := zrw_inv hi
    obtain ⟨-, rfl⟩ := zrw_inv hj
    dsimp only at e
    omega
  · obtain ⟨-, rfl⟩ := zrw_inv hk
    exact Nat.le_add_right _ _
/-- words of the tables that hold in every state of the run -/
def ztw : Cond → Bool
  | .fieldLinkNest .. => true
  | .methodLinkNest .. => true
  | w => w.onTables && w.keeps
def zT (U : State) : Prop := ∀ w ∈ lw_tbl, ztw w = true → va_Nw w U
theorem ztw_on {w : Cond} (h : ztw w = true) : w.onTables = true := by
  cases w <;> first | rfl | (simp only [ztw, Bool.and_eq_true] at h; exact h.1)
theorem zT.same {u U : State} (h : u.vm = U.vm) (hT : zT u) : zT U := fun w hw hk => va_Nw.same (ztw_on hk) h (hT w hw hk)
theorem zT.warm {s U : State} (hW : s.WarmedH U.vm) (hT : zT s) : zT U := by
  intro w hw hk
  have h0 := hT w hw hk
  by_cases hn : (w.onTables && w.keeps) = true
  · exact word_at hW (Or.inl hn) h0
  · cases w <;> first | exact va_Nw.warmF hW h0 | exact va_Nw.warmM hW h0 | exact absurd hk hn
theorem zT.use {w : Cond} {s : State} (hT : zT s) (hw : w ∈ lw_tbl) (hk : ztw w = true) (a : Array Value) : w.before a s = true := va_Nw.use (ztw_on hk) (hT w hw hk)
/-- the array classes -/
def zK (ca : FieldType → ClassId) (U : State) : Prop := ∀ ty, ty = FieldType.int ∨ ty = .byte ∨ ty = .boolean → ArrOfT U (ca ty) ty ∧ va_RA U (ca ty) ty
theorem zK.moved {ca : FieldType → ClassId} {u U : State} (hvm : u.vm.Alike U.vm) (h : zK ca u) : zK ca U := fun ty hy => ⟨arrOfT_moved hvm (h ty hy).1, (h ty hy).2.moved hvm⟩
/-- the world: the cells stand in the heap, one behind another from base on; nothing lies behind them -/
def zW (D : va_G) (b base : Nat) (ca : FieldType → ClassId) (N : Nat) (h : zH) (U : State) (H : Heap) : Prop :=
  va_P D zcls (zrw b base ca N h) H ∧ va_K D zcls [] U ∧ zK ca U ∧ H.size = base + N ∧ (∀ i, N ≤ i → h i = zdead) ∧ ∀ i ty n f, h i = .inl (ty, n, f) → ty = FieldType.int ∨ ty = .byte ∨ ty = .boolean
theorem zW.moved {D : va_G} {b base : Nat} {ca : FieldType → ClassId} {N : Nat} {h : zH} {u U : State} {H : Heap} (hvm : u.vm.Alike U.vm) (hw : zW D b base ca N h u H) : zW D b base ca N h U H := ⟨hw.1, va_K.moved hvm hw.2.1, hw.2.2.1.moved hvm, hw.2.2.2⟩
theorem zW.arr_lt {D : va_G} {b base : Nat} {ca : FieldType → ClassId} {N : Nat} {h : zH} {U : State} {H : Heap} (hw : zW D b base ca N h U H) {i : Nat} {a : FieldType × Nat × (Nat → Int32)} (ha : h i = .inl a) : i < N := by
  rcases Nat.lt_or_ge i N with q | q
  · exact q
  · have := hw.2.2.2.2.1 i q
    rw [ha] at this
    cases this
theorem zW.obj_lt {D : va_G} {b base : Nat} {ca : FieldType → ClassId} {N : Nat} {h : zH} {U : State} {H : Heap} (hw : zW D b base ca N h U H) {i c : Nat} {fs : List Value} (ha : h i = .inr (c, fs)) (hc : c ≠ 1000) : i < N := by
  rcases Nat.lt_or_ge i N with q | q
  · exact q
  · have := hw.2.2.2.2.1 i q
    rw [ha] at this
    cases this
    exact absurd rfl hc
theorem zW.arr {D : va_G} {b base : Nat} {ca : FieldType → ClassId} {N : Nat} {h : zH} {U : State} {H : Heap} (hw : zW D b base ca N h U H) {i n : Nat} {ty : FieldType} {f : Nat → Int32} (ha : h i = .inl (ty, n, f)) : (zrw b base ca N h)[i]? = some (base + i, .inl (ca ty, n, .inl f)) ∧ va_K D zcls [(ca ty, ty)] U := by
  refine ⟨by rw [zrw_at (hw.arr_lt ha), ha]; rfl, hw.2.1.1, fun k q hk => ?_⟩
  have hk0 : k < 1 := (List.getElem?_eq_some_iff.mp hk).1
  rw [show k = 0 by omega] at hk
  cases hk
  exact hw.2.2.1 ty (hw.2.2.2.2.2 i ty n f ha)
theorem zW.obj {D : va_G} {b base : Nat} {ca : FieldType → ClassId} {N : Nat} {h : zH} {U : State} {H : Heap} (hw : zW D b base ca N h U H) {i c : Nat} {fs : List Value} (ha : h i = .inr (c, fs)) (hc : c ≠ 1000) : (zrw b base ca N h)[i]? = some (base + i, .inr (c, fs.map (zrv b base))) := by
  rw [zrw_at (hw.obj_lt ha hc), ha]; rfl
/-- a cell is written -/
theorem zW.put {D : va_G} {b base : Nat} {ca : FieldType → ClassId} {N : Nat} {h : zH} {U : State} {H H1 : Heap} (hw : zW D b base ca N h U H) {i : Nat} {c : zC} (hi : i < N) (hc : ∀ ty n f, c = .inl (ty, n, f) → ty = FieldType.int ∨ ty = .byte ∨ ty = .boolean) (hz : H1.size = H.size) (hP : va_P D zcls ((zrw b base ca N h).set i (base + i, zce b base ca c)) H1) : zW D b base ca N (va_up h i c) U H1 := by
  rw [zrw_set hi] at hP
  refine ⟨hP, hw.2.1, hw.2.2.1, by rw [hz]; exact hw.2.2.2.1, fun j hj => ?_, fun j ty n f hj => ?_⟩
  · rw [va_up_ne _ _ (by omega)]; exact hw.2.2.2.2.1 j hj
  · by_cases hji : j = i
    · subst hji; rw [va_up_self] at hj; exact hc ty n f hj
    · rw [va_up_ne _ _ hji] at hj; exact hw.2.2.2.2.2 j ty n f hj
/-- a cell is made -/
theorem zW.push {D : va_G} {b base : Nat} {ca : FieldType → ClassId} {N : Nat} {h : zH} {U : State} {H H1 : Heap} (hw : zW D b base ca N h U H) {c : zC} (hc : ∀ ty n f, c = .inl (ty, n, f) → ty = FieldType.int ∨ ty = .byte ∨ ty = .boolean) (hz : H1.size = H.size + 1) (hP : va_P D zcls (zrw b base ca N h ++ [(base + N, zce b base ca c)]) H1) : zW D b base ca (N + 1) (va_up h N c) U H1 := by
  rw [zrw_push] at hP
  refine ⟨hP, hw.2.1, hw.2.2.1, by rw [hz, hw.2.2.2.1]; omega, fun j hj => ?_, fun j ty n f hj => ?_⟩
  · rw [va_up_ne _ _ (by omega)]; exact hw.2.2.2.2.1 j (by omega)
  · by_cases hji : j = N
    · subst hji; rw [va_up_self] at hj; exact hc ty n f hj
    · rw [va_up_ne _ _ hji] at hj; exact hw.2.2.2.2.2 j ty n f hj
/-- the locals that are known, as the kit's rows have them -/
def zlv (b base : Nat) (L : zL) : List (Nat × Value) := (List.range L.length).filterMap (fun i => match L[i]? with
  | some (some v) => some (i, zrv b base v)
  | _ => none)
theorem zlv_mem {b base : Nat} {L : zL} {q : Nat × Value} : q ∈ zlv b base L ↔ ∃ v, L[q.1]? = some (some v) ∧ q.2 = zrv b base v := by
  unfold zlv
  rw [List.mem_filterMap]
  constructor
  · rintro ⟨i, hi, h⟩
    split at h
    · next v hv => cases h; exact ⟨v, hv, rfl⟩
    · cases h
  · rintro ⟨v, hv, hq⟩
    refine ⟨q.1, List.mem_range.mpr (List.getElem?_eq_some_iff.mp hv).1, ?_⟩
    rw [hv]
    simp [← hq]
theorem zlv_get {b base nL : Nat} {L : zL} {ls : Array Slot} (hl : lv_has ls nL (zlv b base L)) {i : Nat} {v : Value} (hv : L[i]? = some (some v)) : ls[i]? = some (.val (zrv b base v)) := hl.2.2 (i, zrv b base v) (zlv_mem.mpr ⟨v, hv, rfl⟩)
theorem zlv_of {nL : Nat} {ls : Array Slot} {l l' : List (Nat × Value)} (h : lv_has ls nL l) (hs : ∀ q ∈ l', q ∈ l) : lv_has ls nL l' := ⟨h.1, h.2.1, fun q hq => h.2.2 q (hs q hq)⟩
/-- no long stands where the method's table has none -/
def zlt (y : Nat) (L : zL) : Prop := ∀ i v, L[i]? = some (some v) → v.category = 2 → i ∈ mLs y
theorem zst_spec {y i : Nat} (h : zst y i = true) : i < mL y ∧ ∀ j ∈ mLs y, j + 1 ≠ i := by
  simp only [zst, Bool.and_eq_true, decide_eq_true_eq, List.all_eq_true, bne_iff_ne] at h
  exact h
theorem zset1 {b base y i : Nat} {L : zL} {v : Value} (hv : v.category = 1) (hL : zlt y L) (hs : zst y i = true) : (∀ q ∈ zlv b base (L.set i (some v)), q ∈ (i, zrv b base v) :: (zlv b base L).filter (fun q => !(q.1 == i) && !(q.1 + 1 == i && q.2.category == 2))) ∧ zlt y (L.set i (some v)) := by
  refine ⟨fun q hq => ?_, fun j u hj hu => ?_⟩
  · obtain ⟨u, h1, h2⟩ := zlv_mem.mp hq
    by_cases hqi : q.1 = i
    · have hlt : q.1 < L.length := by
        have := (List.getElem?_eq_some_iff.mp h1).1
        rwa [List.length_set] at this
      rw [hqi] at h1 hlt
      rw [List.getElem?_set_self hlt] at h1
      cases h1
      have : q = (i, zrv b base v) := by rw [← hqi, ← h2]
      rw [this]; exact List.mem_cons_self
    · rw [List.getElem?_set_ne (fun e => hqi e.symm)] at h1
      refine List.mem_cons_of_mem _ (List.mem_filter.mpr ⟨zlv_mem.mpr ⟨u, h1, h2⟩, ?_⟩)
      have h3 : ¬ (q.1 + 1 = i ∧ q.2.category = 2) := fun ⟨e1, e2⟩ => by
        rw [h2, zrv_cat] at e2
        exact (zst_spec hs).2 _ (hL _ _ h1 e2) e1
      have h4 : (q.1 + 1 == i && q.2.category == 2) = false := by
        rw [Bool.eq_false_iff]; intro h; simp only [Bool.and_eq_true, beq_iff_eq] at h; exact h3 h
      simp [hqi, h4]
  · by_cases hji : j = i
    · subst hji
      have hlt : j < L.length := by
        have := (List.getElem?_eq_some_iff.mp hj).1
        rwa [List.length_set] at this
      rw [List.getElem?_set_self hlt] at hj
      cases hj
      omega
    · rw [List.getElem?_set_ne (fun e => hji e.symm)] at hj
      exact hL j u hj hu
theorem zset2 {b base y i : Nat} {L : zL} {v : Value} (hL : zlt y L) (hs : zst y i = true) (hi : i ∈ mLs y) : (∀ q ∈ zlv b base ((L.set i (some v)).set (i + 1) none), q ∈ (i, zrv b base v) :: (zlv b base L).filter (fun q => !(q.1 == i) && (!(q.1 == i + 1) && !(q.1 + 1 == i && q.2.category == 2)))) ∧ zlt y ((L.set i (some v)).set (i + 1) none) := by
  have key : ∀ j u, ((L.set i (some v)).set (i + 1) none)[j]? = some (some u) → j ≠ i + 1 ∧ ((j = i ∧ u = v) ∨ (j ≠ i ∧ L[j]? = some (some u))) := by
    intro j u hj
    by_cases h1 : j = i + 1
    · subst h1
      have hlt : i + 1 < (L.set i (some v)).length := by
        have := (List.getElem?_eq_some_iff.mp hj).1
        rwa [List.length_set] at this
      rw [List.getElem?_set_self hlt] at hj
      cases hj
    · rw [List.getElem?_set_ne (fun e => h1 e.symm)] at hj
      refine ⟨h1, ?_⟩
      by_cases h2 : j = i
      · subst h2
        have hlt : j < L.length := by
          have := (List.getElem?_eq_some_iff.mp hj).1
          rwa [List.length_set] at this
        rw [List.getElem?_set_self hlt] at hj
        cases hj
        exact Or.inl ⟨rfl, rfl⟩
      · rw [List.getElem?_set_ne (fun e => h2 e.symm)] at hj
        exact Or.inr ⟨h2, hj⟩
  refine ⟨fun q hq => ?_, fun j u hj hu => ?_⟩
  · obtain ⟨u, h1, h2⟩ := zlv_mem.mp hq
    obtain ⟨k1, ⟨k2, k3⟩ | ⟨k2, k3⟩⟩ := key _ _ h1
    · subst k3
      have : q = (i, zrv b base u) := by rw [← k2, ← h2]
      rw [this]; exact List.mem_cons_self
    · refine List.mem_cons_of_mem _ (List.mem_filter.mpr ⟨zlv_mem.mpr ⟨u, k3, h2⟩, ?_⟩)
      have h3 : ¬ (q.1 + 1 = i ∧ q.2.category = 2) := fun ⟨e1, e2⟩ => by
        rw [h2, zrv_cat] at e2
        exact (zst_spec hs).2 _ (hL _ _ k3 e2) e1
      have h4 : (q.1 + 1 == i && q.2.category == 2) = false := by
        rw [Bool.eq_false_iff]; intro h; simp only [Bool.and_eq_true, beq_iff_eq] at h; exact h3 h
      simp [k2, k1, h4]
  · obtain ⟨k1, ⟨k2, k3⟩ | ⟨k2, k3⟩⟩ := key _ _ hj
    · rw [k2]; exact hi
    · exact hL j u k3 hu
