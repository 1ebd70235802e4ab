-- static facts of the tables, written by wip/whole/gen06.py
theorem zlk {α β : Type} [BEq α] [LawfulBEq α] : ∀ (l : List (α × β)) (a : α) (b : β), l.lookup a = some b → (a, b) ∈ l
  | [], _, _, h => by cases h
  | (c, d) :: l, a, b, h => by
    rw [List.lookup_cons] at h
    split at h
    · next hb => cases h; rw [eq_of_beq hb]; exact List.mem_cons_self
    · exact List.mem_cons_of_mem _ (zlk l a b h)
def zfw (c i : Nat) (f : Nat × Nat × Bool × Nat) : Cond := if f.2.2.1 = true then .fieldLinkNest (zcn.getD c "") i (zTT f.1 f.2.1).1 (zTT f.1 f.2.1).2.1 (zTT f.1 f.2.1).2.2.1 "PursesByLot" else .fieldLink (zcn.getD c "") i (zTT f.1 f.2.1).1 (zTT f.1 f.2.1).2.1 (zTT f.1 f.2.1).2.2.1
theorem zfl_all : zfl.all (fun e => decide (lw_tbl[e.2.2.2.2]? = some (zfw e.1.1 e.1.2 e.2)) && ztw (zfw e.1.1 e.1.2 e.2) && decide (e.2.1 < 11) && decide (e.2.2.1 < zTn e.2.1)) = true := by decide +kernel
def zmw (c i : Nat) (z : Nat × Bool × Nat) : Cond := if z.2.1 = true then .methodLinkNest (zcn.getD c "") i (mN z.1) "PursesByLot" else .methodLink (zcn.getD c "") i (mN z.1)
theorem zml_all : zml.all (fun e => decide (lw_tbl[e.2.2.2]? = some (zmw e.1.1 e.1.2 e.2)) && ztw (zmw e.1.1 e.1.2 e.2)) = true := by decide +kernel
theorem zol_all : zol.all (fun e => decide (lw_tbl[e.2]? = some (Cond.methodLink (zcn.getD e.1.1 "") e.1.2 objectInit)) && ztw (Cond.methodLink (zcn.getD e.1.1 "") e.1.2 objectInit)) = true := by decide +kernel
theorem zcl_all : zcl.all (fun e => decide (lw_tbl[e.2.2]? = some (Cond.classLink (zcn.getD e.1.1 "") e.1.2 (zcn.getD e.2.1 ""))) && ztw (Cond.classLink (zcn.getD e.1.1 "") e.1.2 (zcn.getD e.2.1 "")) && decide (e.2.1 < 11)) = true := by decide +kernel
theorem zki_all : zki.all (fun e => decide (lw_tbl[e.2.2]? = some (Cond.constant (zcn.getD e.1.1 "") e.1.2 e.2.1)) && ztw (Cond.constant (zcn.getD e.1.1 "") e.1.2 e.2.1)) = true := by decide +kernel
theorem zkl_all : zkl.all (fun e => decide (lw_tbl[e.2.2]? = some (Cond.constantLong (zcn.getD e.1.1 "") e.1.2 e.2.1)) && ztw (Cond.constantLong (zcn.getD e.1.1 "") e.1.2 e.2.1)) = true := by decide +kernel
theorem zo1 : Cond.instanceMethod objectInit ∈ lw_tbl := List.mem_of_getElem? (i := 103) (by decide +kernel)
theorem zo2 : Cond.code objectInit ⟨#[0xb1]⟩ 1 none ∈ lw_tbl := List.mem_of_getElem? (i := 104) rfl
theorem zo3 : ztw (Cond.instanceMethod objectInit) = true := rfl
theorem zo4 : ztw (Cond.code objectInit ⟨#[0xb1]⟩ 1 none) = true := rfl
theorem za_int : Cond.arrayClass .int ∈ lw_tbl := List.mem_of_getElem? (i := 219) (by decide +kernel)
theorem za_byte : Cond.arrayClass .byte ∈ lw_tbl := List.mem_of_getElem? (i := 120) (by decide +kernel)
theorem za_boolean : Cond.arrayClass .boolean ∈ lw_tbl := List.mem_of_getElem? (i := 247) (by decide +kernel)
theorem zcw0 : ∀ w ∈ u_ws zr0 zt0 6, w ∈ lw_tbl ∧ ztw w = true := by
  have h : (u_ws zr0 zt0 6) = ([348, 350, 352, 354, 356, 358] : List Nat).filterMap (fun i => lw_tbl[i]?) := by decide +kernel
  have h2 : (u_ws zr0 zt0 6).all ztw = true := by decide +kernel
  intro w hw
  refine ⟨?_, List.all_eq_true.mp h2 w hw⟩
  rw [h] at hw
  obtain ⟨i, -, hi⟩ := List.mem_filterMap.mp hw
  exact List.mem_of_getElem? hi
theorem zcw1 : ∀ w ∈ u_ws zr1 zt1 5, w ∈ lw_tbl ∧ ztw w = true := by
  have h : (u_ws zr1 zt1 5) = ([137, 139, 141, 143, 145] : List Nat).filterMap (fun i => lw_tbl[i]?) := by decide +kernel
  have h2 : (u_ws zr1 zt1 5).all ztw = true := by decide +kernel
  intro w hw
  refine ⟨?_, List.all_eq_true.mp h2 w hw⟩
  rw [h] at hw
  obtain ⟨i, -, hi⟩ := List.mem_filterMap.mp hw
  exact List.mem_of_getElem? hi
theorem zcw2 : ∀ w ∈ u_ws zr2 zt2 4, w ∈ lw_tbl ∧ ztw w = true := by
  have h : (u_ws zr2 zt2 4) = ([261, 263, 265, 267] : List Nat).filterMap (fun i => lw_tbl[i]?) := by decide +kernel
  have h2 : (u_ws zr2 zt2 4).all ztw = true := by decide +kernel
  intro w hw
  refine ⟨?_, List.all_eq_true.mp h2 w hw⟩
  rw [h] at hw
  obtain ⟨i, -, hi⟩ := List.mem_filterMap.mp hw
  exact List.mem_of_getElem? hi
theorem zcw3 : ∀ w ∈ u_ws zr3 zt3 2, w ∈ lw_tbl ∧ ztw w = true := by
  have h : (u_ws zr3 zt3 2) = ([327, 329] : List Nat).filterMap (fun i => lw_tbl[i]?) := by decide +kernel
  have h2 : (u_ws zr3 zt3 2).all ztw = true := by decide +kernel
  intro w hw
  refine ⟨?_, List.all_eq_true.mp h2 w hw⟩
  rw [h] at hw
  obtain ⟨i, -, hi⟩ := List.mem_filterMap.mp hw
  exact List.mem_of_getElem? hi
theorem zcw4 : ∀ w ∈ u_ws zr4 zt4 2, w ∈ lw_tbl ∧ ztw w = true := by
  have h : (u_ws zr4 zt4 2) = ([115, 117] : List Nat).filterMap (fun i => lw_tbl[i]?) := by decide +kernel
  have h2 : (u_ws zr4 zt4 2).all ztw = true := by decide +kernel
  intro w hw
  refine ⟨?_, List.all_eq_true.mp h2 w hw⟩
  rw [h] at hw
  obtain ⟨i, -, hi⟩ := List.mem_filterMap.mp hw
  exact List.mem_of_getElem? hi
theorem zcw5 : ∀ w ∈ u_ws zr5 zt5 16, w ∈ lw_tbl ∧ ztw w = true := by
  have h : (u_ws zr5 zt5 16) = ([186, 188, 190, 192, 194, 196, 198, 200, 202, 204, 206, 208, 210, 212, 214, 216] : List Nat).filterMap (fun i => lw_tbl[i]?) := by decide +kernel
  have h2 : (u_ws zr5 zt5 16).all ztw = true := by decide +kernel
  intro w hw
  refine ⟨?_, List.all_eq_true.mp h2 w hw⟩
  rw [h] at hw
  obtain ⟨i, -, hi⟩ := List.mem_filterMap.mp hw
  exact List.mem_of_getElem? hi
theorem zcw6 : ∀ w ∈ u_ws zr6 zt6 7, w ∈ lw_tbl ∧ ztw w = true := by
  have h : (u_ws zr6 zt6 7) = ([287, 289, 291, 293, 295, 297, 299] : List Nat).filterMap (fun i => lw_tbl[i]?) := by decide +kernel
  have h2 : (u_ws zr6 zt6 7).all ztw = true := by decide +kernel
  intro w hw
  refine ⟨?_, List.all_eq_true.mp h2 w hw⟩
  rw [h] at hw
  obtain ⟨i, -, hi⟩ := List.mem_filterMap.mp hw
  exact List.mem_of_getElem? hi
theorem zcw7 : ∀ w ∈ u_ws zr7 zt7 2, w ∈ lw_tbl ∧ ztw w = true := by
  have h : (u_ws zr7 zt7 2) = ([312, 314] : List Nat).filterMap (fun i => lw_tbl[i]?) := by decide +kernel
  have h2 : (u_ws zr7 zt7 2).all ztw = true := by decide +kernel
  intro w hw
  refine ⟨?_, List.all_eq_true.mp h2 w hw⟩
  rw [h] at hw
  obtain ⟨i, -, hi⟩ := List.mem_filterMap.mp hw
  exact List.mem_of_getElem? hi
theorem zcw8 : ∀ w ∈ u_ws zr8 zt8 5, w ∈ lw_tbl ∧ ztw w = true := by
  have h : (u_ws zr8 zt8 5) = ([236, 238, 240, 242, 244] : List Nat).filterMap (fun i => lw_tbl[i]?) := by decide +kernel
  have h2 : (u_ws zr8 zt8 5).all ztw = true := by decide +kernel
  intro w hw
  refine ⟨?_, List.all_eq_true.mp h2 w hw⟩
  rw [h] at hw
  obtain ⟨i, -, hi⟩ := List.mem_filterMap.mp hw
  exact List.mem_of_getElem? hi
theorem zcw9 : ∀ w ∈ u_ws zr9 zt9 17, w ∈ lw_tbl ∧ ztw w = true := by
  have h : (u_ws zr9 zt9 17) = ([378, 380, 382, 384, 386, 388, 390, 392, 394, 396, 398, 400, 402, 404, 406, 408, 410] : List Nat).filterMap (fun i => lw_tbl[i]?) := by decide +kernel
  have h2 : (u_ws zr9 zt9 17).all ztw = true := by decide +kernel
  intro w hw
  refine ⟨?_, List.all_eq_true.mp h2 w hw⟩
  rw [h] at hw
  obtain ⟨i, -, hi⟩ := List.mem_filterMap.mp hw
  exact List.mem_of_getElem? hi
theorem zcw10 : ∀ w ∈ u_ws zr10 zt10 33, w ∈ lw_tbl ∧ ztw w = true := by
  have h : (u_ws zr10 zt10 33) = ([845, 847, 849, 851, 853, 855, 857, 859, 861, 863, 865, 867, 869, 871, 873, 875, 877, 879, 881, 883, 885, 887, 889, 891, 893, 895, 897, 899, 901, 903, 905, 907, 909] : List Nat).filterMap (fun i => lw_tbl[i]?) := by decide +kernel
  have h2 : (u_ws zr10 zt10 33).all ztw = true := by decide +kernel
  intro w hw
  refine ⟨?_, List.all_eq_true.mp h2 w hw⟩
  rw [h] at hw
  obtain ⟨i, -, hi⟩ := List.mem_filterMap.mp hw
  exact List.mem_of_getElem? hi
/-- what is known of a class by its number -/
def zcOk (ci : Nat) : Prop := zcls[ci]? = some (zcn.getD ci "", zTT ci, zTn ci) ∧ (∀ w ∈ u_ws (zcn.getD ci "") (zTT ci) (zTn ci), w ∈ lw_tbl ∧ ztw w = true) ∧ (∀ k, k < zTn ci → parseFieldDescriptor (zTT ci k).2.2.1 = some (zty ci k)) ∧ (∀ a, a < zTn ci → ∀ b, b < zTn ci → a ≠ b → (zTT ci a).2.1 ≠ (zTT ci b).2.1) ∧ (zdf ci).length = zTn ci ∧ (∀ j, j < zTn ci → some (defaultValue (zty ci j)) = (zdf ci)[j]?) ∧ (∀ j, j < zTn ci → ∀ b base, zrv b base (defaultValue (zty ci j)) = defaultValue (zty ci j)) ∧ Cond.instantiable (zcn.getD ci "") (zTn ci) ∈ lw_tbl ∧ Cond.initialized (zcn.getD ci "") ∈ lw_tbl
theorem zcok0 : zcOk 0 := ⟨rfl, zcw0, zp0, zn0, rfl, by decide +kernel, fun j hj b base => by
    have : defaultValue (zty 0 j) = .null ∨ defaultValue (zty 0 j) = .int 0 ∨ defaultValue (zty 0 j) = .long 0 := (by decide +kernel : ∀ j, j < 6 → (defaultValue (zty 0 j) = .null ∨ defaultValue (zty 0 j) = .int 0 ∨ defaultValue (zty 0 j) = .long 0)) j hj
    rcases this with h | h | h <;> rw [h] <;> rfl, List.mem_of_getElem? (i := 333) (by decide +kernel), List.mem_of_getElem? (i := 92) (by decide +kernel)⟩
theorem zcok1 : zcOk 1 := ⟨rfl, zcw1, zp1, zn1, rfl, by decide +kernel, fun j hj b base => by
    have : defaultValue (zty 1 j) = .null ∨ defaultValue (zty 1 j) = .int 0 ∨ defaultValue (zty 1 j) = .long 0 := (by decide +kernel : ∀ j, j < 5 → (defaultValue (zty 1 j) = .null ∨ defaultValue (zty 1 j) = .int 0 ∨ defaultValue (zty 1 j) = .long 0)) j hj
    rcases this with h | h | h <;> rw [h] <;> rfl, List.mem_of_getElem? (i := 122) (by decide +kernel), List.mem_of_getElem? (i := 85) (by decide +kernel)⟩
theorem zcok2 : zcOk 2 := ⟨rfl, zcw2, zp2, zn2, rfl, by decide +kernel, fun j hj b base => by
    have : defaultValue (zty 2 j) = .null ∨ defaultValue (zty 2 j) = .int 0 ∨ defaultValue (zty 2 j) = .long 0 := (by decide +kernel : ∀ j, j < 4 → (defaultValue (zty 2 j) = .null ∨ defaultValue (zty 2 j) = .int 0 ∨ defaultValue (zty 2 j) = .long 0)) j hj
    rcases this with h | h | h <;> rw [h] <;> rfl, List.mem_of_getElem? (i := 249) (by decide +kernel), List.mem_of_getElem? (i := 88) (by decide +kernel)⟩
theorem zcok3 : zcOk 3 := ⟨rfl, zcw3, zp3, zn3, rfl, by decide +kernel, fun j hj b base => by
    have : defaultValue (zty 3 j) = .null ∨ defaultValue (zty 3 j) = .int 0 ∨ defaultValue (zty 3 j) = .long 0 := (by decide +kernel : ∀ j, j < 2 → (defaultValue (zty 3 j) = .null ∨ defaultValue (zty 3 j) = .int 0 ∨ defaultValue (zty 3 j) = .long 0)) j hj
    rcases this with h | h | h <;> rw [h] <;> rfl, List.mem_of_getElem? (i := 318) (by decide +kernel), List.mem_of_getElem? (i := 91) (by decide +kernel)⟩
theorem zcok4 : zcOk 4 := ⟨rfl, zcw4, zp4, zn4, rfl, by decide +kernel, fun j hj b base => by
    have : defaultValue (zty 4 j) = .null ∨ defaultValue (zty 4 j) = .int 0 ∨ defaultValue (zty 4 j) = .long 0 := (by decide +kernel : ∀ j, j < 2 → (defaultValue (zty 4 j) = .null ∨ defaultValue (zty 4 j) = .int 0 ∨ defaultValue (zty 4 j) = .long 0)) j hj
    rcases this with h | h | h <;> rw [h] <;> rfl, List.mem_of_getElem? (i := 106) (by decide +kernel), List.mem_of_getElem? (i := 84) (by decide +kernel)⟩
theorem zcok5 : zcOk 5 := ⟨rfl, zcw5, zp5, zn5, rfl, by decide +kernel, fun j hj b base => by
    have : defaultValue (zty 5 j) = .null ∨ defaultValue (zty 5 j) = .int 0 ∨ defaultValue (zty 5 j) = .long 0 := (by decide +kernel : ∀ j, j < 16 → (defaultValue (zty 5 j) = .null ∨ defaultValue (zty 5 j) = .int 0 ∨ defaultValue (zty 5 j) = .long 0)) j hj
    rcases this with h | h | h <;> rw [h] <;> rfl, List.mem_of_getElem? (i := 149) (by decide +kernel), List.mem_of_getElem? (i := 86) (by decide +kernel)⟩
theorem zcok6 : zcOk 6 := ⟨rfl, zcw6, zp6, zn6, rfl, by decide +kernel, fun j hj b base => by
    have : defaultValue (zty 6 j) = .null ∨ defaultValue (zty 6 j) = .int 0 ∨ defaultValue (zty 6 j) = .long 0 := (by decide +kernel : ∀ j, j < 7 → (defaultValue (zty 6 j) = .null ∨ defaultValue (zty 6 j) = .int 0 ∨ defaultValue (zty 6 j) = .long 0)) j hj
    rcases this with h | h | h <;> rw [h] <;> rfl, List.mem_of_getElem? (i := 271) (by decide +kernel), List.mem_of_getElem? (i := 89) (by decide +kernel)⟩
theorem zcok7 : zcOk 7 := ⟨rfl, zcw7, zp7, zn7, rfl, by decide +kernel, fun j hj b base => by
    have : defaultValue (zty 7 j) = .null ∨ defaultValue (zty 7 j) = .int 0 ∨ defaultValue (zty 7 j) = .long 0 := (by decide +kernel : ∀ j, j < 2 → (defaultValue (zty 7 j) = .null ∨ defaultValue (zty 7 j) = .int 0 ∨ defaultValue (zty 7 j) = .long 0)) j hj
    rcases this with h | h | h <;> rw [h] <;> rfl, List.mem_of_getElem? (i := 303) (by decide +kernel), List.mem_of_getElem? (i := 90) (by decide +kernel)⟩
theorem zcok8 : zcOk 8 := ⟨rfl, zcw8, zp8, zn8, rfl, by decide +kernel, fun j hj b base => by
    have : defaultValue (zty 8 j) = .null ∨ defaultValue (zty 8 j) = .int 0 ∨ defaultValue (zty 8 j) = .long 0 := (by decide +kernel : ∀ j, j < 5 → (defaultValue (zty 8 j) = .null ∨ defaultValue (zty 8 j) = .int 0 ∨ defaultValue (zty 8 j) = .long 0)) j hj
    rcases this with h | h | h <;> rw [h] <;> rfl, List.mem_of_getElem? (i := 221) (by decide +kernel), List.mem_of_getElem? (i := 87) (by decide +kernel)⟩
theorem zcok9 : zcOk 9 := ⟨rfl, zcw9, zp9, zn9, rfl, by decide +kernel, fun j hj b base => by
    have : defaultValue (zty 9 j) = .null ∨ defaultValue (zty 9 j) = .int 0 ∨ defaultValue (zty 9 j) = .long 0 := (by decide +kernel : ∀ j, j < 17 → (defaultValue (zty 9 j) = .null ∨ defaultValue (zty 9 j) = .int 0 ∨ defaultValue (zty 9 j) = .long 0)) j hj
    rcases this with h | h | h <;> rw [h] <;> rfl, List.mem_of_getElem? (i := 98) (by decide +kernel), List.mem_of_getElem? (i := 83) (by decide +kernel)⟩
theorem zcok10 : zcOk 10 := ⟨rfl, zcw10, zp10, zn10, rfl, by decide +kernel, fun j hj b base => by
    have : defaultValue (zty 10 j) = .null ∨ defaultValue (zty 10 j) = .int 0 ∨ defaultValue (zty 10 j) = .long 0 := (by decide +kernel : ∀ j, j < 33 → (defaultValue (zty 10 j) = .null ∨ defaultValue (zty 10 j) = .int 0 ∨ defaultValue (zty 10 j) = .long 0)) j hj
    rcases this with h | h | h <;> rw [h] <;> rfl, List.mem_of_getElem? (i := 807) (by decide +kernel), List.mem_of_getElem? (i := 93) (by decide +kernel)⟩
theorem zcok : ∀ ci, ci < 11 → zcOk ci := by
  have h : ∀ ci ∈ List.range 11, zcOk ci := by
    show ∀ ci ∈ [0, 1, 2, 3, 4, 5, 6, 7, 8, 9, 10], zcOk ci
    exact List.forall_mem_cons.mpr ⟨zcok0, List.forall_mem_cons.mpr ⟨zcok1, List.forall_mem_cons.mpr ⟨zcok2, List.forall_mem_cons.mpr ⟨zcok3, List.forall_mem_cons.mpr ⟨zcok4, List.forall_mem_cons.mpr ⟨zcok5, List.forall_mem_cons.mpr ⟨zcok6, List.forall_mem_cons.mpr ⟨zcok7, List.forall_mem_cons.mpr ⟨zcok8, List.forall_mem_cons.mpr ⟨zcok9, List.forall_mem_cons.mpr ⟨zcok10, fun _ h => absurd h List.not_mem_nil⟩⟩⟩⟩⟩⟩⟩⟩⟩⟩⟩
  exact fun ci hc => h ci (List.mem_range.mpr hc)
/-- what is known of a method by its number -/
def zmOk (z : Nat) : Prop := lw_tbl[mCp z]? = some (.code (mN z) (mB z) (mL z) (mR z))
def zmq : List (Nat × Nat × Nat) := [(0, 0, 0), (100, 0, 83), (103, 0, 0), (108, 0, 84), (124, 0, 85), (151, 0, 86), (223, 0, 87), (251, 0, 88), (273, 0, 89), (305, 0, 90), (320, 0, 91), (335, 0, 92), (414, 415, 83), (418, 0, 83), (422, 0, 84), (425, 426, 83), (429, 430, 83), (434, 1, 85), (438, 2, 86), (441, 0, 94), (445, 3, 85), (449, 4, 84), (453, 5, 85), (458, 6, 85), (462, 7, 86), (466, 8, 86), (470, 9, 86), (474, 10, 86), (478, 11, 86), (482, 12, 86), (486, 13, 86), (490, 14, 86), (493, 494, 83), (498, 15, 87), (502, 503, 83), (507, 16, 83), (511, 17, 83), (514, 0, 83), (518, 18, 87), (522, 19, 86), (525, 526, 83), (530, 20, 83), (534, 21, 88), (539, 22, 87), (543, 0, 88), (548, 23, 88), (552, 24, 88), (555, 556, 83), (560, 25, 83), (564, 26, 83), (568, 27, 90), (571, 0, 90), (575, 28, 88), (580, 29, 88), (583, 584, 83), (587, 0, 95), (591, 30, 88), (596, 31, 91), (599, 0, 95), (602, 0, 91), (605, 606, 83), (610, 32, 90), (613, 614, 83), (618, 33, 83), (622, 34, 89), (627, 35, 89), (632, 36, 89), (635, 0, 95), (638, 639, 83), (644, 37, 89), (648, 649, 83), (653, 38, 89), (657, 39, 86), (661, 40, 89), (664, 0, 95), (668, 41, 89), (672, 673, 83), (677, 0, 96), (684, 42, 86), (687, 688, 83), (693, 43, 92), (697, 44, 92), (705, 45, 92), (710, 46, 92), (713, 714, 83), (718, 47, 87), (722, 723, 83), (726, 727, 83), (731, 48, 83), (734, 735, 83), (739, 49, 83), (743, 50, 88), (747, 748, 83), (752, 51, 83), (756, 52, 89), (762, 53, 87), (766, 54, 87), (771, 772, 83), (775, 776, 83), (779, 780, 83), (784, 55, 87), (787, 788, 83), (792, 56, 83), (795, 796, 83), (799, 800, 83), (804, 57, 87), (809, 0, 93), (913, 914, 93), (918, 0, 93), (921, 922, 93), (925, 926, 93), (930, 58, 93), (934, 59, 93), (941, 60, 93), (945, 61, 93), (948, 949, 93), (953, 954, 93), (958, 62, 93), (962, 63, 93), (965, 0, 93), (970, 64, 93), (973, 974, 93), (978, 65, 93), (982, 66, 93), (986, 67, 93), (990, 68, 93), (993, 0, 93), (997, 69, 93), (1000, 0, 93), (1003, 1004, 93), (1008, 70, 93), (1012, 71, 93), (1016, 72, 93), (1019, 1020, 93), (1026, 73, 93), (1029, 1030, 93), (1033, 1034, 93), (1039, 74, 93), (1043, 75, 93), (1046, 1047, 93), (1050, 1051, 93), (1055, 76, 93), (1059, 77, 93), (1062, 1063, 93), (1068, 78, 93), (1072, 79, 93), (1075, 1076, 93), (1080, 1081, 93), (1084, 1085, 93), (1089, 1090, 93), (1094, 1095, 93), (1100, 1101, 93), (1105, 80, 93), (1108, 1109, 93), (1113, 1114, 93), (1117, 1118, 93), (1123, 81, 93), (1126, 1127, 93), (1130, 1131, 93), (1134, 1135, 93)]
def zmc (z : Nat) : Bool := plainFor (mN z) && decide ((mN z).cls ≠ "java/lang/invoke/MethodHandle") && decide ((mN z).cls ≠ "java/lang/invoke/VarHandle") && decide ((parseMethodDescriptor (mN z).desc).map (fun d => d.parameters.length) = some (mPn z)) && decide (zcn.getD (mC z) "" = (mN z).cls) && decide (lw_tbl[(zmq.getD z (0, 0, 0)).1]? = some (if mSt z = 1 then Cond.static (mN z) else Cond.instanceMethod (mN z))) && (decide (mSt z = 1) || decide ((mN z).name = "<init>") || decide (lw_tbl[(zmq.getD z (0, 0, 0)).2.1]? = some (Cond.selects (mN z).cls (mN z) (mN z)))) && decide (lw_tbl[(zmq.getD z (0, 0, 0)).2.2]? = some (Cond.initialized (mN z).cls)) && ((decide (mSt z = 1)) || decide (mC z < 11))
theorem zmc_all : (List.range 160).all (fun z => z == 0 || z == 2 || zmc z) = true := by decide +kernel
set_option maxRecDepth 100000 in
theorem zq1 : zmOk 1 := rfl
set_option maxRecDepth 100000 in
theorem zq2 : zmOk 2 := rfl
set_option maxRecDepth 100000 in
theorem zq3 : zmOk 3 := rfl
set_option maxRecDepth 100000 in
theorem zq4 : zmOk 4 := rfl
set_option maxRecDepth 100000 in
theorem zq5 : zmOk 5 := rfl
set_option maxRecDepth 100000 in
theorem zq6 : zmOk 6 := rfl
set_option maxRecDepth 100000 in
theorem zq7 : zmOk 7 := rfl
set_option maxRecDepth 100000 in
theorem zq8 : zmOk 8 := rfl
set_option maxRecDepth 100000 in
theorem zq9 : zmOk 9 := rfl
set_option maxRecDepth 100000 in
theorem zq10 : zmOk 10 := rfl
set_option maxRecDepth 100000 in
theorem zq11 : zmOk 11 := rfl
set_option maxRecDepth 100000 in
theorem zq12 : zmOk 12 := rfl
set_option maxRecDepth 100000 in
theorem zq13 : zmOk 13 := rfl
set_option maxRecDepth 100000 in
theorem zq14 : zmOk 14 := rfl
set_option maxRecDepth 100000 in
theorem zq15 : zmOk 15 := rfl
set_option maxRecDepth 100000 in
theorem zq16 : zmOk 16 := rfl
set_option maxRecDepth 100000 in
theorem zq17 : zmOk 17 := rfl
set_option maxRecDepth 100000 in
theorem zq18 : zmOk 18 := rfl
set_option maxRecDepth 100000 in
theorem zq19 : zmOk 19 := rfl
set_option maxRecDepth 100000 in
theorem zq20 : zmOk 20 := rfl
set_option maxRecDepth 100000 in
theorem zq21 : zmOk 21 := rfl
set_option maxRecDepth 100000 in
theorem zq22 : zmOk 22 := rfl
set_option maxRecDepth 100000 in
theorem zq23 : zmOk 23 := rfl
set_option maxRecDepth 100000 in
theorem zq24 : zmOk 24 := rfl
set_option maxRecDepth 100000 in
theorem zq25 : zmOk 25 := rfl
set_option maxRecDepth 100000 in
theorem zq26 : zmOk 26 := rfl
set_option maxRecDepth 100000 in
theorem zq27 : zmOk 27 := rfl
set_option maxRecDepth 100000 in
theorem zq28 : zmOk 28 := rfl
set_option maxRecDepth 100000 in
theorem zq29 : zmOk 29 := rfl
set_option maxRecDepth 100000 in
theorem zq30 : zmOk 30 := rfl
set_option maxRecDepth 100000 in
theorem zq31 : zmOk 31 := rfl
set_option maxRecDepth 100000 in
theorem zq32 : zmOk 32 := rfl
set_option maxRecDepth 100000 in
theorem zq33 : zmOk 33 := rfl
set_option maxRecDepth 100000 in
theorem zq34 : zmOk 34 := rfl
set_option maxRecDepth 100000 in
theorem zq35 : zmOk 35 := rfl
set_option maxRecDepth 100000 in
theorem zq36 : zmOk 36 := rfl
set_option maxRecDepth 100000 in
theorem zq37 : zmOk 37 := rfl
set_option maxRecDepth 100000 in
theorem zq38 : zmOk 38 := rfl
set_option maxRecDepth 100000 in
theorem zq39 : zmOk 39 := rfl
set_option maxRecDepth 100000 in
theorem zq40 : zmOk 40 := rfl
set_option maxRecDepth 100000 in
theorem zq41 : zmOk 41 := rfl
set_option maxRecDepth 100000 in
theorem zq42 : zmOk 42 := rfl
set_option maxRecDepth 100000 in
theorem zq43 : zmOk 43 := rfl
set_option maxRecDepth 100000 in
theorem zq44 : zmOk 44 := rfl
set_option maxRecDepth 100000 in
theorem zq45 : zmOk 45 := rfl
set_option maxRecDepth 100000 in
theorem zq46 : zmOk 46 := rfl
set_option maxRecDepth 100000 in
theorem zq47 : zmOk 47 := rfl
set_option maxRecDepth 100000 in
theorem zq48 : zmOk 48 := rfl
set_option maxRecDepth 100000 in
theorem zq49 : zmOk 49 := rfl
set_option maxRecDepth 100000 in
theorem zq50 : zmOk 50 := rfl
set_option maxRecDepth 100000 in
theorem zq51 : zmOk 51 := rfl
set_option maxRecDepth 100000 in
theorem zq52 : zmOk 52 := rfl
set_option maxRecDepth 100000 in
theorem zq53 : zmOk 53 := rfl
set_option maxRecDepth 100000 in
theorem zq54 : zmOk 54 := rfl
set_option maxRecDepth 100000 in
theorem zq55 : zmOk 55 := rfl
set_option maxRecDepth 100000 in
theorem zq56 : zmOk 56 := rfl
set_option maxRecDepth 100000 in
theorem zq57 : zmOk 57 := rfl
set_option maxRecDepth 100000 in
theorem zq58 : zmOk 58 := rfl
set_option maxRecDepth 100000 in
theorem zq59 : zmOk 59 := rfl
set_option maxRecDepth 100000 in
theorem zq60 : zmOk 60 := rfl
set_option maxRecDepth 100000 in
theorem zq61 : zmOk 61 := rfl
set_option maxRecDepth 100000 in
theorem zq62 : zmOk 62 := rfl
set_option maxRecDepth 100000 in
theorem zq63 : zmOk 63 := rfl
set_option maxRecDepth 100000 in
theorem zq64 : zmOk 64 := rfl
set_option maxRecDepth 100000 in
theorem zq65 : zmOk 65 := rfl
set_option maxRecDepth 100000 in
theorem zq66 : zmOk 66 := rfl
set_option maxRecDepth 100000 in
theorem zq67 : zmOk 67 := rfl
set_option maxRecDepth 100000 in
theorem zq68 : zmOk 68 := rfl
set_option maxRecDepth 100000 in
theorem zq69 : zmOk 69 := rfl
set_option maxRecDepth 100000 in
theorem zq70 : zmOk 70 := rfl
set_option maxRecDepth 100000 in
theorem zq71 : zmOk 71 := rfl
set_option maxRecDepth 100000 in
theorem zq72 : zmOk 72 := rfl
set_option maxRecDepth 100000 in
theorem zq73 : zmOk 73 := rfl
set_option maxRecDepth 100000 in
theorem zq74 : zmOk 74 := rfl
set_option maxRecDepth 100000 in
theorem zq75 : zmOk 75 := rfl
set_option maxRecDepth 100000 in
theorem zq76 : zmOk 76 := rfl
set_option maxRecDepth 100000 in
theorem zq77 : zmOk 77 := rfl
set_option maxRecDepth 100000 in
theorem zq78 : zmOk 78 := rfl
set_option maxRecDepth 100000 in
theorem zq79 : zmOk 79 := rfl
set_option maxRecDepth 100000 in
theorem zq80 : zmOk 80 := rfl
set_option maxRecDepth 100000 in
theorem zq81 : zmOk 81 := rfl
set_option maxRecDepth 100000 in
theorem zq82 : zmOk 82 := rfl
set_option maxRecDepth 100000 in
theorem zq83 : zmOk 83 := rfl
set_option maxRecDepth 100000 in
theorem zq84 : zmOk 84 := rfl
set_option maxRecDepth 100000 in
theorem zq85 : zmOk 85 := rfl
set_option maxRecDepth 100000 in
theorem zq86 : zmOk 86 := rfl
set_option maxRecDepth 100000 in
theorem zq87 : zmOk 87 := rfl
set_option maxRecDepth 100000 in
theorem zq88 : zmOk 88 := rfl
set_option maxRecDepth 100000 in
theorem zq89 : zmOk 89 := rfl
set_option maxRecDepth 100000 in
theorem zq90 : zmOk 90 := rfl
set_option maxRecDepth 100000 in
theorem zq91 : zmOk 91 := rfl
set_option maxRecDepth 100000 in
theorem zq92 : zmOk 92 := rfl
set_option maxRecDepth 100000 in
theorem zq93 : zmOk 93 := rfl
set_option maxRecDepth 100000 in
theorem zq94 : zmOk 94 := rfl
set_option maxRecDepth 100000 in
theorem zq95 : zmOk 95 := rfl
set_option maxRecDepth 100000 in
theorem zq96 : zmOk 96 := rfl
set_option maxRecDepth 100000 in
theorem zq97 : zmOk 97 := rfl
set_option maxRecDepth 100000 in
theorem zq98 : zmOk 98 := rfl
set_option maxRecDepth 100000 in
theorem zq99 : zmOk 99 := rfl
set_option maxRecDepth 100000 in
theorem zq100 : zmOk 100 := rfl
set_option maxRecDepth 100000 in
theorem zq101 : zmOk 101 := rfl
set_option maxRecDepth 100000 in
theorem zq102 : zmOk 102 := rfl
set_option maxRecDepth 100000 in
theorem zq103 : zmOk 103 := rfl
set_option maxRecDepth 100000 in
theorem zq104 : zmOk 104 := rfl
set_option maxRecDepth 100000 in
theorem zq105 : zmOk 105 := rfl
set_option maxRecDepth 100000 in
theorem zq106 : zmOk 106 := rfl
set_option maxRecDepth 100000 in
theorem zq107 : zmOk 107 := rfl
set_option maxRecDepth 100000 in
theorem zq108 : zmOk 108 := rfl
set_option maxRecDepth 100000 in
theorem zq109 : zmOk 109 := rfl
set_option maxRecDepth 100000 in
theorem zq110 : zmOk 110 := rfl
set_option maxRecDepth 100000 in
theorem zq111 : zmOk 111 := rfl
set_option maxRecDepth 100000 in
theorem zq112 : zmOk 112 := rfl
set_option maxRecDepth 100000 in
theorem zq113 : zmOk 113 := rfl
set_option maxRecDepth 100000 in
theorem zq114 : zmOk 114 := rfl
set_option maxRecDepth 100000 in
theorem zq115 : zmOk 115 := rfl
set_option maxRecDepth 100000 in
theorem zq116 : zmOk 116 := rfl
set_option maxRecDepth 100000 in
theorem zq117 : zmOk 117 := rfl
set_option maxRecDepth 100000 in
theorem zq118 : zmOk 118 := rfl
set_option maxRecDepth 100000 in
theorem zq119 : zmOk 119 := rfl
set_option maxRecDepth 100000 in
theorem zq120 : zmOk 120 := rfl
set_option maxRecDepth 100000 in
theorem zq121 : zmOk 121 := rfl
set_option maxRecDepth 100000 in
theorem zq122 : zmOk 122 := rfl
set_option maxRecDepth 100000 in
theorem zq123 : zmOk 123 := rfl
set_option maxRecDepth 100000 in
theorem zq124 : zmOk 124 := rfl
set_option maxRecDepth 100000 in
theorem zq125 : zmOk 125 := rfl
set_option maxRecDepth 100000 in
theorem zq126 : zmOk 126 := rfl
set_option maxRecDepth 100000 in
theorem zq127 : zmOk 127 := rfl
set_option maxRecDepth 100000 in
theorem zq128 : zmOk 128 := rfl
set_option maxRecDepth 100000 in
theorem zq129 : zmOk 129 := rfl
set_option maxRecDepth 100000 in
theorem zq130 : zmOk 130 := rfl
set_option maxRecDepth 100000 in
theorem zq131 : zmOk 131 := rfl
set_option maxRecDepth 100000 in
theorem zq132 : zmOk 132 := rfl
set_option maxRecDepth 100000 in
theorem zq133 : zmOk 133 := rfl
set_option maxRecDepth 100000 in
theorem zq134 : zmOk 134 := rfl
set_option maxRecDepth 100000 in
theorem zq135 : zmOk 135 := rfl
set_option maxRecDepth 100000 in
theorem zq136 : zmOk 136 := rfl
set_option maxRecDepth 100000 in
theorem zq137 : zmOk 137 := rfl
set_option maxRecDepth 100000 in
theorem zq138 : zmOk 138 := rfl
set_option maxRecDepth 100000 in
theorem zq139 : zmOk 139 := rfl
set_option maxRecDepth 100000 in
theorem zq140 : zmOk 140 := rfl
set_option maxRecDepth 100000 in
theorem zq141 : zmOk 141 := rfl
set_option maxRecDepth 100000 in
theorem zq142 : zmOk 142 := rfl
set_option maxRecDepth 100000 in
theorem zq143 : zmOk 143 := rfl
set_option maxRecDepth 100000 in
theorem zq144 : zmOk 144 := rfl
set_option maxRecDepth 100000 in
theorem zq145 : zmOk 145 := rfl
set_option maxRecDepth 100000 in
theorem zq146 : zmOk 146 := rfl
set_option maxRecDepth 100000 in
theorem zq147 : zmOk 147 := rfl
set_option maxRecDepth 100000 in
theorem zq148 : zmOk 148 := rfl
set_option maxRecDepth 100000 in
theorem zq149 : zmOk 149 := rfl
set_option maxRecDepth 100000 in
theorem zq150 : zmOk 150 := rfl
set_option maxRecDepth 100000 in
theorem zq151 : zmOk 151 := rfl
set_option maxRecDepth 100000 in
theorem zq152 : zmOk 152 := rfl
set_option maxRecDepth 100000 in
theorem zq153 : zmOk 153 := rfl
set_option maxRecDepth 100000 in
theorem zq154 : zmOk 154 := rfl
set_option maxRecDepth 100000 in
theorem zq155 : zmOk 155 := rfl
set_option maxRecDepth 100000 in
theorem zq156 : zmOk 156 := rfl
set_option maxRecDepth 100000 in
theorem zq157 : zmOk 157 := rfl
set_option maxRecDepth 100000 in
theorem zq158 : zmOk 158 := rfl
set_option maxRecDepth 100000 in
theorem zq159 : zmOk 159 := rfl
theorem zq : ∀ z, z < 160 → z ≠ 0 → zmOk z := by
  have h0_ : ∀ z ∈ [1, 2, 3, 4, 5, 6, 7, 8, 9, 10, 11, 12, 13, 14, 15, 16, 17, 18, 19, 20, 21, 22, 23, 24, 25, 26, 27, 28, 29, 30, 31, 32, 33, 34, 35, 36, 37, 38, 39, 40], zmOk z := List.forall_mem_cons.mpr ⟨zq1, List.forall_mem_cons.mpr ⟨zq2, List.forall_mem_cons.mpr ⟨zq3, List.forall_mem_cons.mpr ⟨zq4, List.forall_mem_cons.mpr ⟨zq5, List.forall_mem_cons.mpr ⟨zq6, List.forall_mem_cons.mpr ⟨zq7, List.forall_mem_cons.mpr ⟨zq8, List.forall_mem_cons.mpr ⟨zq9, List.forall_mem_cons.mpr ⟨zq10, List.forall_mem_cons.mpr ⟨zq11, List.forall_mem_cons.mpr ⟨zq12, List.forall_mem_cons.mpr ⟨zq13, List.forall_mem_cons.mpr ⟨zq14, List.forall_mem_cons.mpr ⟨zq15, List.forall_mem_cons.mpr ⟨zq16, List.forall_mem_cons.mpr ⟨zq17, List.forall_mem_cons.mpr ⟨zq18, List.forall_mem_cons.mpr ⟨zq19, List.forall_mem_cons.mpr ⟨zq20, List.forall_mem_cons.mpr ⟨zq21, List.forall_mem_cons.mpr ⟨zq22, List.forall_mem_cons.mpr ⟨zq23, List.forall_mem_cons.mpr ⟨zq24, List.forall_mem_cons.mpr ⟨zq25, List.forall_mem_cons.mpr ⟨zq26, List.forall_mem_cons.mpr ⟨zq27, List.forall_mem_cons.mpr ⟨zq28, List.forall_mem_cons.mpr ⟨zq29, List.forall_mem_cons.mpr ⟨zq30, List.forall_mem_cons.mpr ⟨zq31, List.forall_mem_cons.mpr ⟨zq32, List.forall_mem_cons.mpr ⟨zq33, List.forall_mem_cons.mpr ⟨zq34, List.forall_mem_cons.mpr ⟨zq35, List.forall_mem_cons.mpr ⟨zq36, List.forall_mem_cons.mpr ⟨zq37, List.forall_mem_cons.mpr ⟨zq38, List.forall_mem_cons.mpr ⟨zq39, List.forall_mem_cons.mpr ⟨zq40, fun _ h => absurd h List.not_mem_nil⟩⟩⟩⟩⟩⟩⟩⟩⟩⟩⟩⟩⟩⟩⟩⟩⟩⟩⟩⟩⟩⟩⟩⟩⟩⟩⟩⟩⟩⟩⟩⟩⟩⟩⟩⟩⟩⟩⟩⟩
  have h1 : ∀ z ∈ [41, 42, 43, 44, 45, 46, 47, 48, 49, 50, 51, 52, 53, 54, 55, 56, 57, 58, 59, 60, 61, 62, 63, 64, 65, 66, 67, 68, 69, 70, 71, 72, 73, 74, 75, 76, 77, 78, 79, 80], zmOk z := List.forall_mem_cons.mpr ⟨zq41, List.forall_mem_cons.mpr ⟨zq42, List.forall_mem_cons.mpr ⟨zq43, List.forall_mem_cons.mpr ⟨zq44, List.forall_mem_cons.mpr ⟨zq45, List.forall_mem_cons.mpr ⟨zq46, List.forall_mem_cons.mpr ⟨zq47, List.forall_mem_cons.mpr ⟨zq48, List.forall_mem_cons.mpr ⟨zq49, List.forall_mem_cons.mpr ⟨zq50, List.forall_mem_cons.mpr ⟨zq51, List.forall_mem_cons.mpr ⟨zq52, List.forall_mem_cons.mpr ⟨zq53, List.forall_mem_cons.mpr ⟨zq54, List.forall_mem_cons.mpr ⟨zq55, List.forall_mem_cons.mpr ⟨zq56, List.forall_mem_cons.mpr ⟨zq57, List.forall_mem_cons.mpr ⟨zq58, List.forall_mem_cons.mpr ⟨zq59, List.forall_mem_cons.mpr ⟨zq60, List.forall_mem_cons.mpr ⟨zq61, List.forall_mem_cons.mpr ⟨zq62, List.forall_mem_cons.mpr ⟨zq63, List.forall_mem_cons.mpr ⟨zq64, List.forall_mem_cons.mpr ⟨zq65, List.forall_mem_cons.mpr ⟨zq66, List.forall_mem_cons.mpr ⟨zq67, List.forall_mem_cons.mpr ⟨zq68, List.forall_mem_cons.mpr ⟨zq69, List.forall_mem_cons.mpr ⟨zq70, List.forall_mem_cons.mpr ⟨zq71, List.forall_mem_cons.mpr ⟨zq72, List.forall_mem_cons.mpr ⟨zq73, List.forall_mem_cons.mpr ⟨zq74, List.forall_mem_cons.mpr ⟨zq75, List.forall_mem_cons.mpr ⟨zq76, List.forall_mem_cons.mpr ⟨zq77, List.forall_mem_cons.mpr ⟨zq78, List.forall_mem_cons.mpr ⟨zq79, List.forall_mem_cons.mpr ⟨zq80, fun _ h => absurd h List.not_mem_nil⟩⟩⟩⟩⟩⟩⟩⟩⟩⟩⟩⟩⟩⟩⟩⟩⟩⟩⟩⟩⟩⟩⟩⟩⟩⟩⟩⟩⟩⟩⟩⟩⟩⟩⟩⟩⟩⟩⟩⟩
  have h2 : ∀ z ∈ [81, 82, 83, 84, 85, 86, 87, 88, 89, 90, 91, 92, 93, 94, 95, 96, 97, 98, 99, 100, 101, 102, 103, 104, 105, 106, 107, 108, 109, 110, 111, 112, 113, 114, 115, 116, 117, 118, 119, 120], zmOk z := List.forall_mem_cons.mpr ⟨zq81, List.forall_mem_cons.mpr ⟨zq82, List.forall_mem_cons.mpr ⟨zq83, List.forall_mem_cons.mpr ⟨zq84, List.forall_mem_cons.mpr ⟨zq85, List.forall_mem_cons.mpr ⟨zq86, List.forall_mem_cons.mpr ⟨zq87, List.forall_mem_cons.mpr ⟨zq88, List.forall_mem_cons.mpr ⟨zq89, List.forall_mem_cons.mpr ⟨zq90, List.forall_mem_cons.mpr ⟨zq91, List.forall_mem_cons.mpr ⟨zq92, List.forall_mem_cons.mpr ⟨zq93, List.forall_mem_cons.mpr ⟨zq94, List.forall_mem_cons.mpr ⟨zq95, List.forall_mem_cons.mpr ⟨zq96, List.forall_mem_cons.mpr ⟨zq97, List.forall_mem_cons.mpr ⟨zq98, List.forall_mem_cons.mpr ⟨zq99, List.forall_mem_cons.mpr ⟨zq100, List.forall_mem_cons.mpr ⟨zq101, List.forall_mem_cons.mpr ⟨zq102, List.forall_mem_cons.mpr ⟨zq103, List.forall_mem_cons.mpr ⟨zq104, List.forall_mem_cons.mpr ⟨zq105, List.forall_mem_cons.mpr ⟨zq106, List.forall_mem_cons.mpr ⟨zq107, List.forall_mem_cons.mpr ⟨zq108, List.forall_mem_cons.mpr ⟨zq109, List.forall_mem_cons.mpr ⟨zq110, List.forall_mem_cons.mpr ⟨zq111, List.forall_mem_cons.mpr ⟨zq112, List.forall_mem_cons.mpr ⟨zq113, List.forall_mem_cons.mpr ⟨zq114, List.forall_mem_cons.mpr ⟨zq115, List.forall_mem_cons.mpr ⟨zq116, List.forall_mem_cons.mpr ⟨zq117, List.forall_mem_cons.mpr ⟨zq118, List.forall_mem_cons.mpr ⟨zq119, List.forall_mem_cons.mpr ⟨zq120, fun _ h => absurd h List.not_mem_nil⟩⟩⟩⟩⟩⟩⟩⟩⟩⟩⟩⟩⟩⟩⟩⟩⟩⟩⟩⟩⟩⟩⟩⟩⟩⟩⟩⟩⟩⟩⟩⟩⟩⟩⟩⟩⟩⟩⟩⟩
  have h3 : ∀ z ∈ [121, 122, 123, 124, 125, 126, 127, 128, 129, 130, 131, 132, 133, 134, 135, 136, 137, 138, 139, 140, 141, 142, 143, 144, 145, 146, 147, 148, 149, 150, 151, 152, 153, 154, 155, 156, 157, 158, 159], zmOk z := List.forall_mem_cons.mpr ⟨zq121, List.forall_mem_cons.mpr ⟨zq122, List.forall_mem_cons.mpr ⟨zq123, List.forall_mem_cons.mpr ⟨zq124, List.forall_mem_cons.mpr ⟨zq125, List.forall_mem_cons.mpr ⟨zq126, List.forall_mem_cons.mpr ⟨zq127, List.forall_mem_cons.mpr ⟨zq128, List.forall_mem_cons.mpr ⟨zq129, List.forall_mem_cons.mpr ⟨zq130, List.forall_mem_cons.mpr ⟨zq131, List.forall_mem_cons.mpr ⟨zq132, List.forall_mem_cons.mpr ⟨zq133, List.forall_mem_cons.mpr ⟨zq134, List.forall_mem_cons.mpr ⟨zq135, List.forall_mem_cons.mpr ⟨zq136, List.forall_mem_cons.mpr ⟨zq137, List.forall_mem_cons.mpr ⟨zq138, List.forall_mem_cons.mpr ⟨zq139, List.forall_mem_cons.mpr ⟨zq140, List.forall_mem_cons.mpr ⟨zq141, List.forall_mem_cons.mpr ⟨zq142, List.forall_mem_cons.mpr ⟨zq143, List.forall_mem_cons.mpr ⟨zq144, List.forall_mem_cons.mpr ⟨zq145, List.forall_mem_cons.mpr ⟨zq146, List.forall_mem_cons.mpr ⟨zq147, List.forall_mem_cons.mpr ⟨zq148, List.forall_mem_cons.mpr ⟨zq149, List.forall_mem_cons.mpr ⟨zq150, List.forall_mem_cons.mpr ⟨zq151, List.forall_mem_cons.mpr ⟨zq152, List.forall_mem_cons.mpr ⟨zq153, List.forall_mem_cons.mpr ⟨zq154, List.forall_mem_cons.mpr ⟨zq155, List.forall_mem_cons.mpr ⟨zq156, List.forall_mem_cons.mpr ⟨zq157, List.forall_mem_cons.mpr ⟨zq158, List.forall_mem_cons.mpr ⟨zq159, fun _ h => absurd h List.not_mem_nil⟩⟩⟩⟩⟩⟩⟩⟩⟩⟩⟩⟩⟩⟩⟩⟩⟩⟩⟩⟩⟩⟩⟩⟩⟩⟩⟩⟩⟩⟩⟩⟩⟩⟩⟩⟩⟩⟩⟩
  intro z hz h0
  have hm : z ∈ [1, 2, 3, 4, 5, 6, 7, 8, 9, 10, 11, 12, 13, 14, 15, 16, 17, 18, 19, 20, 21, 22, 23, 24, 25, 26, 27, 28, 29, 30, 31, 32, 33, 34, 35, 36, 37, 38, 39, 40] ++ ([41, 42, 43, 44, 45, 46, 47, 48, 49, 50, 51, 52, 53, 54, 55, 56, 57, 58, 59, 60, 61, 62, 63, 64, 65, 66, 67, 68, 69, 70, 71, 72, 73, 74, 75, 76, 77, 78, 79, 80] ++ ([81, 82, 83, 84, 85, 86, 87, 88, 89, 90, 91, 92, 93, 94, 95, 96, 97, 98, 99, 100, 101, 102, 103, 104, 105, 106, 107, 108, 109, 110, 111, 112, 113, 114, 115, 116, 117, 118, 119, 120] ++ ([121, 122, 123, 124, 125, 126, 127, 128, 129, 130, 131, 132, 133, 134, 135, 136, 137, 138, 139, 140, 141, 142, 143, 144, 145, 146, 147, 148, 149, 150, 151, 152, 153, 154, 155, 156, 157, 158, 159]))) := by
    have h : ∀ k ∈ List.range 160, k ≠ 0 → k ∈ [1, 2, 3, 4, 5, 6, 7, 8, 9, 10, 11, 12, 13, 14, 15, 16, 17, 18, 19, 20, 21, 22, 23, 24, 25, 26, 27, 28, 29, 30, 31, 32, 33, 34, 35, 36, 37, 38, 39, 40] ++ ([41, 42, 43, 44, 45, 46, 47, 48, 49, 50, 51, 52, 53, 54, 55, 56, 57, 58, 59, 60, 61, 62, 63, 64, 65, 66, 67, 68, 69, 70, 71, 72, 73, 74, 75, 76, 77, 78, 79, 80] ++ ([81, 82, 83, 84, 85, 86, 87, 88, 89, 90, 91, 92, 93, 94, 95, 96, 97, 98, 99, 100, 101, 102, 103, 104, 105, 106, 107, 108, 109, 110, 111, 112, 113, 114, 115, 116, 117, 118, 119, 120] ++ ([121, 122, 123, 124, 125, 126, 127, 128, 129, 130, 131, 132, 133, 134, 135, 136, 137, 138, 139, 140, 141, 142, 143, 144, 145, 146, 147, 148, 149, 150, 151, 152, 153, 154, 155, 156, 157, 158, 159]))) := by decide +kernel
    exact h z (List.mem_range.mpr hz) h0
  rcases List.mem_append.mp hm with h | hm
  · exact h0_ z h
  rcases List.mem_append.mp hm with h | hm
  · exact h1 z h
  rcases List.mem_append.mp hm with h | h
  · exact h2 z h
  · exact h3 z h
