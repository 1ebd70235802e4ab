-- every step; calls; the whole run
section ZSA
variable {p : Program} {l : Launch} {e : Env} {s : State} {m : MethodId} {args : Array Value} {below : List Frame} {meth : Method} {cd : Code} {Q : State → Prop} {D : va_G} {b base : Nat} {ca : FieldType → ClassId} {X : Nat × (Nat → Int32)} {y pc len : Nat} {L : zL} {st : List Value} {w : zN} {h : zH} {c' : zF}
theorem zs_if (C : zX p s m args meth cd b base X y) {cn : Jvm.ClassFile.Cond} {off : Int} {x : Int32} {st0 : List Value} (hd : decode (mB y) pc = .ok (.ifCond cn off, 3)) (hs : zbr y pc L st0 w h (zcond1 cn x = true) off = some (.inl c')) : zOK p l e s m args below meth cd Q D b base ca y pc L (.int x :: st0) w h (.inl c') := by
  obtain ⟨hx, hb, -⟩ := C
  cases cn
  · exact zs_br hs (fun ht kt kf => lv_if_eq hx hb hd ht (fun hc => kt (decide_eq_true hc)) (fun hc => kf (fun hn => hc (of_decide_eq_true hn))))
  · exact zs_br hs (fun ht kt kf => lv_if_ne hx hb hd ht (fun hc => kt (decide_eq_true hc)) (fun hc => kf (fun hn => of_decide_eq_true hn hc)))
  · exact zs_br hs (fun ht kt kf => lv_if_lt hx hb hd ht (fun hc => kt (decide_eq_true hc)) (fun hc => kf (fun hn => hc (of_decide_eq_true hn))))
  · exact zs_br hs (fun ht kt kf => lv_if_ge hx hb hd ht (fun hc => kt (decide_eq_true hc)) (fun hc => kf (fun hn => hc (of_decide_eq_true hn))))
  · exact zs_br hs (fun ht kt kf => lv_if_gt hx hb hd ht (fun hc => kt (decide_eq_true hc)) (fun hc => kf (fun hn => hc (of_decide_eq_true hn))))
  · exact zs_br hs (fun ht kt kf => lv_if_le hx hb hd ht (fun hc => kt (decide_eq_true hc)) (fun hc => kf (fun hn => hc (of_decide_eq_true hn))))
theorem zs_icmp (C : zX p s m args meth cd b base X y) {cn : Jvm.ClassFile.Cond} {off : Int} {x z : Int32} {st0 : List Value} (hd : decode (mB y) pc = .ok (.if_icmp cn off, 3)) (hs : zbr y pc L st0 w h (zcond2 cn x z = true) off = some (.inl c')) : zOK p l e s m args below meth cd Q D b base ca y pc L (.int z :: .int x :: st0) w h (.inl c') := by
  obtain ⟨hx, hb, -⟩ := C
  cases cn
  · exact zs_br hs (fun ht kt kf => lv_icmp_eq hx hb hd ht (fun hc => kt (decide_eq_true hc)) (fun hc => kf (fun hn => hc (of_decide_eq_true hn))))
  · exact zs_br hs (fun ht kt kf => lv_icmp_ne hx hb hd ht (fun hc => kt (decide_eq_true hc)) (fun hc => kf (fun hn => of_decide_eq_true hn hc)))
  · exact zs_br hs (fun ht kt kf => lv_icmp_lt hx hb hd ht (fun hc => kt (decide_eq_true hc)) (fun hc => kf (fun hn => hc (of_decide_eq_true hn))))
  · exact zs_br hs (fun ht kt kf => lv_icmp_ge hx hb hd ht (fun hc => kt (decide_eq_true hc)) (fun hc => kf (fun hn => hc (of_decide_eq_true hn))))
  · exact zs_br hs (fun ht kt kf => lv_icmp_gt hx hb hd ht (fun hc => kt (decide_eq_true hc)) (fun hc => kf (fun hn => hc (of_decide_eq_true hn))))
  · exact zs_br hs (fun ht kt kf => lv_icmp_le hx hb hd ht (fun hc => kt (decide_eq_true hc)) (fun hc => kf (fun hn => hc (of_decide_eq_true hn))))
theorem zcall_inl {rest as : List Value} {z : Nat} (hs : zcall y pc L rest w h z as = some (.inl c')) : False := by
  unfold zcall at hs
  split at hs <;> cases hs
set_option maxHeartbeats 4000000 in
theorem zs_go (C : zX p s m args meth cd b base X y) {i : Instr} (hd : decode (mB y) pc = .ok (i, len)) (hs : zI X y pc L st w h i len = some (.inl c')) : zOK p l e s m args below meth cd Q D b base ca y pc L st w h (.inl c') := by
  have C0 := C
  obtain ⟨hx, hb, hml, hr, hlk, hown, hT, harr, hnm, h0⟩ := C
  cases i with
  | iconst n =>
    obtain ⟨hl, hs0⟩ := zif_some hs; clear hs; have hs := hs0; clear hs0
    obtain rfl := eq_of_beq hl
    exact zs_push hs (fun k => lv_iconst hx hb hd rfl k)
  | bipush n =>
    obtain ⟨hl, hs0⟩ := zif_some hs; clear hs; have hs := hs0; clear hs0
    obtain rfl := eq_of_beq hl
    exact zs_push hs (fun k => lv_bipush hx hb hd rfl k)
  | sipush n =>
    obtain ⟨hl, hs0⟩ := zif_some hs; clear hs; have hs := hs0; clear hs0
    obtain rfl := eq_of_beq hl
    exact zs_push hs (fun k => lv_sipush hx hb hd rfl k)
  | lconst n =>
    obtain ⟨hl, hs0⟩ := zif_some hs; clear hs; have hs := hs0; clear hs0
    obtain rfl := eq_of_beq hl
    exact zs_push hs (fun k => lv_lconst hx hb hd rfl k)
  | ldc k =>
    obtain ⟨hl, hs0⟩ := zif_some hs; clear hs; have hs := hs0; clear hs0
    obtain rfl := eq_of_beq hl
    split at hs
    · next v hv => exact zs_push hs (fun k => lv_ldc hx hb hown (hT.use (zki_ok hv).1 (zki_ok hv).2 args) hd k)
    · cases hs
  | ldc_w k =>
    obtain ⟨hl, hs0⟩ := zif_some hs; clear hs; have hs := hs0; clear hs0
    obtain rfl := eq_of_beq hl
    split at hs
    · next v hv => exact zs_push hs (fun k => lv_ldcw hx hb hown (hT.use (zki_ok hv).1 (zki_ok hv).2 args) hd k)
    · cases hs
  | ldc2_w k =>
    obtain ⟨hl, hs0⟩ := zif_some hs; clear hs; have hs := hs0; clear hs0
    obtain rfl := eq_of_beq hl
    split at hs
    · next v hv => exact zs_push hs (fun k => lv_ldc2 hx hb hown (hT.use (zkl_ok hv).1 (zkl_ok hv).2 args) hd k)
    · cases hs
  | iload_n k =>
    obtain ⟨hl, hs0⟩ := zif_some hs; clear hs; have hs := hs0; clear hs0
    obtain rfl := eq_of_beq hl
    obtain ⟨v, hv0, hs⟩ := zld_some hs
    obtain ⟨x, rfl, hv⟩ := zint_some hv0
    exact zs_ld hv hs (fun hl k => lv_iload_n hx hb hd rfl hl k)
  | iload k =>
    obtain ⟨hl, hs0⟩ := zif_some hs; clear hs; have hs := hs0; clear hs0
    obtain rfl := eq_of_beq hl
    obtain ⟨v, hv0, hs⟩ := zld_some hs
    obtain ⟨x, rfl, hv⟩ := zint_some hv0
    exact zs_ld hv hs (fun hl k => lv_iload hx hb hd hl k)
  | lload_n k =>
    obtain ⟨hl, hs0⟩ := zif_some hs; clear hs; have hs := hs0; clear hs0
    obtain rfl := eq_of_beq hl
    obtain ⟨v, hv0, hs⟩ := zld_some hs
    obtain ⟨x, rfl, hv⟩ := zlong_some hv0
    exact zs_ld hv hs (fun hl k => lv_lload_n hx hb hd rfl hl k)
  | lload k =>
    obtain ⟨hl, hs0⟩ := zif_some hs; clear hs; have hs := hs0; clear hs0
    obtain rfl := eq_of_beq hl
    obtain ⟨v, hv0, hs⟩ := zld_some hs
    obtain ⟨x, rfl, hv⟩ := zlong_some hv0
    exact zs_ld hv hs (fun hl k => lv_lload hx hb hd hl k)
  | aload_n k =>
    obtain ⟨hl, hs0⟩ := zif_some hs; clear hs; have hs := hs0; clear hs0
    obtain rfl := eq_of_beq hl
    obtain ⟨v, hv0, hs⟩ := zld_some hs
    obtain ⟨⟨a, ha⟩, hv⟩ := zref_some hv0 b base
    exact zs_ld hv hs (fun hl k => by rw [ha] at hl k; exact lv_aload_n hx hb hd rfl hl k)
  | aload k =>
    obtain ⟨hl, hs0⟩ := zif_some hs; clear hs; have hs := hs0; clear hs0
    obtain rfl := eq_of_beq hl
    obtain ⟨v, hv0, hs⟩ := zld_some hs
    obtain ⟨⟨a, ha⟩, hv⟩ := zref_some hv0 b base
    exact zs_ld hv hs (fun hl k => by rw [ha] at hl k; exact lv_aload hx hb hd hl k)
  | istore_n k =>
    obtain ⟨hl, hs0⟩ := zif_some hs; clear hs; have hs := hs0; clear hs0
    obtain rfl := eq_of_beq hl
    unfold zist at hs
    split at hs
    · obtain ⟨hi, hs⟩ := zif_some hs
      exact zs_st (v := .int _) rfl hi hs rfl (fun g1 g2 g3 g4 => lv_istore_n hx hb hd rfl g1 g2 g3 g4)
    · cases hs
  | istore k =>
    obtain ⟨hl, hs0⟩ := zif_some hs; clear hs; have hs := hs0; clear hs0
    obtain rfl := eq_of_beq hl
    unfold zist at hs
    split at hs
    · obtain ⟨hi, hs⟩ := zif_some hs
      exact zs_st (v := .int _) rfl hi hs rfl (fun g1 g2 g3 g4 => lv_istore hx hb hd g1 g2 g3 g4)
    · cases hs
  | astore_n k =>
    obtain ⟨hl, hs0⟩ := zif_some hs; clear hs; have hs := hs0; clear hs0
    obtain rfl := eq_of_beq hl
    unfold zast at hs
    split at hs
    · obtain ⟨hi, hs⟩ := zif_some hs
      exact zs_st (v := .ref _) rfl hi hs rfl (fun g1 g2 g3 g4 => lv_astore_n hx hb hd rfl g1 g2 g3 g4)
    · cases hs
  | lstore k =>
    obtain ⟨hl, hs0⟩ := zif_some hs; clear hs; have hs := hs0; clear hs0
    obtain rfl := eq_of_beq hl
    unfold zlst at hs
    split at hs
    · next x st0 =>
      obtain ⟨hi, hs⟩ := zif_some hs
      simp only [Bool.and_eq_true, decide_eq_true_eq, List.contains_iff_mem] at hi
      rw [zgo_some hs]
      refine ⟨_, _, _, _, _, rfl, fun kk ls H locs h1 h2 h3 h4 h5 h6 => lv_lstore hx hb hd h1 hi.1.2 rfl (fun ls' hl' => ?_)⟩
      obtain ⟨g1, g2⟩ := zset2 (b := b) (base := base) (v := .long x) h2 hi.1.1 hi.2
      exact kk ls' H locs (zlv_of hl' g1) g2 h3 h4 h5 h6
    · cases hs
  | iinc k n =>
    obtain ⟨hl, hs0⟩ := zif_some hs; clear hs; have hs := hs0; clear hs0
    obtain rfl := eq_of_beq hl
    split at hs
    · next x hk =>
      obtain ⟨hi, hs⟩ := zif_some hs
      rw [zgo_some hs]
      refine ⟨_, _, _, _, _, rfl, fun kk ls H locs h1 h2 h3 h4 h5 h6 => ?_⟩
      obtain ⟨j, hj⟩ := List.getElem?_of_mem (zlv_mem (b := b) (base := base) (q := (k, .int x)).mpr ⟨.int x, hk, rfl⟩)
      refine lv_iinc hx hb hd h1 hj rfl (zst_spec hi).1 rfl (fun ls' hl' => ?_)
      obtain ⟨g1, g2⟩ := zset1 (b := b) (base := base) (v := .int (x + Int32.ofInt n)) rfl h2 hi
      exact kk ls' H locs (zlv_of hl' g1) g2 h3 h4 h5 h6
    · cases hs
  | iadd => obtain ⟨hl, hs0⟩ := zif_some hs; clear hs; have hs := hs0; clear hs0; obtain rfl := eq_of_beq hl; exact zs_i2 hs (fun k => lv_iadd hx hb hd k)
  | isub => obtain ⟨hl, hs0⟩ := zif_some hs; clear hs; have hs := hs0; clear hs0; obtain rfl := eq_of_beq hl; exact zs_i2 hs (fun k => lv_isub hx hb hd k)
  | imul => obtain ⟨hl, hs0⟩ := zif_some hs; clear hs; have hs := hs0; clear hs0; obtain rfl := eq_of_beq hl; exact zs_i2 hs (fun k => lv_imul hx hb hd k)
  | iand => obtain ⟨hl, hs0⟩ := zif_some hs; clear hs; have hs := hs0; clear hs0; obtain rfl := eq_of_beq hl; exact zs_i2 hs (fun k => lv_iand hx hb hd k)
  | ior => obtain ⟨hl, hs0⟩ := zif_some hs; clear hs; have hs := hs0; clear hs0; obtain rfl := eq_of_beq hl; exact zs_i2 hs (fun k => lv_ior hx hb hd k)
  | ixor => obtain ⟨hl, hs0⟩ := zif_some hs; clear hs; have hs := hs0; clear hs0; obtain rfl := eq_of_beq hl; exact zs_i2 hs (fun k => lv_ixor hx hb hd k)
  | ishl => obtain ⟨hl, hs0⟩ := zif_some hs; clear hs; have hs := hs0; clear hs0; obtain rfl := eq_of_beq hl; exact zs_i2 hs (fun k => lv_ishl hx hb hd k)
  | ishr => obtain ⟨hl, hs0⟩ := zif_some hs; clear hs; have hs := hs0; clear hs0; obtain rfl := eq_of_beq hl; exact zs_i2 hs (fun k => lv_ishr hx hb hd k)
  | iushr => obtain ⟨hl, hs0⟩ := zif_some hs; clear hs; have hs := hs0; clear hs0; obtain rfl := eq_of_beq hl; exact zs_i2 hs (fun k => lv_iushr hx hb hd rfl k)
  | ladd => obtain ⟨hl, hs0⟩ := zif_some hs; clear hs; have hs := hs0; clear hs0; obtain rfl := eq_of_beq hl; exact zs_l2 hs (fun k => lv_ladd hx hb hd k)
  | lmul => obtain ⟨hl, hs0⟩ := zif_some hs; clear hs; have hs := hs0; clear hs0; obtain rfl := eq_of_beq hl; exact zs_l2 hs (fun k => lv_lmul hx hb hd k)
  | land => obtain ⟨hl, hs0⟩ := zif_some hs; clear hs; have hs := hs0; clear hs0; obtain rfl := eq_of_beq hl; exact zs_l2 hs (fun k => lv_land hx hb hd k)
  | lor => obtain ⟨hl, hs0⟩ := zif_some hs; clear hs; have hs := hs0; clear hs0; obtain rfl := eq_of_beq hl; exact zs_l2 hs (fun k => lv_lor hx hb hd k)
  | idiv =>
    obtain ⟨hl, hs0⟩ := zif_some hs; clear hs; have hs := hs0; clear hs0; obtain rfl := eq_of_beq hl
    split at hs
    · split at hs
      · cases hs
      · next hz => rw [zgo_some hs]; exact ⟨_, _, _, _, _, rfl, fun k ls H locs h1 h2 h3 h4 h5 h6 => lv_idiv hx hb hd hz (k ls H locs h1 h2 h3 h4 h5 h6)⟩
    · cases hs
  | irem =>
    obtain ⟨hl, hs0⟩ := zif_some hs; clear hs; have hs := hs0; clear hs0; obtain rfl := eq_of_beq hl
    split at hs
    · split at hs
      · cases hs
      · next hz => rw [zgo_some hs]; exact ⟨_, _, _, _, _, rfl, fun k ls H locs h1 h2 h3 h4 h5 h6 => lv_irem hx hb hd hz (k ls H locs h1 h2 h3 h4 h5 h6)⟩
    · cases hs
  | ldiv =>
    obtain ⟨hl, hs0⟩ := zif_some hs; clear hs; have hs := hs0; clear hs0; obtain rfl := eq_of_beq hl
    split at hs
    · split at hs
      · cases hs
      · next hz => rw [zgo_some hs]; exact ⟨_, _, _, _, _, rfl, fun k ls H locs h1 h2 h3 h4 h5 h6 => lv_ldiv hx hb hd hz (k ls H locs h1 h2 h3 h4 h5 h6)⟩
    · cases hs
  | lrem =>
    obtain ⟨hl, hs0⟩ := zif_some hs; clear hs; have hs := hs0; clear hs0; obtain rfl := eq_of_beq hl
    split at hs
    · split at hs
      · cases hs
      · next hz => rw [zgo_some hs]; exact ⟨_, _, _, _, _, rfl, fun k ls H locs h1 h2 h3 h4 h5 h6 => lv_lrem hx hb hd hz (k ls H locs h1 h2 h3 h4 h5 h6)⟩
    · cases hs
  | ineg =>
    obtain ⟨hl, hs0⟩ := zif_some hs; clear hs; have hs := hs0; clear hs0; obtain rfl := eq_of_beq hl
    split at hs
    · rw [zgo_some hs]; exact ⟨_, _, _, _, _, rfl, fun k ls H locs h1 h2 h3 h4 h5 h6 => lv_ineg hx hb hd (k ls H locs h1 h2 h3 h4 h5 h6)⟩
    · cases hs
  | lneg =>
    obtain ⟨hl, hs0⟩ := zif_some hs; clear hs; have hs := hs0; clear hs0; obtain rfl := eq_of_beq hl
    split at hs
    · rw [zgo_some hs]; exact ⟨_, _, _, _, _, rfl, fun k ls H locs h1 h2 h3 h4 h5 h6 => lv_lneg hx hb hd (k ls H locs h1 h2 h3 h4 h5 h6)⟩
    · cases hs
  | lshl =>
    obtain ⟨hl, hs0⟩ := zif_some hs; clear hs; have hs := hs0; clear hs0; obtain rfl := eq_of_beq hl
    split at hs
    · rw [zgo_some hs]; exact ⟨_, _, _, _, _, rfl, fun k ls H locs h1 h2 h3 h4 h5 h6 => lv_lshl hx hb hd rfl (k ls H locs h1 h2 h3 h4 h5 h6)⟩
    · cases hs
  | lshr =>
    obtain ⟨hl, hs0⟩ := zif_some hs; clear hs; have hs := hs0; clear hs0; obtain rfl := eq_of_beq hl
    split at hs
    · rw [zgo_some hs]; exact ⟨_, _, _, _, _, rfl, fun k ls H locs h1 h2 h3 h4 h5 h6 => lv_lshr hx hb hd rfl (k ls H locs h1 h2 h3 h4 h5 h6)⟩
    · cases hs
  | lcmp =>
    obtain ⟨hl, hs0⟩ := zif_some hs; clear hs; have hs := hs0; clear hs0; obtain rfl := eq_of_beq hl
    split at hs
    · rw [zgo_some hs]; exact ⟨_, _, _, _, _, rfl, fun k ls H locs h1 h2 h3 h4 h5 h6 => W.lcmp hx hb hd (k ls H locs h1 h2 h3 h4 h5 h6)⟩
    · cases hs
  | i2l =>
    obtain ⟨hl, hs0⟩ := zif_some hs; clear hs; have hs := hs0; clear hs0; obtain rfl := eq_of_beq hl
    split at hs
    · rw [zgo_some hs]; exact ⟨_, _, _, _, _, rfl, fun k ls H locs h1 h2 h3 h4 h5 h6 => lv_i2l hx hb hd rfl (k ls H locs h1 h2 h3 h4 h5 h6)⟩
    · cases hs
  | l2i =>
    obtain ⟨hl, hs0⟩ := zif_some hs; clear hs; have hs := hs0; clear hs0; obtain rfl := eq_of_beq hl
    split at hs
    · rw [zgo_some hs]; exact ⟨_, _, _, _, _, rfl, fun k ls H locs h1 h2 h3 h4 h5 h6 => lv_l2i hx hb hd rfl (k ls H locs h1 h2 h3 h4 h5 h6)⟩
    · cases hs
  | i2b =>
    obtain ⟨hl, hs0⟩ := zif_some hs; clear hs; have hs := hs0; clear hs0; obtain rfl := eq_of_beq hl
    split at hs
    · rw [zgo_some hs]; exact ⟨_, _, _, _, _, rfl, fun k ls H locs h1 h2 h3 h4 h5 h6 => lv_i2b hx hb hd rfl (k ls H locs h1 h2 h3 h4 h5 h6)⟩
    · cases hs
  | dup =>
    obtain ⟨hl, hs0⟩ := zif_some hs; clear hs; have hs := hs0; clear hs0; obtain rfl := eq_of_beq hl
    split at hs
    · obtain ⟨hc, hs⟩ := zif_some hs
      rw [zgo_some hs]; exact ⟨_, _, _, _, _, rfl, fun k ls H locs h1 h2 h3 h4 h5 h6 => lv_dup hx hb hd (by rw [zrv_cat]; exact eq_of_beq hc) (k ls H locs h1 h2 h3 h4 h5 h6)⟩
    · cases hs
  | dup2 =>
    obtain ⟨hl, hs0⟩ := zif_some hs; clear hs; have hs := hs0; clear hs0; obtain rfl := eq_of_beq hl
    split at hs
    · obtain ⟨hc, hs⟩ := zif_some hs
      rw [Bool.and_eq_true] at hc
      rw [zgo_some hs]; exact ⟨_, _, _, _, _, rfl, fun k ls H locs h1 h2 h3 h4 h5 h6 => lv_dup2_11 hx hb hd (by rw [zrv_cat]; exact eq_of_beq hc.1) (by rw [zrv_cat]; exact eq_of_beq hc.2) (k ls H locs h1 h2 h3 h4 h5 h6)⟩
    · cases hs
  | pop =>
    obtain ⟨hl, hs0⟩ := zif_some hs; clear hs; have hs := hs0; clear hs0; obtain rfl := eq_of_beq hl
    split at hs
    · next va st0 =>
      obtain ⟨hc, hs⟩ := zif_some hs
      rw [zgo_some hs]; exact ⟨_, _, _, _, _, rfl, fun k ls H locs h1 h2 h3 h4 h5 h6 => lv_pop (va := zrv b base va) hx hb hd (by rw [zrv_cat]; exact eq_of_beq hc) (k ls H locs h1 h2 h3 h4 h5 h6)⟩
    · cases hs
  | ifCond c off =>
    obtain ⟨hl, hs0⟩ := zif_some hs; clear hs; have hs := hs0; clear hs0; obtain rfl := eq_of_beq hl
    split at hs
    · exact zs_if C0 hd hs
    · cases hs
  | if_icmp c off =>
    obtain ⟨hl, hs0⟩ := zif_some hs; clear hs; have hs := hs0; clear hs0; obtain rfl := eq_of_beq hl
    split at hs
    · exact zs_icmp C0 hd hs
    · cases hs
  | goto off =>
    obtain ⟨hl, hs0⟩ := zif_some hs; clear hs; have hs := hs0; clear hs0; obtain rfl := eq_of_beq hl
    obtain ⟨t, ht, hs⟩ := zjmp_some hs
    rw [zgo_some hs]; exact ⟨_, _, _, _, _, rfl, fun k ls H locs h1 h2 h3 h4 h5 h6 => lv_goto hx hb hd ht (k ls H locs h1 h2 h3 h4 h5 h6)⟩
  | tableswitch d lo hi offs =>
    simp only [zI] at hs
    split at hs
    · split at hs
      · next hc =>
        obtain ⟨t, ht, hs⟩ := zjmp_some hs
        rw [zgo_some hs]; exact ⟨_, _, _, _, _, rfl, fun k ls H locs h1 h2 h3 h4 h5 h6 => lv_tableOut hx hb hd hc ht (k ls H locs h1 h2 h3 h4 h5 h6)⟩
      · next hc =>
        split at hs
        · next off ho =>
          obtain ⟨t, ht, hs⟩ := zjmp_some hs
          rw [zgo_some hs]; exact ⟨_, _, _, _, _, rfl, fun k ls H locs h1 h2 h3 h4 h5 h6 => lv_tableIn hx hb hd (fun q => hc (Or.inl q)) (fun q => hc (Or.inr q)) ho ht (k ls H locs h1 h2 h3 h4 h5 h6)⟩
        · cases hs
    · cases hs
  | getfield k =>
    obtain ⟨hl, hs0⟩ := zif_some hs; clear hs; have hs := hs0; clear hs0; obtain rfl := eq_of_beq hl
    split at hs
    · next f a st0 hf =>
      split at hs
      · next c fs ha =>
        split at hs
        · next hc =>
          subst hc
          split at hs
          · next v hv => exact zs_getfield C0 hd hf ha hv rfl hs
          · cases hs
        · cases hs
      · cases hs
    · cases hs
  | putfield k =>
    obtain ⟨hl, hs0⟩ := zif_some hs; clear hs; have hs := hs0; clear hs0; obtain rfl := eq_of_beq hl
    split at hs
    · next f v a st0 hf =>
      split at hs
      · next c fs ha =>
        obtain ⟨hc, hs⟩ := zif_some hs
        simp only [Bool.and_eq_true, decide_eq_true_eq] at hc
        obtain ⟨⟨⟨rfl, hc2⟩, hc3⟩, hc4⟩ := hc
        refine zs_putfield C0 hd hf ha hc2 hc3 ?_ rfl hs
        simp only [zfin, Bool.or_eq_true, Bool.and_eq_true, Bool.not_eq_true', beq_iff_eq] at hc4
        rcases hc4 with q | ⟨⟨q1, q2⟩, q3⟩
        · exact Or.inl q
        · rcases hq : (zTT f.1 f.2.1).2.2.2 with _ | _
          · exact Or.inl rfl
          · exact Or.inr ⟨q1, rfl, q2, q3⟩
      · cases hs
    · cases hs
  | iaload =>
    obtain ⟨hl, hs0⟩ := zif_some hs; clear hs; have hs := hs0; clear hs0; obtain rfl := eq_of_beq hl
    split at hs
    · next i a st0 =>
      split at hs
      · next ty n f ha =>
        split at hs
        · next hc => obtain ⟨rfl, hc⟩ := hc; exact zs_iaload C0 hd ha hc rfl hs
        · cases hs
      · cases hs
    · split at hs
      · next hc =>
        obtain ⟨q1, q2, q3⟩ := h0 hc.1
        rw [zgo_some hs]; exact ⟨_, _, _, _, _, rfl, fun k ls H locs h1 h2 h3 h4 h5 h6 => va_sld hx hb q1 q2 (Nat.not_le.mpr q3) h4 hc.2 hd (k ls H locs h1 h2 h3 h4 h5 h6)⟩
      · cases hs
    · cases hs
  | baload =>
    obtain ⟨hl, hs0⟩ := zif_some hs; clear hs; have hs := hs0; clear hs0; obtain rfl := eq_of_beq hl
    split at hs
    · split at hs
      · next ty n f ha =>
        split at hs
        · next hc => exact zs_baload C0 hd hc.1 ha hc.2 rfl hs
        · cases hs
      · cases hs
    · cases hs
  | iastore =>
    obtain ⟨hl, hs0⟩ := zif_some hs; clear hs; have hs := hs0; clear hs0; obtain rfl := eq_of_beq hl
    split at hs
    · split at hs
      · next ty n f ha =>
        split at hs
        · next hc => obtain ⟨rfl, hc⟩ := hc; exact zs_iastore C0 hd ha hc rfl hs
        · cases hs
      · cases hs
    · cases hs
  | bastore =>
    obtain ⟨hl, hs0⟩ := zif_some hs; clear hs; have hs := hs0; clear hs0; obtain rfl := eq_of_beq hl
    split at hs
    · split at hs
      · next ty n f ha =>
        split at hs
        · next hc => exact zs_bastore C0 hd hc.1 ha hc.2 rfl hs
        · cases hs
      · cases hs
    · cases hs
  | arraylength =>
    obtain ⟨hl, hs0⟩ := zif_some hs; clear hs; have hs := hs0; clear hs0; obtain rfl := eq_of_beq hl
    split at hs
    · split at hs
      · next ty n f ha => exact zs_alen C0 hd ha rfl hs
      · cases hs
    · split at hs
      · next hc =>
        obtain ⟨q1, q2, q3⟩ := h0 hc
        rw [zgo_some hs]; exact ⟨_, _, _, _, _, rfl, fun k ls H locs h1 h2 h3 h4 h5 h6 => va_slen hx hb q1 q2 (Nat.not_le.mpr q3) h4 hd (k ls H locs h1 h2 h3 h4 h5 h6)⟩
      · cases hs
    · cases hs
  | new k =>
    obtain ⟨hl, hs0⟩ := zif_some hs; clear hs; have hs := hs0; clear hs0; obtain rfl := eq_of_beq hl
    split at hs
    · next c hc =>
      obtain ⟨hq, hs⟩ := zif_some hs
      simp only [Bool.and_eq_true, decide_eq_true_eq] at hq
      exact zs_new C0 hd hc hq.1 hq.2 hs
    · cases hs
  | newarray t =>
    obtain ⟨hl, hs0⟩ := zif_some hs; clear hs; have hs := hs0; clear hs0; obtain rfl := eq_of_beq hl
    split at hs
    · obtain ⟨hq, hs⟩ := zif_some hs
      simp only [Bool.and_eq_true, Bool.or_eq_true, beq_iff_eq, decide_eq_true_eq] at hq
      obtain ⟨⟨⟨⟨q1, q2⟩, q3⟩, q4⟩, q5⟩ := hq
      refine zs_newarray C0 hd ?_ q2 q3 q4 q5 rfl hs
      rcases q1 with (q | q) | q
      · exact Or.inl q
      · exact Or.inr (Or.inl q)
      · exact Or.inr (Or.inr q)
    · cases hs
  | invokestatic k =>
    obtain ⟨hl, hs0⟩ := zif_some hs; clear hs; have hs := hs0; clear hs0
    split at hs
    · obtain ⟨hq, hs⟩ := zif_some hs
      exact (zcall_inl hs).elim
    · cases hs
  | invokevirtual k =>
    obtain ⟨hl, hs0⟩ := zif_some hs; clear hs; have hs := hs0; clear hs0
    split at hs
    · split at hs
      · obtain ⟨hq, hs⟩ := zif_some hs
        exact (zcall_inl hs).elim
      · cases hs
    · cases hs
  | invokespecial k =>
    obtain ⟨hl, hs0⟩ := zif_some hs; clear hs; have hs := hs0; clear hs0; obtain rfl := eq_of_beq hl
    split at hs
    · obtain ⟨hq, hs⟩ := zif_some hs
      exact (zcall_inl hs).elim
    · split at hs
      · next q hq =>
        obtain ⟨g, hs⟩ := zif_some hs
        simp only [Bool.and_eq_true, decide_eq_true_eq] at g
        exact zs_objinit C0 hd hq g.1 g.2 rfl hs
      · cases hs
    · cases hs
  | ireturn =>
    obtain ⟨hl, hs0⟩ := zif_some hs; clear hs; have hs := hs0; clear hs0
    split at hs
    · obtain ⟨hq, hs⟩ := zif_some hs; cases hs
    · cases hs
  | areturn =>
    obtain ⟨hl, hs0⟩ := zif_some hs; clear hs; have hs := hs0; clear hs0
    split at hs
    · obtain ⟨hq, hs⟩ := zif_some hs; cases hs
    · cases hs
  | return_ =>
    obtain ⟨hl, hs0⟩ := zif_some hs; clear hs; have hs := hs0; clear hs0
    split at hs
    · obtain ⟨hq, hs⟩ := zif_some hs; cases hs
    · cases hs
  | _ => simp [zI] at hs
end ZSA
