-- each call of the law (written by wip/whole/gen65.py)
section C64
variable {X : Nat × (Nat → Int32)} {Q : Option Value → Nat → zH → Prop} {h : zH} {i ln kn : Nat} {tx la : Nat → Int32} {S Sd : zSh} {F : Nat → zTm}
theorem lw_cs : 75 ≤ (mRm 0).cells ∧ 2047 ≤ (mRm 0).slots := by decide
theorem zCP.o0 (hC : zCP h ln tx S Sd kn F la) : ∃ fs, h 0 = .inr (9, fs) := by
  obtain ⟨ld, dd, l, vs, la0, a1, -⟩ := hC
  exact ⟨_, a1⟩
theorem zMP.o0 (hM : zMP h ln tx S kn F la) : ∃ fs, h 53 = .inr (10, fs) := by
  obtain ⟨at_, rp, rj, su, lo, dr, ab, be, S1, la0, a1, -⟩ := hM
  exact ⟨_, a1⟩
theorem lw_a1 {k : Nat} (hi : i + k < X.1) (hX : X.1 ≤ 3584) : (nI (i + k) < 0) = False ∧ (nI (i + k)).toNatClampNeg = i + k ∧ (X.1 ≤ i + k) = False := ⟨eq_false (nI_pos (by omega)), nI_clamp (by omega), eq_false (by omega)⟩
/-- what comes behind a call -/
def lwN (X : Nat × (Nat → Int32)) (Q : Option Value → Nat → zH → Prop) (i : Nat) : Prop := ∀ (h' : zH) (ln : Nat) (tx : Nat → Int32) (S Sd : zSh) (kn : Nat) (F : Nat → zTm) (la : Nat → Int32), zCP h' ln tx S Sd kn F la → zMP h' ln tx S kn F la → zIn ln tx S kn F (i + 7) → zE X 0 1115 [some (.retAddr 0), some (.ref 0), some (.ref 53), some (.int (nI i))] [] (75, 75, 2047) h' Q

theorem lw_op0 (hi : i + 7 ≤ X.1) (hX : X.1 ≤ 3584) (hI : zIn ln tx S kn F i) (hC : zCP h ln tx S Sd kn F la) (hM : zMP h ln tx S kn F la) (next : lwN X Q i) : zE X 0 148 [some (.retAddr 0), some (.ref 0), some (.ref 53), some (.int (nI i))] [] (75, 75, 2047) h Q := by
  obtain ⟨f0, h0⟩ := hC.o0
  have ok := hI.1
  have hk := hI.2.2.1
  have s1 : nI i + 1 = nI (i + 1) := nI_add i 1
  obtain ⟨p1, q1, r1⟩ := lw_a1 (X := X) (i := i) (k := 1) (by omega) hX
  have s2 : nI i + 2 = nI (i + 2) := nI_add i 2
  obtain ⟨p2, q2, r2⟩ := lw_a1 (X := X) (i := i) (k := 2) (by omega) hX
  have s3 : nI i + 3 = nI (i + 3) := nI_add i 3
  obtain ⟨p3, q3, r3⟩ := lw_a1 (X := X) (i := i) (k := 3) (by omega) hX
  simp only [e0_148, e0_149s, e0_150, e0_151, e0_152, e0_153, e0_154s, e0_155, e0_156, e0_157, e0_158, e0_159, e0_160, e0_162, e0_163s, e0_164, e0_165, e0_166, e0_167, e0_168, e0_169, e0_172, e0_173, e0_174 lw_cs, h0, Option.toList_some, List.cons_append, List.nil_append, zrc_eq, s1, p1, q1, r1, s2, p2, q2, r2, s3, p3, q3, r3, or_self, not_false_eq_true, if_true]
  refine kWrite hk hC (fun h1 c1 f1 => ?_)
  have hM1 := hM.kept f1 (by omega)
  obtain ⟨g0, h53⟩ := hM1.o0
  simp only [e0_177, e0_178s, e0_179, e0_180, e0_181, e0_182, e0_183s, e0_184, e0_185, e0_186, e0_187, e0_188, e0_189, e0_191, e0_192s, e0_193, e0_194, e0_195, e0_196, e0_197, e0_198, e0_201, e0_202, e0_203 lw_cs, h53, Option.toList_some, List.cons_append, List.nil_append, zrc_eq, s1, p1, q1, r1, s2, p2, q2, r2, s3, p3, q3, r3, or_self, not_false_eq_true, if_true]
  refine mWrite hI.2.1 hM1 (fun h2 m2 f2 => ?_)
  simp only [e0_206, Option.toList_some, List.cons_append, List.nil_append, zrc_eq, if_true]
  exact next h2 _ _ _ _ _ _ _ (c1.kept hk f2 (by omega)) m2 (hI.write.up (by omega))
theorem lw_op1 (hi : i + 7 ≤ X.1) (hX : X.1 ≤ 3584) (hI : zIn ln tx S kn F i) (hC : zCP h ln tx S Sd kn F la) (hM : zMP h ln tx S kn F la) (next : lwN X Q i) : zE X 0 211 [some (.retAddr 0), some (.ref 0), some (.ref 53), some (.int (nI i))] [] (75, 75, 2047) h Q := by
  obtain ⟨f0, h0⟩ := hC.o0
  have ok := hI.1
  have hk := hI.2.2.1
  simp only [e0_211, e0_212 lw_cs, h0, Option.toList_some, List.cons_append, List.nil_append, zrc_eq]
  refine kWipe hk hC (fun h1 c1 f1 => ?_)
  have hM1 := hM.kept f1 (by omega)
  obtain ⟨g0, h53⟩ := hM1.o0
  simp only [e0_215, e0_216 lw_cs, h53, Option.toList_some, List.cons_append, List.nil_append, zrc_eq]
  refine mWipe hM1 (fun h2 m2 f2 => ?_)
  simp only [e0_219, Option.toList_some, List.cons_append, List.nil_append, zrc_eq, if_true]
  exact next h2 _ _ _ _ _ _ _ (c1.kept hk f2 (by omega)) m2 (zIn.up ⟨hI.1, Nat.zero_le _, hI.2.2⟩ (by omega))
theorem lw_op2 (hi : i + 7 ≤ X.1) (hX : X.1 ≤ 3584) (hI : zIn ln tx S kn F i) (hC : zCP h ln tx S Sd kn F la) (hM : zMP h ln tx S kn F la) (next : lwN X Q i) : zE X 0 224 [some (.retAddr 0), some (.ref 0), some (.ref 53), some (.int (nI i))] [] (75, 75, 2047) h Q := by
  obtain ⟨f0, h0⟩ := hC.o0
  have ok := hI.1
  have hk := hI.2.2.1
  simp only [e0_224, e0_225 lw_cs, h0, Option.toList_some, List.cons_append, List.nil_append, zrc_eq]
  refine kFault hk hC (fun h1 c1 f1 => ?_)
  have hM1 := hM.kept f1 (by omega)
  obtain ⟨g0, h53⟩ := hM1.o0
  simp only [e0_228, e0_229 lw_cs, h53, Option.toList_some, List.cons_append, List.nil_append, zrc_eq]
  refine mFault (Sd := Sd) hI.2.2.2.1 hI.2.1 hM1 (fun h2 m2 f2 => ?_)
  simp only [e0_232, Option.toList_some, List.cons_append, List.nil_append, zrc_eq, if_true]
  exact next h2 _ _ _ _ _ _ _ (c1.kept hk f2 (by omega)) m2 (hI.up (by omega))
theorem lw_op3 (hi : i + 7 ≤ X.1) (hX : X.1 ≤ 3584) (hI : zIn ln tx S kn F i) (hC : zCP h ln tx S Sd kn F la) (hM : zMP h ln tx S kn F la) (next : lwN X Q i) : zE X 0 237 [some (.retAddr 0), some (.ref 0), some (.ref 53), some (.int (nI i))] [] (75, 75, 2047) h Q := by
  obtain ⟨f0, h0⟩ := hC.o0
  have ok := hI.1
  have hk := hI.2.2.1
  simp only [e0_237, e0_238 lw_cs, h0, Option.toList_some, List.cons_append, List.nil_append, zrc_eq]
  refine kLay hk hC (fun g h1 c1 f1 => ?_) (fun g h1 c1 f1 => ?_)
  · have hM1 := hM.kept f1 (by omega)
    obtain ⟨g0, h53⟩ := hM1.o0
    simp only [e0_241, e0_242 lw_cs, h53, Option.toList_some, List.cons_append, List.nil_append, zrc_eq]
    refine mLay (Sd := Sd) hI.2.2.2.1 hI.2.1 hM1 (fun _ h2 m2 f2 => ?_) (fun g2 => absurd g2 g)
    simp only [e0_245, Option.toList_some, List.cons_append, List.nil_append, zrc_eq, if_true]
    exact next h2 _ _ _ _ _ _ _ (c1.kept hk f2 (by omega)) m2 (hI.up (by omega))
  · have hM1 := hM.kept f1 (by omega)
    obtain ⟨g0, h53⟩ := hM1.o0
    simp only [e0_241, e0_242 lw_cs, h53, Option.toList_some, List.cons_append, List.nil_append, zrc_eq]
    refine mLay (Sd := Sd) hI.2.2.2.1 hI.2.1 hM1 (fun g2 => absurd g g2) (fun _ h2 m2 f2 => ?_)
    simp only [e0_245, Option.toList_some, List.cons_append, List.nil_append, zrc_eq, if_true]
    exact next h2 _ _ _ _ _ _ _ (c1.kept (by omega) f2 (by omega)) m2 (hI.lay.up (by omega))
theorem lw_op4 (hi : i + 7 ≤ X.1) (hX : X.1 ≤ 3584) (hI : zIn ln tx S kn F i) (hC : zCP h ln tx S Sd kn F la) (hM : zMP h ln tx S kn F la) (next : lwN X Q i) : zE X 0 250 [some (.retAddr 0), some (.ref 0), some (.ref 53), some (.int (nI i))] [] (75, 75, 2047) h Q := by
  obtain ⟨f0, h0⟩ := hC.o0
  have ok := hI.1
  have hk := hI.2.2.1
  have s1 : nI i + 1 = nI (i + 1) := nI_add i 1
  obtain ⟨p1, q1, r1⟩ := lw_a1 (X := X) (i := i) (k := 1) (by omega) hX
  have s2 : nI i + 2 = nI (i + 2) := nI_add i 2
  obtain ⟨p2, q2, r2⟩ := lw_a1 (X := X) (i := i) (k := 2) (by omega) hX
  have s3 : nI i + 3 = nI (i + 3) := nI_add i 3
  obtain ⟨p3, q3, r3⟩ := lw_a1 (X := X) (i := i) (k := 3) (by omega) hX
  obtain ⟨ld, dd, la0, cr, scr, h20, hla, back⟩ := hC.cr ok hk
  simp only [e0_250, e0_251s, e0_252, e0_253, e0_254, e0_255, e0_256s, e0_257, e0_258, e0_259, e0_260, e0_261s, e0_262, e0_263, e0_264, e0_265, e0_266 lw_cs, h0, Option.toList_some, List.cons_append, List.nil_append, zrc_eq, s1, p1, q1, r1, s2, p2, q2, r2, s3, p3, q3, r3, or_self, not_false_eq_true, if_true]
  refine Eq.mpr (c34 cr) ?_
  obtain ⟨g0, h53⟩ := hM.o0
  obtain ⟨at_, rp, rj, su, lo, dr, ab, be, lb0, mr, h62, hlb, mback⟩ := hM.mr ok
  simp only [e0_269, e0_270s, e0_271, e0_272, e0_273, e0_274, e0_275s, e0_276, e0_277, e0_278, e0_279, e0_280s, e0_281, e0_282, e0_283, e0_284, e0_285 lw_cs, h53, Option.toList_some, List.cons_append, List.nil_append, zrc_eq, s1, p1, q1, r1, s2, p2, q2, r2, s3, p3, q3, r3, or_self, not_false_eq_true, if_true]
  refine Eq.mpr (c116 mr) ?_
  simp only [e0_288, Option.toList_some, List.cons_append, List.nil_append, zrc_eq, if_true]
  exact next h _ _ _ _ _ _ _ hC hM (hI.up (by omega))
theorem lw_op5 (hi : i + 7 ≤ X.1) (hX : X.1 ≤ 3584) (hI : zIn ln tx S kn F i) (hC : zCP h ln tx S Sd kn F la) (hM : zMP h ln tx S kn F la) (next : lwN X Q i) : zE X 0 293 [some (.retAddr 0), some (.ref 0), some (.ref 53), some (.int (nI i))] [] (75, 75, 2047) h Q := by
  obtain ⟨f0, h0⟩ := hC.o0
  have ok := hI.1
  have hk := hI.2.2.1
  have s1 : nI i + 1 = nI (i + 1) := nI_add i 1
  obtain ⟨p1, q1, r1⟩ := lw_a1 (X := X) (i := i) (k := 1) (by omega) hX
  have s2 : nI i + 2 = nI (i + 2) := nI_add i 2
  obtain ⟨p2, q2, r2⟩ := lw_a1 (X := X) (i := i) (k := 2) (by omega) hX
  have s3 : nI i + 3 = nI (i + 3) := nI_add i 3
  obtain ⟨p3, q3, r3⟩ := lw_a1 (X := X) (i := i) (k := 3) (by omega) hX
  obtain ⟨ld, dd, la0, cr, scr, h20, hla, back⟩ := hC.cr ok hk
  simp only [e0_293, e0_294s, e0_295, e0_296, e0_297, e0_298, e0_299s, e0_300, e0_301, e0_302, e0_303, e0_304s, e0_305, e0_306, e0_307, e0_308, e0_309 lw_cs, h0, Option.toList_some, List.cons_append, List.nil_append, zrc_eq, s1, p1, q1, r1, s2, p2, q2, r2, s3, p3, q3, r3, or_self, not_false_eq_true, if_true]
  refine c40 cr (fun h1 c1 f1 => ?_)
  have hC1 := back h1 c1 f1
  have hM1 := hM.kept f1 (by omega)
  obtain ⟨g0, h53⟩ := hM1.o0
  obtain ⟨at_, rp, rj, su, lo, dr, ab, be, lb0, mr, h62, hlb, mback⟩ := hM1.mr ok
  simp only [e0_312, e0_313s, e0_314, e0_315, e0_316, e0_317, e0_318s, e0_319, e0_320, e0_321, e0_322, e0_323s, e0_324, e0_325, e0_326, e0_327, e0_328 lw_cs, h53, Option.toList_some, List.cons_append, List.nil_append, zrc_eq, s1, p1, q1, r1, s2, p2, q2, r2, s3, p3, q3, r3, or_self, not_false_eq_true, if_true]
  refine c121 mr (fun h2 m2 => ?_)
  simp only [e0_331, Option.toList_some, List.cons_append, List.nil_append, zrc_eq, if_true]
  exact next h2 _ _ _ _ _ _ _ (hC1.kept hk m2.2.2 (by omega)) (mback h2 m2) (hI.up (by omega))
theorem lw_op6 (hi : i + 7 ≤ X.1) (hX : X.1 ≤ 3584) (hI : zIn ln tx S kn F i) (hC : zCP h ln tx S Sd kn F la) (hM : zMP h ln tx S kn F la) (next : lwN X Q i) : zE X 0 336 [some (.retAddr 0), some (.ref 0), some (.ref 53), some (.int (nI i))] [] (75, 75, 2047) h Q := by
  obtain ⟨f0, h0⟩ := hC.o0
  have ok := hI.1
  have hk := hI.2.2.1
  have s1 : nI i + 1 = nI (i + 1) := nI_add i 1
  obtain ⟨p1, q1, r1⟩ := lw_a1 (X := X) (i := i) (k := 1) (by omega) hX
  have s2 : nI i + 2 = nI (i + 2) := nI_add i 2
  obtain ⟨p2, q2, r2⟩ := lw_a1 (X := X) (i := i) (k := 2) (by omega) hX
  have s3 : nI i + 3 = nI (i + 3) := nI_add i 3
  obtain ⟨p3, q3, r3⟩ := lw_a1 (X := X) (i := i) (k := 3) (by omega) hX
  have s4 : nI i + 4 = nI (i + 4) := nI_add i 4
  obtain ⟨p4, q4, r4⟩ := lw_a1 (X := X) (i := i) (k := 4) (by omega) hX
  have s5 : nI i + 5 = nI (i + 5) := nI_add i 5
  obtain ⟨p5, q5, r5⟩ := lw_a1 (X := X) (i := i) (k := 5) (by omega) hX
  obtain ⟨ld, dd, la0, cr, scr, h20, hla, back⟩ := hC.cr ok hk
  simp only [e0_336, e0_337s, e0_338, e0_339, e0_340, e0_341, e0_342s, e0_343, e0_344, e0_345, e0_346, e0_347s, e0_348, e0_349, e0_350, e0_351, e0_352s, e0_353, e0_354, e0_355, e0_356, e0_357s, e0_358, e0_359, e0_360, e0_361, e0_362 lw_cs, h0, Option.toList_some, List.cons_append, List.nil_append, zrc_eq, s1, p1, q1, r1, s2, p2, q2, r2, s3, p3, q3, r3, s4, p4, q4, r4, s5, p5, q5, r5, or_self, not_false_eq_true, if_true]
  refine c47 cr (fun h1 c1 f1 => ?_)
  have hC1 := back h1 c1 f1
  have hM1 := hM.kept f1 (by omega)
  obtain ⟨g0, h53⟩ := hM1.o0
  obtain ⟨at_, rp, rj, su, lo, dr, ab, be, lb0, mr, h62, hlb, mback⟩ := hM1.mr ok
  simp only [e0_365, e0_366s, e0_367, e0_368, e0_369, e0_370, e0_371s, e0_372, e0_373, e0_374, e0_375, e0_376s, e0_377, e0_378, e0_379, e0_380, e0_381s, e0_382, e0_383, e0_384, e0_385, e0_386s, e0_387, e0_388, e0_389, e0_390, e0_391 lw_cs, h53, Option.toList_some, List.cons_append, List.nil_append, zrc_eq, s1, p1, q1, r1, s2, p2, q2, r2, s3, p3, q3, r3, s4, p4, q4, r4, s5, p5, q5, r5, or_self, not_false_eq_true, if_true]
  refine c129 mr (fun h2 m2 => ?_)
  simp only [e0_394, Option.toList_some, List.cons_append, List.nil_append, zrc_eq, if_true]
  exact next h2 _ _ _ _ _ _ _ (hC1.kept hk m2.2.2 (by omega)) (mback h2 m2) (hI.up (by omega))
theorem lw_op7 (hi : i + 7 ≤ X.1) (hX : X.1 ≤ 3584) (hI : zIn ln tx S kn F i) (hC : zCP h ln tx S Sd kn F la) (hM : zMP h ln tx S kn F la) (next : lwN X Q i) : zE X 0 399 [some (.retAddr 0), some (.ref 0), some (.ref 53), some (.int (nI i))] [] (75, 75, 2047) h Q := by
  obtain ⟨f0, h0⟩ := hC.o0
  have ok := hI.1
  have hk := hI.2.2.1
  have s1 : nI i + 1 = nI (i + 1) := nI_add i 1
  obtain ⟨p1, q1, r1⟩ := lw_a1 (X := X) (i := i) (k := 1) (by omega) hX
  have s2 : nI i + 2 = nI (i + 2) := nI_add i 2
  obtain ⟨p2, q2, r2⟩ := lw_a1 (X := X) (i := i) (k := 2) (by omega) hX
  have s3 : nI i + 3 = nI (i + 3) := nI_add i 3
  obtain ⟨p3, q3, r3⟩ := lw_a1 (X := X) (i := i) (k := 3) (by omega) hX
  have s4 : nI i + 4 = nI (i + 4) := nI_add i 4
  obtain ⟨p4, q4, r4⟩ := lw_a1 (X := X) (i := i) (k := 4) (by omega) hX
  have s5 : nI i + 5 = nI (i + 5) := nI_add i 5
  obtain ⟨p5, q5, r5⟩ := lw_a1 (X := X) (i := i) (k := 5) (by omega) hX
  have s6 : nI i + 6 = nI (i + 6) := nI_add i 6
  obtain ⟨p6, q6, r6⟩ := lw_a1 (X := X) (i := i) (k := 6) (by omega) hX
  obtain ⟨ld, dd, la0, cr, scr, h20, hla, back⟩ := hC.cr ok hk
  simp only [e0_399, e0_400s, e0_401, e0_402, e0_403, e0_404, e0_405s, e0_406, e0_407, e0_408, e0_409, e0_410s, e0_411, e0_412, e0_413, e0_414, e0_415s, e0_416, e0_417, e0_418, e0_419, e0_420s, e0_421, e0_422, e0_423, e0_424, e0_425s, e0_426, e0_427, e0_429, e0_430, e0_431 lw_cs, h0, Option.toList_some, List.cons_append, List.nil_append, zrc_eq, s1, p1, q1, r1, s2, p2, q2, r2, s3, p3, q3, r3, s4, p4, q4, r4, s5, p5, q5, r5, s6, p6, q6, r6, or_self, not_false_eq_true, if_true]
  refine c54 cr (fun h1 c1 f1 => ?_)
  have hC1 := back h1 c1 f1
  have hM1 := hM.kept f1 (by omega)
  obtain ⟨g0, h53⟩ := hM1.o0
  obtain ⟨at_, rp, rj, su, lo, dr, ab, be, lb0, mr, h62, hlb, mback⟩ := hM1.mr ok
  simp only [e0_434, e0_435s, e0_436, e0_437, e0_438, e0_439, e0_440s, e0_441, e0_442, e0_443, e0_444, e0_445s, e0_446, e0_447, e0_448, e0_449, e0_450s, e0_451, e0_452, e0_453, e0_454, e0_455s, e0_456, e0_457, e0_458, e0_459, e0_460s, e0_461, e0_462, e0_464, e0_465, e0_466 lw_cs, h53, Option.toList_some, List.cons_append, List.nil_append, zrc_eq, s1, p1, q1, r1, s2, p2, q2, r2, s3, p3, q3, r3, s4, p4, q4, r4, s5, p5, q5, r5, s6, p6, q6, r6, or_self, not_false_eq_true, if_true]
  refine c133 mr (fun h2 m2 => ?_)
  simp only [e0_469, Option.toList_some, List.cons_append, List.nil_append, zrc_eq, if_true]
  exact next h2 _ _ _ _ _ _ _ (hC1.kept hk m2.2.2 (by omega)) (mback h2 m2) (hI.up (by omega))
theorem lw_op8 (hi : i + 7 ≤ X.1) (hX : X.1 ≤ 3584) (hI : zIn ln tx S kn F i) (hC : zCP h ln tx S Sd kn F la) (hM : zMP h ln tx S kn F la) (next : lwN X Q i) : zE X 0 474 [some (.retAddr 0), some (.ref 0), some (.ref 53), some (.int (nI i))] [] (75, 75, 2047) h Q := by
  obtain ⟨f0, h0⟩ := hC.o0
  have ok := hI.1
  have hk := hI.2.2.1
  have s1 : nI i + 1 = nI (i + 1) := nI_add i 1
  obtain ⟨p1, q1, r1⟩ := lw_a1 (X := X) (i := i) (k := 1) (by omega) hX
  have s2 : nI i + 2 = nI (i + 2) := nI_add i 2
  obtain ⟨p2, q2, r2⟩ := lw_a1 (X := X) (i := i) (k := 2) (by omega) hX
  have s3 : nI i + 3 = nI (i + 3) := nI_add i 3
  obtain ⟨p3, q3, r3⟩ := lw_a1 (X := X) (i := i) (k := 3) (by omega) hX
  have s4 : nI i + 4 = nI (i + 4) := nI_add i 4
  obtain ⟨p4, q4, r4⟩ := lw_a1 (X := X) (i := i) (k := 4) (by omega) hX
  have s5 : nI i + 5 = nI (i + 5) := nI_add i 5
  obtain ⟨p5, q5, r5⟩ := lw_a1 (X := X) (i := i) (k := 5) (by omega) hX
  obtain ⟨ld, dd, la0, cr, scr, h20, hla, back⟩ := hC.cr ok hk
  simp only [e0_474, e0_475s, e0_476, e0_477, e0_478, e0_479, e0_480s, e0_481, e0_482, e0_483, e0_484, e0_485s, e0_486, e0_487, e0_488, e0_489, e0_490s, e0_491, e0_492, e0_493, e0_494, e0_495s, e0_496, e0_497, e0_498, e0_499, e0_500 lw_cs, h0, Option.toList_some, List.cons_append, List.nil_append, zrc_eq, s1, p1, q1, r1, s2, p2, q2, r2, s3, p3, q3, r3, s4, p4, q4, r4, s5, p5, q5, r5, or_self, not_false_eq_true, if_true]
  refine c60 cr (fun h1 v1 w1 c1 f1 => ?_)
  have hC1 := back h1 c1 f1
  have hM1 := hM.kept f1 (by omega)
  obtain ⟨g0, h53⟩ := hM1.o0
  obtain ⟨at_, rp, rj, su, lo, dr, ab, be, lb0, mr, h62, hlb, mback⟩ := hM1.mr ok
  simp only [e0_503, e0_504s, e0_505, e0_506, e0_507, e0_508, e0_509s, e0_510, e0_511, e0_512, e0_513, e0_514s, e0_515, e0_516, e0_517, e0_518, e0_519s, e0_520, e0_521, e0_522, e0_523, e0_524s, e0_525, e0_526, e0_527, e0_528, e0_529 lw_cs, h53, Option.toList_some, List.cons_append, List.nil_append, zrc_eq, s1, p1, q1, r1, s2, p2, q2, r2, s3, p3, q3, r3, s4, p4, q4, r4, s5, p5, q5, r5, or_self, not_false_eq_true, if_true]
  refine c135 mr (fun h2 v2 w2 m2 => ?_)
  obtain rfl := w1.one w2
  simp only [e0_532, Option.toList_some, List.cons_append, List.nil_append, zrc_eq, if_true]
  exact next h2 _ _ _ _ _ _ _ (hC1.kept hk m2.2.2 (by omega)) (mback h2 m2) (hI.up (by omega))
theorem lw_op9 (hi : i + 7 ≤ X.1) (hX : X.1 ≤ 3584) (hI : zIn ln tx S kn F i) (hC : zCP h ln tx S Sd kn F la) (hM : zMP h ln tx S kn F la) (next : lwN X Q i) : zE X 0 537 [some (.retAddr 0), some (.ref 0), some (.ref 53), some (.int (nI i))] [] (75, 75, 2047) h Q := by
  obtain ⟨f0, h0⟩ := hC.o0
  have ok := hI.1
  have hk := hI.2.2.1
  have s1 : nI i + 1 = nI (i + 1) := nI_add i 1
  obtain ⟨p1, q1, r1⟩ := lw_a1 (X := X) (i := i) (k := 1) (by omega) hX
  have s2 : nI i + 2 = nI (i + 2) := nI_add i 2
  obtain ⟨p2, q2, r2⟩ := lw_a1 (X := X) (i := i) (k := 2) (by omega) hX
  have s3 : nI i + 3 = nI (i + 3) := nI_add i 3
  obtain ⟨p3, q3, r3⟩ := lw_a1 (X := X) (i := i) (k := 3) (by omega) hX
  have s4 : nI i + 4 = nI (i + 4) := nI_add i 4
  obtain ⟨p4, q4, r4⟩ := lw_a1 (X := X) (i := i) (k := 4) (by omega) hX
  obtain ⟨ld, dd, la0, cr, scr, h20, hla, back⟩ := hC.cr ok hk
  simp only [e0_537, e0_538s, e0_539, e0_540, e0_541, e0_542, e0_543s, e0_544, e0_545, e0_546, e0_547, e0_548s, e0_549, e0_550, e0_551, e0_552, e0_553s, e0_554, e0_555, e0_556, e0_557, e0_558 lw_cs, h0, Option.toList_some, List.cons_append, List.nil_append, zrc_eq, s1, p1, q1, r1, s2, p2, q2, r2, s3, p3, q3, r3, s4, p4, q4, r4, or_self, not_false_eq_true, if_true]
  refine c62 cr (fun h1 c1 f1 => ?_)
  have hC1 := back h1 c1 f1
  have hM1 := hM.kept f1 (by omega)
  obtain ⟨g0, h53⟩ := hM1.o0
  obtain ⟨at_, rp, rj, su, lo, dr, ab, be, lb0, mr, h62, hlb, mback⟩ := hM1.mr ok
  simp only [e0_561, e0_562s, e0_563, e0_564, e0_565, e0_566, e0_567s, e0_568, e0_569, e0_570, e0_571, e0_572s, e0_573, e0_574, e0_575, e0_576, e0_577s, e0_578, e0_579, e0_580, e0_581, e0_582 lw_cs, h53, Option.toList_some, List.cons_append, List.nil_append, zrc_eq, s1, p1, q1, r1, s2, p2, q2, r2, s3, p3, q3, r3, s4, p4, q4, r4, or_self, not_false_eq_true, if_true]
  refine c136 mr (fun h2 m2 => ?_)
  simp only [e0_585, Option.toList_some, List.cons_append, List.nil_append, zrc_eq, if_true]
  exact next h2 _ _ _ _ _ _ _ (hC1.kept hk m2.2.2 (by omega)) (mback h2 m2) (hI.up (by omega))
theorem lw_op10 (hi : i + 7 ≤ X.1) (hX : X.1 ≤ 3584) (hI : zIn ln tx S kn F i) (hC : zCP h ln tx S Sd kn F la) (hM : zMP h ln tx S kn F la) (next : lwN X Q i) : zE X 0 590 [some (.retAddr 0), some (.ref 0), some (.ref 53), some (.int (nI i))] [] (75, 75, 2047) h Q := by
  obtain ⟨f0, h0⟩ := hC.o0
  have ok := hI.1
  have hk := hI.2.2.1
  have s1 : nI i + 1 = nI (i + 1) := nI_add i 1
  obtain ⟨p1, q1, r1⟩ := lw_a1 (X := X) (i := i) (k := 1) (by omega) hX
  have s2 : nI i + 2 = nI (i + 2) := nI_add i 2
  obtain ⟨p2, q2, r2⟩ := lw_a1 (X := X) (i := i) (k := 2) (by omega) hX
  have s3 : nI i + 3 = nI (i + 3) := nI_add i 3
  obtain ⟨p3, q3, r3⟩ := lw_a1 (X := X) (i := i) (k := 3) (by omega) hX
  have s4 : nI i + 4 = nI (i + 4) := nI_add i 4
  obtain ⟨p4, q4, r4⟩ := lw_a1 (X := X) (i := i) (k := 4) (by omega) hX
  obtain ⟨ld, dd, la0, cr, scr, h20, hla, back⟩ := hC.cr ok hk
  simp only [e0_590, e0_591s, e0_592, e0_593, e0_594, e0_595, e0_596s, e0_597, e0_598, e0_599, e0_600, e0_601s, e0_602, e0_603, e0_604, e0_605, e0_606s, e0_607, e0_608, e0_609, e0_610, e0_611 lw_cs, h0, Option.toList_some, List.cons_append, List.nil_append, zrc_eq, s1, p1, q1, r1, s2, p2, q2, r2, s3, p3, q3, r3, s4, p4, q4, r4, or_self, not_false_eq_true, if_true]
  refine c68 cr (fun h1 c1 f1 => ?_)
  have hC1 := back h1 c1 f1
  have hM1 := hM.kept f1 (by omega)
  obtain ⟨g0, h53⟩ := hM1.o0
  obtain ⟨at_, rp, rj, su, lo, dr, ab, be, lb0, mr, h62, hlb, mback⟩ := hM1.mr ok
  simp only [e0_614, e0_615s, e0_616, e0_617, e0_618, e0_619, e0_620s, e0_621, e0_622, e0_623, e0_624, e0_625s, e0_626, e0_627, e0_628, e0_629, e0_630s, e0_631, e0_632, e0_633, e0_634, e0_635 lw_cs, h53, Option.toList_some, List.cons_append, List.nil_append, zrc_eq, s1, p1, q1, r1, s2, p2, q2, r2, s3, p3, q3, r3, s4, p4, q4, r4, or_self, not_false_eq_true, if_true]
  refine c139 mr (fun h2 m2 => ?_)
  simp only [e0_638, Option.toList_some, List.cons_append, List.nil_append, zrc_eq, if_true]
  exact next h2 _ _ _ _ _ _ _ (hC1.kept hk m2.2.2 (by omega)) (mback h2 m2) (hI.up (by omega))
theorem lw_op11 (hi : i + 7 ≤ X.1) (hX : X.1 ≤ 3584) (hI : zIn ln tx S kn F i) (hC : zCP h ln tx S Sd kn F la) (hM : zMP h ln tx S kn F la) (next : lwN X Q i) : zE X 0 643 [some (.retAddr 0), some (.ref 0), some (.ref 53), some (.int (nI i))] [] (75, 75, 2047) h Q := by
  obtain ⟨f0, h0⟩ := hC.o0
  have ok := hI.1
  have hk := hI.2.2.1
  have s1 : nI i + 1 = nI (i + 1) := nI_add i 1
  obtain ⟨p1, q1, r1⟩ := lw_a1 (X := X) (i := i) (k := 1) (by omega) hX
  have s2 : nI i + 2 = nI (i + 2) := nI_add i 2
  obtain ⟨p2, q2, r2⟩ := lw_a1 (X := X) (i := i) (k := 2) (by omega) hX
  have s3 : nI i + 3 = nI (i + 3) := nI_add i 3
  obtain ⟨p3, q3, r3⟩ := lw_a1 (X := X) (i := i) (k := 3) (by omega) hX
  obtain ⟨ld, dd, la0, cr, scr, h20, hla, back⟩ := hC.cr ok hk
  simp only [e0_643, e0_644s, e0_645, e0_646, e0_647, e0_648, e0_649s, e0_650, e0_651, e0_652, e0_653, e0_654s, e0_655, e0_656, e0_657, e0_658, e0_659 lw_cs, h0, Option.toList_some, List.cons_append, List.nil_append, zrc_eq, s1, p1, q1, r1, s2, p2, q2, r2, s3, p3, q3, r3, or_self, not_false_eq_true, if_true]
  refine c70 cr (fun h1 c1 f1 => ?_)
  have hC1 := back h1 c1 f1
  have hM1 := hM.kept f1 (by omega)
  obtain ⟨g0, h53⟩ := hM1.o0
  obtain ⟨at_, rp, rj, su, lo, dr, ab, be, lb0, mr, h62, hlb, mback⟩ := hM1.mr ok
  simp only [e0_662, e0_663s, e0_664, e0_665, e0_666, e0_667, e0_668s, e0_669, e0_670, e0_671, e0_672, e0_673s, e0_674, e0_675, e0_676, e0_677, e0_678 lw_cs, h53, Option.toList_some, List.cons_append, List.nil_append, zrc_eq, s1, p1, q1, r1, s2, p2, q2, r2, s3, p3, q3, r3, or_self, not_false_eq_true, if_true]
  refine c140 mr (fun h2 m2 => ?_)
  simp only [e0_681, Option.toList_some, List.cons_append, List.nil_append, zrc_eq, if_true]
  exact next h2 _ _ _ _ _ _ _ (hC1.kept hk m2.2.2 (by omega)) (mback h2 m2) (hI.up (by omega))
theorem lw_op12 (hi : i + 7 ≤ X.1) (hX : X.1 ≤ 3584) (hI : zIn ln tx S kn F i) (hC : zCP h ln tx S Sd kn F la) (hM : zMP h ln tx S kn F la) (next : lwN X Q i) : zE X 0 686 [some (.retAddr 0), some (.ref 0), some (.ref 53), some (.int (nI i))] [] (75, 75, 2047) h Q := by
  obtain ⟨f0, h0⟩ := hC.o0
  have ok := hI.1
  have hk := hI.2.2.1
  have s1 : nI i + 1 = nI (i + 1) := nI_add i 1
  obtain ⟨p1, q1, r1⟩ := lw_a1 (X := X) (i := i) (k := 1) (by omega) hX
  have s2 : nI i + 2 = nI (i + 2) := nI_add i 2
  obtain ⟨p2, q2, r2⟩ := lw_a1 (X := X) (i := i) (k := 2) (by omega) hX
  have s3 : nI i + 3 = nI (i + 3) := nI_add i 3
  obtain ⟨p3, q3, r3⟩ := lw_a1 (X := X) (i := i) (k := 3) (by omega) hX
  obtain ⟨ld, dd, la0, cr, scr, h20, hla, back⟩ := hC.cr ok hk
  simp only [e0_686, e0_687s, e0_688, e0_689, e0_690, e0_691, e0_692s, e0_693, e0_694, e0_695, e0_696, e0_697s, e0_698, e0_699, e0_700, e0_701, e0_702 lw_cs, h0, Option.toList_some, List.cons_append, List.nil_append, zrc_eq, s1, p1, q1, r1, s2, p2, q2, r2, s3, p3, q3, r3, or_self, not_false_eq_true, if_true]
  refine c76 cr (fun h1 c1 f1 => ?_)
  have hC1 := back h1 c1 f1
  have hM1 := hM.kept f1 (by omega)
  obtain ⟨g0, h53⟩ := hM1.o0
  obtain ⟨at_, rp, rj, su, lo, dr, ab, be, lb0, mr, h62, hlb, mback⟩ := hM1.mr ok
  simp only [e0_705, e0_706s, e0_707, e0_708, e0_709, e0_710, e0_711s, e0_712, e0_713, e0_714, e0_715, e0_716s, e0_717, e0_718, e0_719, e0_720, e0_721 lw_cs, h53, Option.toList_some, List.cons_append, List.nil_append, zrc_eq, s1, p1, q1, r1, s2, p2, q2, r2, s3, p3, q3, r3, or_self, not_false_eq_true, if_true]
  refine c143 mr (fun h2 m2 => ?_)
  simp only [e0_724, Option.toList_some, List.cons_append, List.nil_append, zrc_eq, if_true]
  exact next h2 _ _ _ _ _ _ _ (hC1.kept hk m2.2.2 (by omega)) (mback h2 m2) (hI.up (by omega))
theorem lw_op13 (hi : i + 7 ≤ X.1) (hX : X.1 ≤ 3584) (hI : zIn ln tx S kn F i) (hC : zCP h ln tx S Sd kn F la) (hM : zMP h ln tx S kn F la) (next : lwN X Q i) : zE X 0 729 [some (.retAddr 0), some (.ref 0), some (.ref 53), some (.int (nI i))] [] (75, 75, 2047) h Q := by
  obtain ⟨f0, h0⟩ := hC.o0
  have ok := hI.1
  have hk := hI.2.2.1
  have s1 : nI i + 1 = nI (i + 1) := nI_add i 1
  obtain ⟨p1, q1, r1⟩ := lw_a1 (X := X) (i := i) (k := 1) (by omega) hX
  have s2 : nI i + 2 = nI (i + 2) := nI_add i 2
  obtain ⟨p2, q2, r2⟩ := lw_a1 (X := X) (i := i) (k := 2) (by omega) hX
  have s3 : nI i + 3 = nI (i + 3) := nI_add i 3
  obtain ⟨p3, q3, r3⟩ := lw_a1 (X := X) (i := i) (k := 3) (by omega) hX
  have s4 : nI i + 4 = nI (i + 4) := nI_add i 4
  obtain ⟨p4, q4, r4⟩ := lw_a1 (X := X) (i := i) (k := 4) (by omega) hX
  obtain ⟨ld, dd, la0, cr, scr, h20, hla, back⟩ := hC.cr ok hk
  simp only [e0_729, e0_730s, e0_731, e0_732, e0_733, e0_734, e0_735s, e0_736, e0_737, e0_738, e0_739, e0_740s, e0_741, e0_742, e0_743, e0_744, e0_745s, e0_746, e0_747, e0_748, e0_749, e0_750 lw_cs, h0, Option.toList_some, List.cons_append, List.nil_append, zrc_eq, s1, p1, q1, r1, s2, p2, q2, r2, s3, p3, q3, r3, s4, p4, q4, r4, or_self, not_false_eq_true, if_true]
  refine c79 cr (fun h1 c1 f1 => ?_)
  have hC1 := back h1 c1 f1
  have hM1 := hM.kept f1 (by omega)
  obtain ⟨g0, h53⟩ := hM1.o0
  obtain ⟨at_, rp, rj, su, lo, dr, ab, be, lb0, mr, h62, hlb, mback⟩ := hM1.mr ok
  simp only [e0_753, e0_754s, e0_755, e0_756, e0_757, e0_758, e0_759s, e0_760, e0_761, e0_762, e0_763, e0_764s, e0_765, e0_766, e0_767, e0_768, e0_769s, e0_770, e0_771, e0_772, e0_773, e0_774 lw_cs, h53, Option.toList_some, List.cons_append, List.nil_append, zrc_eq, s1, p1, q1, r1, s2, p2, q2, r2, s3, p3, q3, r3, s4, p4, q4, r4, or_self, not_false_eq_true, if_true]
  refine c146 mr (fun h2 m2 => ?_)
  simp only [e0_777, Option.toList_some, List.cons_append, List.nil_append, zrc_eq, if_true]
  exact next h2 _ _ _ _ _ _ _ (hC1.kept hk m2.2.2 (by omega)) (mback h2 m2) (hI.up (by omega))
theorem lw_op14 (hi : i + 7 ≤ X.1) (hX : X.1 ≤ 3584) (hI : zIn ln tx S kn F i) (hC : zCP h ln tx S Sd kn F la) (hM : zMP h ln tx S kn F la) (next : lwN X Q i) : zE X 0 782 [some (.retAddr 0), some (.ref 0), some (.ref 53), some (.int (nI i))] [] (75, 75, 2047) h Q := by
  obtain ⟨f0, h0⟩ := hC.o0
  have ok := hI.1
  have hk := hI.2.2.1
  have s1 : nI i + 1 = nI (i + 1) := nI_add i 1
  obtain ⟨p1, q1, r1⟩ := lw_a1 (X := X) (i := i) (k := 1) (by omega) hX
  obtain ⟨ld, dd, la0, cr, scr, h20, hla, back⟩ := hC.cr ok hk
  simp only [e0_782, e0_783s, e0_784, e0_785, e0_786, e0_787, e0_788 lw_cs, h0, Option.toList_some, List.cons_append, List.nil_append, zrc_eq, s1, p1, q1, r1, or_self, not_false_eq_true, if_true]
  refine Eq.mpr (c84 cr) ?_
  obtain ⟨g0, h53⟩ := hM.o0
  obtain ⟨at_, rp, rj, su, lo, dr, ab, be, lb0, mr, h62, hlb, mback⟩ := hM.mr ok
  simp only [e0_791, e0_792s, e0_793, e0_794, e0_795, e0_796, e0_797 lw_cs, h53, Option.toList_some, List.cons_append, List.nil_append, zrc_eq, s1, p1, q1, r1, or_self, not_false_eq_true, if_true]
  refine c147 mr (fun h2 m2 => ?_)
  simp only [e0_800, Option.toList_some, List.cons_append, List.nil_append, zrc_eq, if_true]
  exact next h2 _ _ _ _ _ _ _ (hC.kept hk m2.2.2 (by omega)) (mback h2 m2) (hI.up (by omega))
theorem lw_op15 (hi : i + 7 ≤ X.1) (hX : X.1 ≤ 3584) (hI : zIn ln tx S kn F i) (hC : zCP h ln tx S Sd kn F la) (hM : zMP h ln tx S kn F la) (next : lwN X Q i) : zE X 0 805 [some (.retAddr 0), some (.ref 0), some (.ref 53), some (.int (nI i))] [] (75, 75, 2047) h Q := by
  obtain ⟨f0, h0⟩ := hC.o0
  have ok := hI.1
  have hk := hI.2.2.1
  have s1 : nI i + 1 = nI (i + 1) := nI_add i 1
  obtain ⟨p1, q1, r1⟩ := lw_a1 (X := X) (i := i) (k := 1) (by omega) hX
  have s2 : nI i + 2 = nI (i + 2) := nI_add i 2
  obtain ⟨p2, q2, r2⟩ := lw_a1 (X := X) (i := i) (k := 2) (by omega) hX
  simp only [e0_805, e0_806s, e0_807, e0_808, e0_809, e0_810, e0_811s, e0_812, e0_813, e0_814, e0_815, e0_816 lw_cs, h0, Option.toList_some, List.cons_append, List.nil_append, zrc_eq, s1, p1, q1, r1, s2, p2, q2, r2, or_self, not_false_eq_true, if_true]
  refine kLater hI hC (fun h1 c1 f1 => ?_)
  have hM1 := hM.kept f1 (by omega)
  obtain ⟨g0, h53⟩ := hM1.o0
  simp only [e0_819, e0_820s, e0_821, e0_822, e0_823, e0_824, e0_825s, e0_826, e0_827, e0_828, e0_829, e0_830 lw_cs, h53, Option.toList_some, List.cons_append, List.nil_append, zrc_eq, s1, p1, q1, r1, s2, p2, q2, r2, or_self, not_false_eq_true, if_true]
  refine mLater hI hM1 (fun h2 m2 f2 => ?_)
  simp only [e0_833, Option.toList_some, List.cons_append, List.nil_append, zrc_eq, if_true]
  exact next h2 _ _ _ _ _ _ _ (c1.kept hk f2 (by omega)) m2 (hI.up (by omega))
theorem lw_op16 (hi : i + 7 ≤ X.1) (hX : X.1 ≤ 3584) (hI : zIn ln tx S kn F i) (hC : zCP h ln tx S Sd kn F la) (hM : zMP h ln tx S kn F la) (next : lwN X Q i) : zE X 0 838 [some (.retAddr 0), some (.ref 0), some (.ref 53), some (.int (nI i))] [] (75, 75, 2047) h Q := by
  obtain ⟨f0, h0⟩ := hC.o0
  have ok := hI.1
  have hk := hI.2.2.1
  have s1 : nI i + 1 = nI (i + 1) := nI_add i 1
  obtain ⟨p1, q1, r1⟩ := lw_a1 (X := X) (i := i) (k := 1) (by omega) hX
  have s2 : nI i + 2 = nI (i + 2) := nI_add i 2
  obtain ⟨p2, q2, r2⟩ := lw_a1 (X := X) (i := i) (k := 2) (by omega) hX
  have s3 : nI i + 3 = nI (i + 3) := nI_add i 3
  obtain ⟨p3, q3, r3⟩ := lw_a1 (X := X) (i := i) (k := 3) (by omega) hX
  have s4 : nI i + 4 = nI (i + 4) := nI_add i 4
  obtain ⟨p4, q4, r4⟩ := lw_a1 (X := X) (i := i) (k := 4) (by omega) hX
  obtain ⟨ld, dd, la0, cr, scr, h20, hla, back⟩ := hC.cr ok hk
  simp only [e0_838, e0_839s, e0_840, e0_841, e0_842, e0_843, e0_844s, e0_845, e0_846, e0_847, e0_848, e0_849s, e0_850, e0_851, e0_852, e0_853, e0_854s, e0_855, e0_856, e0_857, e0_858, e0_859 lw_cs, h0, Option.toList_some, List.cons_append, List.nil_append, zrc_eq, s1, p1, q1, r1, s2, p2, q2, r2, s3, p3, q3, r3, s4, p4, q4, r4, or_self, not_false_eq_true, if_true]
  refine c87 cr h20 hla (fun h1 c1 f1 => ?_)
  have hC1 := back h1 c1 f1
  have hM1 := hM.kept f1 (by omega)
  obtain ⟨g0, h53⟩ := hM1.o0
  obtain ⟨at_, rp, rj, su, lo, dr, ab, be, lb0, mr, h62, hlb, mback⟩ := hM1.mr ok
  simp only [e0_862, e0_863s, e0_864, e0_865, e0_866, e0_867, e0_868s, e0_869, e0_870, e0_871, e0_872, e0_873s, e0_874, e0_875, e0_876, e0_877, e0_878s, e0_879, e0_880, e0_881, e0_882, e0_883 lw_cs, h53, Option.toList_some, List.cons_append, List.nil_append, zrc_eq, s1, p1, q1, r1, s2, p2, q2, r2, s3, p3, q3, r3, s4, p4, q4, r4, or_self, not_false_eq_true, if_true]
  refine c149 mr h62 hlb (fun h2 m2 => ?_)
  simp only [e0_886, Option.toList_some, List.cons_append, List.nil_append, zrc_eq, if_true]
  exact next h2 _ _ _ _ _ _ _ (hC1.kept hk m2.2.2 (by omega)) (mback h2 m2) (hI.up (by omega))
theorem lw_op17 (hi : i + 7 ≤ X.1) (hX : X.1 ≤ 3584) (hI : zIn ln tx S kn F i) (hC : zCP h ln tx S Sd kn F la) (hM : zMP h ln tx S kn F la) (next : lwN X Q i) : zE X 0 891 [some (.retAddr 0), some (.ref 0), some (.ref 53), some (.int (nI i))] [] (75, 75, 2047) h Q := by
  obtain ⟨f0, h0⟩ := hC.o0
  have ok := hI.1
  have hk := hI.2.2.1
  have s1 : nI i + 1 = nI (i + 1) := nI_add i 1
  obtain ⟨p1, q1, r1⟩ := lw_a1 (X := X) (i := i) (k := 1) (by omega) hX
  have s2 : nI i + 2 = nI (i + 2) := nI_add i 2
  obtain ⟨p2, q2, r2⟩ := lw_a1 (X := X) (i := i) (k := 2) (by omega) hX
  have s3 : nI i + 3 = nI (i + 3) := nI_add i 3
  obtain ⟨p3, q3, r3⟩ := lw_a1 (X := X) (i := i) (k := 3) (by omega) hX
  have s4 : nI i + 4 = nI (i + 4) := nI_add i 4
  obtain ⟨p4, q4, r4⟩ := lw_a1 (X := X) (i := i) (k := 4) (by omega) hX
  have s5 : nI i + 5 = nI (i + 5) := nI_add i 5
  obtain ⟨p5, q5, r5⟩ := lw_a1 (X := X) (i := i) (k := 5) (by omega) hX
  obtain ⟨ld, dd, la0, cr, scr, h20, hla, back⟩ := hC.cr ok hk
  simp only [e0_891, e0_892s, e0_893, e0_894, e0_895, e0_896, e0_897s, e0_898, e0_899, e0_900, e0_901, e0_902s, e0_903, e0_904, e0_905, e0_906, e0_907s, e0_908, e0_909, e0_910, e0_911, e0_912s, e0_913, e0_914, e0_915, e0_916, e0_917 lw_cs, h0, Option.toList_some, List.cons_append, List.nil_append, zrc_eq, s1, p1, q1, r1, s2, p2, q2, r2, s3, p3, q3, r3, s4, p4, q4, r4, s5, p5, q5, r5, or_self, not_false_eq_true, if_true]
  refine c89 cr (fun h1 c1 f1 => ?_)
  have hC1 := back h1 c1 f1
  have hM1 := hM.kept f1 (by omega)
  obtain ⟨g0, h53⟩ := hM1.o0
  obtain ⟨at_, rp, rj, su, lo, dr, ab, be, lb0, mr, h62, hlb, mback⟩ := hM1.mr ok
  simp only [e0_920, e0_921s, e0_922, e0_923, e0_924, e0_925, e0_926s, e0_927, e0_928, e0_929, e0_930, e0_931s, e0_932, e0_933, e0_934, e0_935, e0_936s, e0_937, e0_938, e0_939, e0_940, e0_941s, e0_942, e0_943, e0_944, e0_945, e0_946 lw_cs, h53, Option.toList_some, List.cons_append, List.nil_append, zrc_eq, s1, p1, q1, r1, s2, p2, q2, r2, s3, p3, q3, r3, s4, p4, q4, r4, s5, p5, q5, r5, or_self, not_false_eq_true, if_true]
  refine c150 mr (fun h2 m2 => ?_)
  simp only [e0_949, Option.toList_some, List.cons_append, List.nil_append, zrc_eq, if_true]
  exact next h2 _ _ _ _ _ _ _ (hC1.kept hk m2.2.2 (by omega)) (mback h2 m2) (hI.up (by omega))
theorem lw_op18 (hi : i + 7 ≤ X.1) (hX : X.1 ≤ 3584) (hI : zIn ln tx S kn F i) (hC : zCP h ln tx S Sd kn F la) (hM : zMP h ln tx S kn F la) (next : lwN X Q i) : zE X 0 954 [some (.retAddr 0), some (.ref 0), some (.ref 53), some (.int (nI i))] [] (75, 75, 2047) h Q := by
  obtain ⟨f0, h0⟩ := hC.o0
  have ok := hI.1
  have hk := hI.2.2.1
  have s1 : nI i + 1 = nI (i + 1) := nI_add i 1
  obtain ⟨p1, q1, r1⟩ := lw_a1 (X := X) (i := i) (k := 1) (by omega) hX
  simp only [e0_954, e0_955s, e0_956, e0_957, e0_958, e0_959, e0_960 lw_cs, h0, Option.toList_some, List.cons_append, List.nil_append, zrc_eq, s1, p1, q1, r1, or_self, not_false_eq_true, if_true]
  refine kYear hI (by omega) hC (fun h1 c1 f1 => ?_)
  have hM1 := hM.kept f1 (by omega)
  obtain ⟨g0, h53⟩ := hM1.o0
  simp only [e0_963, e0_964s, e0_965, e0_966, e0_967, e0_968, e0_969 lw_cs, h53, Option.toList_some, List.cons_append, List.nil_append, zrc_eq, s1, p1, q1, r1, or_self, not_false_eq_true, if_true]
  refine mYear hI (by omega) hM1 (fun h2 m2 f2 => ?_)
  simp only [e0_972, Option.toList_some, List.cons_append, List.nil_append, zrc_eq, if_true]
  exact next h2 _ _ _ _ _ _ _ (c1.kept hk f2 (by omega)) m2 (hI.year.up (by omega))
theorem lw_op19 (hi : i + 7 ≤ X.1) (hX : X.1 ≤ 3584) (hI : zIn ln tx S kn F i) (hC : zCP h ln tx S Sd kn F la) (hM : zMP h ln tx S kn F la) (next : lwN X Q i) : zE X 0 977 [some (.retAddr 0), some (.ref 0), some (.ref 53), some (.int (nI i))] [] (75, 75, 2047) h Q := by
  obtain ⟨f0, h0⟩ := hC.o0
  have ok := hI.1
  have hk := hI.2.2.1
  have s1 : nI i + 1 = nI (i + 1) := nI_add i 1
  obtain ⟨p1, q1, r1⟩ := lw_a1 (X := X) (i := i) (k := 1) (by omega) hX
  have s2 : nI i + 2 = nI (i + 2) := nI_add i 2
  obtain ⟨p2, q2, r2⟩ := lw_a1 (X := X) (i := i) (k := 2) (by omega) hX
  obtain ⟨ld, dd, la0, cr, scr, h20, hla, back⟩ := hC.cr ok hk
  simp only [e0_977, e0_978s, e0_979, e0_980, e0_981, e0_982, e0_983s, e0_984, e0_985, e0_986, e0_987, e0_988 lw_cs, h0, Option.toList_some, List.cons_append, List.nil_append, zrc_eq, s1, p1, q1, r1, s2, p2, q2, r2, or_self, not_false_eq_true, if_true]
  refine Eq.mpr (c97 cr.1 cr.2.2.2.2.1) ?_
  obtain ⟨g0, h53⟩ := hM.o0
  obtain ⟨at_, rp, rj, su, lo, dr, ab, be, lb0, mr, h62, hlb, mback⟩ := hM.mr ok
  simp only [e0_991, e0_992s, e0_993, e0_994, e0_995, e0_996, e0_997s, e0_998, e0_999, e0_1000, e0_1001, e0_1002 lw_cs, h53, Option.toList_some, List.cons_append, List.nil_append, zrc_eq, s1, p1, q1, r1, s2, p2, q2, r2, or_self, not_false_eq_true, if_true]
  refine Eq.mpr (c153 mr.1 mr.2.2.2.1 mr.2.2.2.2.1) ?_
  simp only [e0_1005, Option.toList_some, List.cons_append, List.nil_append, zrc_eq, if_true]
  exact next h _ _ _ _ _ _ _ hC hM (hI.up (by omega))
theorem lw_op20 (hi : i + 7 ≤ X.1) (hX : X.1 ≤ 3584) (hI : zIn ln tx S kn F i) (hC : zCP h ln tx S Sd kn F la) (hM : zMP h ln tx S kn F la) (next : lwN X Q i) : zE X 0 1010 [some (.retAddr 0), some (.ref 0), some (.ref 53), some (.int (nI i))] [] (75, 75, 2047) h Q := by
  obtain ⟨f0, h0⟩ := hC.o0
  have ok := hI.1
  have hk := hI.2.2.1
  have s1 : nI i + 1 = nI (i + 1) := nI_add i 1
  obtain ⟨p1, q1, r1⟩ := lw_a1 (X := X) (i := i) (k := 1) (by omega) hX
  obtain ⟨ld, dd, la0, cr, scr, h20, hla, back⟩ := hC.cr ok hk
  simp only [e0_1010, e0_1011s, e0_1012, e0_1013, e0_1014, e0_1015, e0_1016 lw_cs, h0, Option.toList_some, List.cons_append, List.nil_append, zrc_eq, s1, p1, q1, r1, or_self, not_false_eq_true, if_true]
  refine Eq.mpr (c98 cr.1 cr.2.2.2.2.1) ?_
  obtain ⟨g0, h53⟩ := hM.o0
  obtain ⟨at_, rp, rj, su, lo, dr, ab, be, lb0, mr, h62, hlb, mback⟩ := hM.mr ok
  simp only [e0_1019, e0_1020s, e0_1021, e0_1022, e0_1023, e0_1024, e0_1025 lw_cs, h53, Option.toList_some, List.cons_append, List.nil_append, zrc_eq, s1, p1, q1, r1, or_self, not_false_eq_true, if_true]
  refine Eq.mpr (c154 mr.1 mr.2.2.2.1 mr.2.2.2.2.1) ?_
  simp only [e0_1028, Option.toList_some, List.cons_append, List.nil_append, zrc_eq, if_true]
  exact next h _ _ _ _ _ _ _ hC hM (hI.up (by omega))
theorem lw_op21 (hi : i + 7 ≤ X.1) (hX : X.1 ≤ 3584) (hI : zIn ln tx S kn F i) (hC : zCP h ln tx S Sd kn F la) (hM : zMP h ln tx S kn F la) (next : lwN X Q i) : zE X 0 1033 [some (.retAddr 0), some (.ref 0), some (.ref 53), some (.int (nI i))] [] (75, 75, 2047) h Q := by
  obtain ⟨f0, h0⟩ := hC.o0
  have ok := hI.1
  have hk := hI.2.2.1
  have s1 : nI i + 1 = nI (i + 1) := nI_add i 1
  obtain ⟨p1, q1, r1⟩ := lw_a1 (X := X) (i := i) (k := 1) (by omega) hX
  have s2 : nI i + 2 = nI (i + 2) := nI_add i 2
  obtain ⟨p2, q2, r2⟩ := lw_a1 (X := X) (i := i) (k := 2) (by omega) hX
  simp only [e0_1033, e0_1034s, e0_1035, e0_1036, e0_1037, e0_1038, e0_1039s, e0_1040, e0_1041, e0_1042, e0_1043, e0_1044 lw_cs, h0, Option.toList_some, List.cons_append, List.nil_append, zrc_eq, s1, p1, q1, r1, s2, p2, q2, r2, or_self, not_false_eq_true, if_true]
  refine kHaving hI (by omega) hC (fun h1 c1 f1 => ?_)
  have hM1 := hM.kept f1 (by omega)
  obtain ⟨g0, h53⟩ := hM1.o0
  simp only [e0_1047, e0_1048s, e0_1049, e0_1050, e0_1051, e0_1052, e0_1053s, e0_1054, e0_1055, e0_1056, e0_1057, e0_1058 lw_cs, h53, Option.toList_some, List.cons_append, List.nil_append, zrc_eq, s1, p1, q1, r1, s2, p2, q2, r2, or_self, not_false_eq_true, if_true]
  refine mHaving hI (by omega) hM1 (fun h2 m2 f2 => ?_)
  simp only [e0_1061, Option.toList_some, List.cons_append, List.nil_append, zrc_eq, if_true]
  exact next h2 _ _ _ _ _ _ _ (c1.kept hk f2 (by omega)) m2 (hI.up (by omega))
theorem lw_op22 (hi : i + 7 ≤ X.1) (hX : X.1 ≤ 3584) (hI : zIn ln tx S kn F i) (hC : zCP h ln tx S Sd kn F la) (hM : zMP h ln tx S kn F la) (next : lwN X Q i) : zE X 0 1066 [some (.retAddr 0), some (.ref 0), some (.ref 53), some (.int (nI i))] [] (75, 75, 2047) h Q := by
  obtain ⟨f0, h0⟩ := hC.o0
  have ok := hI.1
  have hk := hI.2.2.1
  simp only [e0_1066, e0_1067 lw_cs, h0, Option.toList_some, List.cons_append, List.nil_append, zrc_eq]
  refine kKeep hI hC (fun h1 c1 f1 => ?_)
  have hM1 := hM.kept f1 (by omega)
  obtain ⟨g0, h53⟩ := hM1.o0
  simp only [e0_1070, e0_1071 lw_cs, h53, Option.toList_some, List.cons_append, List.nil_append, zrc_eq]
  refine mKeep hI hM1 (fun h2 m2 f2 => ?_)
  simp only [e0_1074, Option.toList_some, List.cons_append, List.nil_append, zrc_eq, if_true]
  exact next h2 _ _ _ _ _ _ _ (c1.kept hI.keep.2.2.1 f2 (by omega)) m2 (hI.keep.up (by omega))
theorem lw_op23 (hi : i + 7 ≤ X.1) (hX : X.1 ≤ 3584) (hI : zIn ln tx S kn F i) (hC : zCP h ln tx S Sd kn F la) (hM : zMP h ln tx S kn F la) (next : lwN X Q i) : zE X 0 1079 [some (.retAddr 0), some (.ref 0), some (.ref 53), some (.int (nI i))] [] (75, 75, 2047) h Q := by
  obtain ⟨f0, h0⟩ := hC.o0
  have ok := hI.1
  have hk := hI.2.2.1
  simp only [e0_1079, e0_1080 lw_cs, h0, Option.toList_some, List.cons_append, List.nil_append, zrc_eq]
  refine kBack hI hC (fun h1 c1 f1 => ?_)
  have hM1 := hM.kept f1 (by omega)
  obtain ⟨g0, h53⟩ := hM1.o0
  simp only [e0_1083, e0_1084 lw_cs, h53, Option.toList_some, List.cons_append, List.nil_append, zrc_eq]
  refine mBack hI hM1 (fun h2 m2 f2 => ?_)
  simp only [e0_1087, Option.toList_some, List.cons_append, List.nil_append, zrc_eq, if_true]
  exact next h2 _ _ _ _ _ _ _ (c1.kept hI.back.2.2.1 f2 (by omega)) m2 (hI.back.up (by omega))
theorem lw_op24 (hi : i + 7 ≤ X.1) (hX : X.1 ≤ 3584) (hI : zIn ln tx S kn F i) (hC : zCP h ln tx S Sd kn F la) (hM : zMP h ln tx S kn F la) (next : lwN X Q i) : zE X 0 1092 [some (.retAddr 0), some (.ref 0), some (.ref 53), some (.int (nI i))] [] (75, 75, 2047) h Q := by
  obtain ⟨f0, h0⟩ := hC.o0
  have ok := hI.1
  have hk := hI.2.2.1
  have s1 : nI i + 1 = nI (i + 1) := nI_add i 1
  obtain ⟨p1, q1, r1⟩ := lw_a1 (X := X) (i := i) (k := 1) (by omega) hX
  obtain ⟨ld, dd, la0, cr, scr, h20, hla, back⟩ := hC.cr ok hk
  simp only [e0_1092, e0_1093s, e0_1094, e0_1095, e0_1096, e0_1097, e0_1098 lw_cs, h0, Option.toList_some, List.cons_append, List.nil_append, zrc_eq, s1, p1, q1, r1, or_self, not_false_eq_true, if_true]
  refine Eq.mpr (c104 cr.1 scr cr.2.2.1 cr.2.2.2.2.1) ?_
  obtain ⟨g0, h53⟩ := hM.o0
  obtain ⟨at_, rp, rj, su, lo, dr, ab, be, lb0, mr, h62, hlb, mback⟩ := hM.mr ok
  simp only [e0_1101, e0_1102s, e0_1103, e0_1104, e0_1105, e0_1106, e0_1107 lw_cs, h53, Option.toList_some, List.cons_append, List.nil_append, zrc_eq, s1, p1, q1, r1, or_self, not_false_eq_true, if_true]
  refine Eq.mpr (c159 mr.1 mr.2.2.2.1 mr.2.2.2.2.1) ?_
  simp only [e0_1110, Option.toList_some, List.cons_append, List.nil_append, zrc_eq, if_true]
  exact next h _ _ _ _ _ _ _ hC hM (hI.up (by omega))
end C64
