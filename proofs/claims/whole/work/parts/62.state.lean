-- the two objects over one state
section C62
variable {h : zH} {ln kn : Nat} {tx la : Nat → Int32} {S Sd : zSh} {F : Nat → zTm}
/-- the class's object: text, sheet, draft, kept, times, later -/
def zCP (h : zH) (ln : Nat) (tx : Nat → Int32) (S Sd : zSh) (kn : Nat) (F : Nat → zTm) (la : Nat → Int32) : Prop := ∃ (ld dd l : Nat) (vs : List Nat) (la0 : Nat → Int32), h 0 = pObj ld dd (nI kn) ∧ ((ld = 4 ∧ dd = 12) ∨ (ld = 12 ∧ dd = 4)) ∧ pScr h 1 ln tx ∧ l < 256 ∧ pRd h 3 l vs ∧ pSh h ld S ∧ pSh h dd Sd ∧ h 20 = .inl (.int, 24, la0) ∧ (∀ j, j < 24 → la0 j = la j) ∧ pTm h 21 (F 0) ∧ (∃ T, pTm h 25 T) ∧ (∀ s, s < 2 → ∃ T, pTm h (29 + 4 * s) T) ∧ (∀ s, s < kn → pTm h (29 + 4 * s) (F (s + 1))) ∧ zCS h
/-- the model's -/
def zMP (h : zH) (ln : Nat) (tx : Nat → Int32) (S : zSh) (kn : Nat) (F : Nat → zTm) (la : Nat → Int32) : Prop := ∃ (at_ rp rj su lo dr : Int32) (ab be : Int64) (S1 : zSh) (la0 : Nat → Int32), h 53 = mObj (nI ln) at_ rp rj (nI S.1.1) (nI S.2.1.1) (nI kn) su lo dr ab be ∧ h 54 = .inl (.byte, 400, tx) ∧ pMr h rp rj S1 ∧ pMs h 59 60 61 S ∧ h 62 = .inl (.int, 24, la0) ∧ (∀ j, j < 24 → la0 j = la j) ∧ pMz h (fun s => s ≤ kn) F ∧ zMS h
/-- what always holds of the state -/
def zIn (ln : Nat) (tx : Nat → Int32) (S : zSh) (kn : Nat) (F : Nat → zTm) (B : Nat) : Prop := sK S ∧ ln ≤ 400 ∧ kn ≤ 2 ∧ bOk tx ∧ ∀ s, s ≤ kn → ∃ y, y ≤ B ∧ (F s).2.2.2.1 = nI y
set_option maxHeartbeats 2000000 in
theorem zIn.up {B B' : Nat} (hI : zIn ln tx S kn F B) (hB : B ≤ B') : zIn ln tx S kn F B' := by
  obtain ⟨a1, a2, a3, a4, a5⟩ := hI
  refine ⟨a1, a2, a3, a4, fun s hs => ?_⟩
  obtain ⟨y, y1, y2⟩ := a5 s hs
  exact ⟨y, by omega, y2⟩
set_option maxHeartbeats 2000000 in
theorem pScr.kept2 {h h' : zH} {s len : Nat} {tx : Nat → Int32} (hs : pScr h s len tx) {P : Nat → Prop} (hf : zfr P h h') (hP : ∀ a, s ≤ a → a ≤ s + 1 → ¬ P a) : pScr h' s len tx := by
  obtain ⟨h1, h2, h3⟩ := hs
  exact ⟨(hf _ (hP _ (by omega) (by omega))).trans h1, (hf _ (hP _ (by omega) (by omega))).trans h2, h3⟩
set_option maxHeartbeats 2000000 in
theorem zCP.kept {h h' : zH} (hC : zCP h ln tx S Sd kn F la) (hk : kn ≤ 2) {P : Nat → Prop} (hf : zfr P h h') (hP : ∀ a, a < 53 → ¬ P a) : zCP h' ln tx S Sd kn F la := by
  obtain ⟨ld, dd, l, vs, la0, a1, a2, a3, a4, a5, a6, a7, a8, a9, a10, ⟨T, a11⟩, a12, a13, a14⟩ := hC
  exact ⟨ld, dd, l, vs, la0, (hf 0 (hP 0 (by omega))).trans a1, a2, a3.kept2 hf (fun a x y => hP a (by omega)), a4, a5.kept hf (hP 3 (by omega)), a6.kept hf (fun a x y => hP a (by omega)), a7.kept hf (fun a x y => hP a (by omega)), (hf 20 (hP 20 (by omega))).trans a8, a9, a10.kept hf (fun a x y => hP a (by omega)), ⟨T, a11.kept hf (fun a x y => hP a (by omega))⟩, fun s hs => by obtain ⟨T, z⟩ := a12 s hs; exact ⟨T, z.kept hf (fun a x y => hP a (by omega))⟩, fun s hs => (a13 s hs).kept hf (fun a x y => hP a (by omega)), a14.kept hf (fun a x y => hP a (by omega))⟩
set_option maxHeartbeats 2000000 in
theorem zMP.kept {h h' : zH} (hM : zMP h ln tx S kn F la) {P : Nat → Prop} (hf : zfr P h h') (hP : ∀ a, 53 ≤ a → a ≤ 74 → ¬ P a) : zMP h' ln tx S kn F la := by
  obtain ⟨at_, rp, rj, su, lo, dr, ab, be, S1, la0, a1, a2, a3, a4, a5, a6, a7, a8⟩ := hM
  exact ⟨at_, rp, rj, su, lo, dr, ab, be, S1, la0, (hf 53 (hP 53 (by omega) (by omega))).trans a1, (hf 54 (hP 54 (by omega) (by omega))).trans a2, a3.kept hf (fun a x y => hP a (by omega) (by omega)), a4.kept2 hf (fun a x y => hP a (by omega) (by omega)), (hf 62 (hP 62 (by omega) (by omega))).trans a5, a6, a7.kept hf (fun a x y => hP a (by omega) (by omega)), a8.kept hf (fun a x y => hP a (by omega) (by omega))⟩
set_option maxHeartbeats 2000000 in
/-- a read of the class -/
theorem zCP.cr (hC : zCP h ln tx S Sd kn F la) (ok : sK S) (hk : kn ≤ 2) : ∃ (ld dd : Nat) (la0 : Nat → Int32), zCR h ld dd (nI kn) S (F 0) ∧ pScr h 1 ln tx ∧ h 20 = .inl (.int, 24, la0) ∧ (∀ j, j < 24 → la0 j = la j) ∧ (∀ h', zCS h' → zcf h h' → zCP h' ln tx S Sd kn F la) := by
  obtain ⟨ld, dd, l, vs, la0, a1, a2, a3, a4, a5, a6, a7, a8, a9, a10, ⟨T, a11⟩, a12, a13, a14⟩ := hC
  refine ⟨ld, dd, la0, ⟨a1, a2, a6, ok, a10, a14⟩, a3, a8, a9, fun h' c f => ?_⟩
  exact ⟨ld, dd, l, vs, la0, (f 0 (by omega)).trans a1, a2, a3.kept2 f (by omega), a4, a5.kept f (by omega), a6.kept f (by omega), a7.kept f (by omega), (f 20 (by omega)).trans a8, a9, a10.kept f (by omega), ⟨T, a11.kept f (by omega)⟩, fun s hs => by obtain ⟨T, z⟩ := a12 s hs; exact ⟨T, z.kept f (by omega)⟩, fun s hs => (a13 s hs).kept f (by omega), c⟩
set_option maxHeartbeats 2000000 in
/-- a read of the model -/
theorem zMP.mr (hM : zMP h ln tx S kn F la) (ok : sK S) : ∃ (at_ rp rj su lo dr : Int32) (ab be : Int64) (la0 : Nat → Int32), zMR h S (fun s => s ≤ kn) F (nI ln) at_ rp rj (nI kn) su lo dr ab be ∧ h 62 = .inl (.int, 24, la0) ∧ (∀ j, j < 24 → la0 j = la j) ∧ (∀ h', zMk' h h' S (nI ln) at_ rp rj (nI kn) → zMP h' ln tx S kn F la) := by
  obtain ⟨at_, rp, rj, su, lo, dr, ab, be, S1, la0, a1, a2, a3, a4, a5, a6, a7, a8⟩ := hM
  refine ⟨at_, rp, rj, su, lo, dr, ab, be, la0, ⟨a1, a4, ok, a7, Nat.zero_le kn, a8⟩, a5, a6, fun h' m => ?_⟩
  obtain ⟨⟨su', lo', dr', ab', be', m1⟩, m2, m3⟩ := m
  exact ⟨at_, rp, rj, su', lo', dr', ab', be', S1, la0, m1, (m3 54 (by omega)).trans a2, a3.kept m3 (by omega), a4.kept2 m3 (by omega), (m3 62 (by omega)).trans a5, a6, a7.kept m3 (by omega), m2⟩
set_option maxHeartbeats 2000000 in
theorem zapp_ok {v : Int64} : ∀ (n len : Nat) (tx : Nat → Int32), bOk tx → bOk (zapp v n len tx)
  | 0, len, tx, h => h
  | n + 1, len, tx, h => by
    rw [zapp]
    refine zapp_ok n (len + 1) _ (fun p => ?_)
    by_cases q : p = len
    · subst q
      rw [upd_s, Int8.toInt_toInt32]
      generalize (v >>> ((nI 8 * nI n).toInt64 &&& 63)).toInt32.toInt8 = x
      have := Int8.le_toInt x
      have := Int8.toInt_lt x
      omega
    · rw [upd_n q]; exact h p
def aWrite (ln : Nat) (n : Int32) : Int32 := if 1 ≤ n ∧ n ≤ 8 then (if ln + n.toNatClampNeg ≤ 400 then nI (ln + n.toNatClampNeg) else -3) else -1
def uWriteL (ln : Nat) (n : Int32) : Nat := if (1 ≤ n ∧ n ≤ 8) ∧ ln + n.toNatClampNeg ≤ 400 then ln + n.toNatClampNeg else ln
def uWriteT (ln : Nat) (tx : Nat → Int32) (n : Int32) (v : Int64) : Nat → Int32 := if (1 ≤ n ∧ n ≤ 8) ∧ ln + n.toNatClampNeg ≤ 400 then zapp v n.toNatClampNeg ln tx else tx
set_option maxHeartbeats 2000000 in
theorem aWrite_r {n r : Int32} (h : (r = -1 ∧ ¬ (1 ≤ n ∧ n ≤ 8)) ∨ (r = -3 ∧ (1 ≤ n ∧ n ≤ 8) ∧ 400 < ln + n.toNatClampNeg)) : r = aWrite ln n ∧ uWriteL ln n = ln ∧ ∀ v, uWriteT ln tx n v = tx := by
  unfold aWrite uWriteL uWriteT
  rcases h with ⟨rfl, h2⟩ | ⟨rfl, h2, h3⟩
  · rw [if_neg h2, if_neg (fun z => h2 z.1)]
    exact ⟨rfl, rfl, fun v => if_neg (fun z => h2 z.1)⟩
  · rw [if_pos h2, if_neg (by omega), if_neg (fun z => by omega)]
    exact ⟨rfl, rfl, fun v => if_neg (fun z => by omega)⟩
variable {X : Nat × (Nat → Int32)} {N : Nat} {Q : Option Value → Nat → zH → Prop}
set_option maxHeartbeats 2000000 in
theorem kWrite {n : Int32} {v : Int64} (hk : kn ≤ 2) (hC : zCP h ln tx S Sd kn F la) (K : ∀ h', zCP h' (uWriteL ln n) (uWriteT ln tx n v) S Sd kn F la → zfr (fun a => a < 53) h h' → Q (some (.int (aWrite ln n))) N h') : zE X 12 0 [some (.ref 0), some (.int n), some (.long v), none] [] (N, 0, 0) h Q := by
  have hC' := hC
  obtain ⟨ld, dd, l, vs, la0, a1, a2, a3, a4, a5, a6, a7, a8, a9, a10, ⟨T, a11⟩, a12, a13, a14⟩ := hC
  refine c12 a1 a3 (fun r hr => ?_) (fun j h' j1 j2 j3 j4 j5 j6 => ?_)
  · obtain ⟨e1, e2, e3⟩ := aWrite_r (tx := tx) hr
    have := K h
    rw [e2, e3 v] at this
    rw [e1]
    exact this hC' zfr.rf
  · have g1 : 1 ≤ n ∧ n ≤ 8 := by
      rw [j3]
      exact ⟨(nI_leI (a := 1) (b := j) (by omega) (by omega)).mpr j1, (nI_leI (a := j) (b := 8) (by omega) (by omega)).mpr j2⟩
    have g2 : n.toNatClampNeg = j := by rw [j3, nI_clamp (by omega)]
    have k1 := K h'
    unfold aWrite uWriteL uWriteT at k1
    rw [g2, if_pos g1, if_pos j4, if_pos ⟨g1, j4⟩, if_pos ⟨g1, j4⟩] at k1
    refine k1 ⟨ld, dd, l, vs, la0, (j6 0 (by omega)).trans a1, a2, j5, a4, a5.kept j6 (by omega), a6.kept j6 (by omega), a7.kept j6 (by omega), (j6 20 (by omega)).trans a8, a9, a10.kept j6 (by omega), ⟨T, a11.kept j6 (by omega)⟩, fun s hs => by obtain ⟨T, z⟩ := a12 s hs; exact ⟨T, z.kept j6 (by omega)⟩, fun s hs => (a13 s hs).kept j6 (by omega), a14.kept j6 (by omega)⟩ (j6.mono (fun a ha => by omega))
set_option maxHeartbeats 2000000 in
theorem mWrite {n : Int32} {v : Int64} (hl : ln ≤ 400) (hM : zMP h ln tx S kn F la) (K : ∀ h', zMP h' (uWriteL ln n) (uWriteT ln tx n v) S kn F la → zfr (fun a => 53 ≤ a) h h' → Q (some (.int (aWrite ln n))) N h') : zE X 107 0 [some (.ref 53), some (.int n), some (.long v), none, none] [] (N, 0, 0) h Q := by
  have hM' := hM
  obtain ⟨at_, rp, rj, su, lo, dr, ab, be, S1, la0, a1, a2, a3, a4, a5, a6, a7, a8⟩ := hM
  refine c107 a1 a2 hl (fun r hr => ?_) (fun j h' j1 j2 j3 j4 j5 j6 j7 => ?_)
  · obtain ⟨e1, e2, e3⟩ := aWrite_r (tx := tx) hr
    have := K h
    rw [e2, e3 v] at this
    rw [e1]
    exact this hM' zfr.rf
  · have g1 : 1 ≤ n ∧ n ≤ 8 := by
      rw [j3]
      exact ⟨(nI_leI (a := 1) (b := j) (by omega) (by omega)).mpr j1, (nI_leI (a := j) (b := 8) (by omega) (by omega)).mpr j2⟩
    have g2 : n.toNatClampNeg = j := by rw [j3, nI_clamp (by omega)]
    have k1 := K h'
    unfold aWrite uWriteL uWriteT at k1
    rw [g2, if_pos g1, if_pos j4, if_pos ⟨g1, j4⟩, if_pos ⟨g1, j4⟩] at k1
    exact k1 ⟨at_, rp, rj, su, lo, dr, ab, be, S1, la0, j5, j6, a3.kept j7 (by omega), a4.kept2 j7 (by omega), (j7 62 (by omega)).trans a5, a6, a7.kept j7 (by omega), a8.kept j7 (by omega)⟩ (j7.mono (fun a ha => by omega))
set_option maxHeartbeats 2000000 in
theorem zIn.write {n : Int32} {v : Int64} {B : Nat} (hI : zIn ln tx S kn F B) : zIn (uWriteL ln n) (uWriteT ln tx n v) S kn F B := by
  obtain ⟨a1, a2, a3, a4, a5⟩ := hI
  refine ⟨a1, ?_, a3, ?_, a5⟩
  · unfold uWriteL
    split
    · next g => exact g.2
    · exact a2
  · unfold uWriteT
    split
    · exact zapp_ok _ _ _ a4
    · exact a4
set_option maxHeartbeats 2000000 in
theorem kWipe (hk : kn ≤ 2) (hC : zCP h ln tx S Sd kn F la) (K : ∀ h', zCP h' 0 tx S Sd kn F la → zfr (fun a => a < 53) h h' → Q (some (.int (nI ln))) N h') : zE X 15 0 [some (.ref 0), none] [] (N, 0, 0) h Q := by
  obtain ⟨ld, dd, l, vs, la0, a1, a2, a3, a4, a5, a6, a7, a8, a9, a10, ⟨T, a11⟩, a12, a13, a14⟩ := hC
  refine c15 a1 a3 (fun h' j5 j6 => ?_)
  exact K h' ⟨ld, dd, l, vs, la0, (j6 0 (by omega)).trans a1, a2, j5, a4, a5.kept j6 (by omega), a6.kept j6 (by omega), a7.kept j6 (by omega), (j6 20 (by omega)).trans a8, a9, a10.kept j6 (by omega), ⟨T, a11.kept j6 (by omega)⟩, fun s hs => by obtain ⟨T, z⟩ := a12 s hs; exact ⟨T, z.kept j6 (by omega)⟩, fun s hs => (a13 s hs).kept j6 (by omega), a14.kept j6 (by omega)⟩ (j6.mono (fun a ha => by omega))
set_option maxHeartbeats 2000000 in
theorem mWipe (hM : zMP h ln tx S kn F la) (K : ∀ h', zMP h' 0 tx S kn F la → zfr (fun a => 53 ≤ a) h h' → Q (some (.int (nI ln))) N h') : zE X 109 0 [some (.ref 53), none] [] (N, 0, 0) h Q := by
  obtain ⟨at_, rp, rj, su, lo, dr, ab, be, S1, la0, a1, a2, a3, a4, a5, a6, a7, a8⟩ := hM
  refine c109 a1 (fun h' j5 j7 => ?_)
  exact K h' ⟨at_, rp, rj, su, lo, dr, ab, be, S1, la0, j5, (j7 54 (by omega)).trans a2, a3.kept j7 (by omega), a4.kept2 j7 (by omega), (j7 62 (by omega)).trans a5, a6, a7.kept j7 (by omega), a8.kept j7 (by omega)⟩ (j7.mono (fun a ha => by omega))
/-- what the text tells, over the draft -/
abbrev sRd (ln : Nat) (tx : Nat → Int32) (Sd : zSh) : Option Nat × zSh := sAll (bt tx ln) ln 400 0 (sClr Sd)
set_option maxHeartbeats 2000000 in
theorem kFault (hk : kn ≤ 2) (hC : zCP h ln tx S Sd kn F la) (K : ∀ h', zCP h' ln tx S (sRd ln tx Sd).2 kn F la → zfr (fun a => a < 53) h h' → Q (some (.int (sFl (sRd ln tx Sd).1))) N h') : zE X 16 0 [some (.ref 0)] [] (N, 0, 0) h Q := by
  obtain ⟨ld, dd, l, vs, la0, a1, a2, a3, a4, a5, a6, a7, a8, a9, a10, ⟨T, a11⟩, a12, a13, a14⟩ := hC
  refine c16 a1 (by omega) a3 a5 a4 a7 (fun h' l' vs' g1 g2 g3 g4 => ?_)
  exact K h' ⟨ld, dd, l', vs', la0, (g4 0 (by omega)).trans a1, a2, a3.kept2 g4 (by omega), g1, g2, a6.kept g4 (by omega), g3, (g4 20 (by omega)).trans a8, a9, a10.kept g4 (by omega), ⟨T, a11.kept g4 (by omega)⟩, fun s hs => by obtain ⟨T, z⟩ := a12 s hs; exact ⟨T, z.kept g4 (by omega)⟩, fun s hs => (a13 s hs).kept g4 (by omega), a14.kept g4 (by omega)⟩ (g4.mono (fun a ha => by omega))
set_option maxHeartbeats 2000000 in
theorem mFault (hb : bOk tx) (hl : ln ≤ 400) (hM : zMP h ln tx S kn F la) (K : ∀ h', zMP h' ln tx S kn F la → zfr (fun a => 53 ≤ a) h h' → Q (some (.int (sFl (sRd ln tx Sd).1))) N h') : zE X 110 0 [some (.ref 53), none] [] (N, 0, 0) h Q := by
  obtain ⟨at_, rp, rj, su, lo, dr, ab, be, S1, la0, a1, a2, a3, a4, a5, a6, a7, a8⟩ := hM
  refine c110 (S := Sd) hb hl a1 a2 a3 (fun h' q rp' rj' g1 g2 g3 => ?_)
  exact K h' ⟨q, rp', rj', su, lo, dr, ab, be, _, la0, g1, (g3 54 (by omega)).trans a2, g2, a4.kept2 g3 (by omega), (g3 62 (by omega)).trans a5, a6, a7.kept g3 (by omega), a8.kept g3 (by omega)⟩ (g3.mono (fun a ha => by omega))
/-- the times at the start of a sheet -/
abbrev tNew (S : zSh) : Nat → zTm := fun _ => (S.2.2.2.2.1, fun _ => 0, fun _ => 0, 0, 0)
set_option maxHeartbeats 2000000 in
theorem kLay (hk : kn ≤ 2) (hC : zCP h ln tx S Sd kn F la)
    (K0 : (sRd ln tx Sd).1 ≠ none → ∀ h', zCP h' ln tx S (sRd ln tx Sd).2 kn F la → zfr (fun a => a < 53) h h' → Q (some (.int (-2))) N h')
    (K1 : (sRd ln tx Sd).1 = none → ∀ h', zCP h' ln tx (sRd ln tx Sd).2 S 0 (tNew (sRd ln tx Sd).2) (fun _ => 0) → zfr (fun a => a < 53) h h' → Q (some (.int (nI (sRd ln tx Sd).2.1.1))) N h') : zE X 32 0 [some (.ref 0), none] [] (N, 0, 0) h Q := by
  obtain ⟨ld, dd, l, vs, la0, a1, a2, a3, a4, a5, a6, a7, a8, a9, a10, ⟨T, a11⟩, a12, a13, a14⟩ := hC
  refine c32 a1 a2 a3 a5 a4 a7 a10 a8 (fun g h' l' vs' g1 g2 g3 g4 => ?_) (fun g h' l' vs' la' g1 g2 g0 g3 gt gl gla g4 => ?_)
  · exact K0 g h' ⟨ld, dd, l', vs', la0, (g4 0 (by omega)).trans a1, a2, a3.kept2 g4 (by omega), g1, g2, a6.kept g4 (by omega), g3, (g4 20 (by omega)).trans a8, a9, a10.kept g4 (by omega), ⟨T, a11.kept g4 (by omega)⟩, fun s hs => by obtain ⟨T, z⟩ := a12 s hs; exact ⟨T, z.kept g4 (by omega)⟩, fun s hs => (a13 s hs).kept g4 (by omega), a14.kept g4 (by omega)⟩ (g4.mono (fun a ha => by omega))
  · exact K1 g h' ⟨dd, ld, l', vs', la', g0, by omega, a3.kept2 g4 (by omega), g1, g2, g3, a6.kept g4 (by omega), gl, gla, gt, ⟨T, a11.kept g4 (by omega)⟩, fun s hs => by obtain ⟨T, z⟩ := a12 s hs; exact ⟨T, z.kept g4 (by omega)⟩, fun s hs => absurd hs (Nat.not_lt_zero s), a14.kept g4 (by omega)⟩ (g4.mono (fun a ha => by omega))
set_option maxHeartbeats 2000000 in
theorem pMz.pMT {h : zH} {D : Nat → Prop} {F : Nat → zTm} (hT : pMz h D F) (hD : D 0) : pMT h 0 F := by
  obtain ⟨a, b, c, y, r, t1, t2, t3, t4, t5, t6⟩ := hT
  refine ⟨a, b, c, y, r, t1, t2, t3, t4, t5, fun s hs => ?_⟩
  obtain rfl : s = 0 := by omega
  exact t6 0 (by omega) hD
set_option maxHeartbeats 2000000 in
theorem pMT.pMz {h : zH} {F : Nat → zTm} (hT : pMT h 0 F) : pMz h (fun s => s ≤ 0) F := by
  obtain ⟨a, b, c, y, r, t1, t2, t3, t4, t5, t6⟩ := hT
  exact ⟨a, b, c, y, r, t1, t2, t3, t4, t5, fun s _ hs => t6 s hs⟩
set_option maxHeartbeats 2000000 in
theorem mLay (hb : bOk tx) (hl : ln ≤ 400) (hM : zMP h ln tx S kn F la)
    (K0 : (sRd ln tx Sd).1 ≠ none → ∀ h', zMP h' ln tx S kn F la → zfr (fun a => 53 ≤ a) h h' → Q (some (.int (-2))) N h')
    (K1 : (sRd ln tx Sd).1 = none → ∀ h', zMP h' ln tx (sRd ln tx Sd).2 0 (tNew (sRd ln tx Sd).2) (fun _ => 0) → zfr (fun a => 53 ≤ a) h h' → Q (some (.int (nI (sRd ln tx Sd).2.1.1))) N h') : zE X 115 0 [some (.ref 53), none] [] (N, 0, 0) h Q := by
  obtain ⟨at_, rp, rj, su, lo, dr, ab, be, S1, la0, a1, a2, a3, a4, a5, a6, a7, a8⟩ := hM
  obtain ⟨m1, m2, rpl, rju, rre, g1, g2, g3, -⟩ := a4.rows
  refine c115 (S := Sd) hb hl a1 a2 a3 g1 g2 g3 a5 (a7.pMT (Nat.zero_le kn)) (fun g h' q rp' rj' k1 k2 k3 => ?_) (fun g h' q rp' rj' la' k1 k2 k3 k4 k5 k6 k7 => ?_)
  · exact K0 g h' ⟨q, rp', rj', su, lo, dr, ab, be, _, la0, k1, (k3 54 (by omega)).trans a2, k2, a4.kept2 k3 (by omega), (k3 62 (by omega)).trans a5, a6, a7.kept k3 (by omega), a8.kept k3 (by omega)⟩ (k3.mono (fun a ha => by omega))
  · exact K1 g h' ⟨q, rp', rj', su, lo, dr, ab, be, _, la', k1, (k7 54 (by omega)).trans a2, k2, k3, k4, k5, k6.pMz, a8.kept k7 (by omega)⟩ (k7.mono (fun a ha => by omega))
set_option maxHeartbeats 2000000 in
theorem zIn.lay {B : Nat} (hI : zIn ln tx S kn F B) : zIn ln tx (sRd ln tx Sd).2 0 (tNew (sRd ln tx Sd).2) B := by
  obtain ⟨a1, a2, a3, a4, a5⟩ := hI
  exact ⟨sAll_ok _ _ _ sClr_ok, a2, by omega, a4, fun s hs => ⟨0, by omega, rfl⟩⟩
end C62
