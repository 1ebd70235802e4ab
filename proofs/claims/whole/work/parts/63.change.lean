-- calls that change the state
section C63
variable {X : Nat × (Nat → Int32)} {N : Nat} {Q : Option Value → Nat → zH → Prop} {h : zH} {ln kn B : Nat} {tx la : Nat → Int32} {S Sd : zSh} {F : Nat → zTm} {p n v i w : Int32}
set_option maxHeartbeats 2000000 in
theorem kYear (hI : zIn ln tx S kn F B) (hB : B < 50000) (hC : zCP h ln tx S Sd kn F la) (K : ∀ h', zCP h' ln tx S Sd kn (fUp F 0 (uYear S (F 0) p)) la → zfr (fun a => a < 53) h h' → Q (some (.int (aYear S (F 0) p))) N h') : zE X 92 0 [some (.ref 0), some (.int p)] [] (N, 0, 0) h Q := by
  obtain ⟨ok, i2, i3, i4, i5⟩ := hI
  obtain ⟨y, y1, y2⟩ := i5 0 (Nat.zero_le kn)
  obtain ⟨ld, dd, l, vs, la0, a1, a2, a3, a4, a5, a6, a7, a8, a9, a10, ⟨T, a11⟩, a12, a13, a14⟩ := hC
  refine c92 (yn := y) (by omega) y2 ⟨a1, a2, a6, ok, a10, a14⟩ (fun h' b1 b2 b3 => ?_)
  exact K h' ⟨ld, dd, l, vs, la0, (b3 0 (by omega)).trans a1, a2, a3.kept2 b3 (by omega), a4, a5.kept b3 (by omega), a6.kept b3 (by omega), a7.kept b3 (by omega), (b3 20 (by omega)).trans a8, a9, b1, ⟨T, a11.kept b3 (by omega)⟩, fun s hs => by obtain ⟨T, z⟩ := a12 s hs; exact ⟨T, z.kept b3 (by omega)⟩, fun s hs => (a13 s hs).kept b3 (by omega), b2⟩ (b3.mono (fun a ha => by omega))
set_option maxHeartbeats 2000000 in
theorem mYear (hI : zIn ln tx S kn F B) (hB : B < 50000) (hM : zMP h ln tx S kn F la) (K : ∀ h', zMP h' ln tx S kn (fUp F 0 (uYear S (F 0) p)) la → zfr (fun a => 53 ≤ a) h h' → Q (some (.int (aYear S (F 0) p))) N h') : zE X 151 0 [some (.ref 53), some (.int p)] [] (N, 0, 0) h Q := by
  obtain ⟨ok, i2, i3, i4, i5⟩ := hI
  obtain ⟨y, y1, y2⟩ := i5 0 (Nat.zero_le kn)
  obtain ⟨at_, rp, rj, su, lo, dr, ab, be, S1, la0, a1, a2, a3, a4, a5, a6, a7, a8⟩ := hM
  refine c151 (yn := y) (by omega) y2 ⟨a1, a4, ok, a7, Nat.zero_le kn, a8⟩ (fun h' m1 m2 m3 m4 => ?_)
  obtain ⟨su', lo', dr', ab', be', m1⟩ := m1
  exact K h' ⟨at_, rp, rj, su', lo', dr', ab', be', S1, la0, m1, (m4 54 (by omega)).trans a2, a3.kept m4 (by omega), a4.kept2 m4 (by omega), (m4 62 (by omega)).trans a5, a6, m2, m3⟩ (m4.mono (fun a ha => by omega))
set_option maxHeartbeats 2000000 in
theorem zIn.year (hI : zIn ln tx S kn F B) : zIn ln tx S kn (fUp F 0 (uYear S (F 0) p)) (B + 1) := by
  obtain ⟨ok, i2, i3, i4, i5⟩ := hI
  refine ⟨ok, i2, i3, i4, fun s hs => ?_⟩
  by_cases q : s = 0
  · subst q
    obtain ⟨y, y1, y2⟩ := i5 0 (Nat.zero_le kn)
    show ∃ y, y ≤ B + 1 ∧ (if 0 = 0 then uYear S (F 0) p else F 0).2.2.2.1 = nI y
    rw [if_pos rfl]
    unfold uYear
    split
    · refine ⟨y + 1, by omega, ?_⟩
      show (F 0).2.2.2.1 + 1 = _
      rw [y2, nI_1]
    · exact ⟨y, by omega, y2⟩
  · obtain ⟨y, y1, y2⟩ := i5 s hs
    refine ⟨y, by omega, ?_⟩
    show (if s = 0 then uYear S (F 0) p else F s).2.2.2.1 = nI y
    rw [if_neg q]
    exact y2
set_option maxHeartbeats 2000000 in
theorem kHaving (hI : zIn ln tx S kn F B) (hB : B < 50000) (hC : zCP h ln tx S Sd kn F la) (K : ∀ h', zCP h' ln tx S Sd kn F la → zfr (fun a => a < 53) h h' → Q (some (.int (aHaving S (F 0) p n))) N h') : zE X 99 0 [some (.ref 0), some (.int p), some (.int n), none, none] [] (N, 0, 0) h Q := by
  obtain ⟨ok, i2, i3, i4, i5⟩ := hI
  obtain ⟨y, y1, y2⟩ := i5 0 (Nat.zero_le kn)
  obtain ⟨ld, dd, l, vs, la0, a1, a2, a3, a4, a5, a6, a7, a8, a9, a10, ⟨T, a11⟩, a12, a13, a14⟩ := hC
  refine c99 (yn := y) (by omega) y2 ⟨a1, a2, a6, ok, a10, a14⟩ a11 (fun h' T' b1 b2 b3 => ?_)
  exact K h' ⟨ld, dd, l, vs, la0, (b3 0 (by omega)).trans a1, a2, a3.kept2 b3 (by omega), a4, a5.kept b3 (by omega), a6.kept b3 (by omega), a7.kept b3 (by omega), (b3 20 (by omega)).trans a8, a9, a10.kept b3 (by omega), ⟨T', b1⟩, fun s hs => by obtain ⟨T, z⟩ := a12 s hs; exact ⟨T, z.kept b3 (by omega)⟩, fun s hs => (a13 s hs).kept b3 (by omega), b2⟩ (b3.mono (fun a ha => by omega))
set_option maxHeartbeats 2000000 in
theorem mHaving (hI : zIn ln tx S kn F B) (hB : B < 50000) (hM : zMP h ln tx S kn F la) (K : ∀ h', zMP h' ln tx S kn F la → zfr (fun a => 53 ≤ a) h h' → Q (some (.int (aHaving S (F 0) p n))) N h') : zE X 155 0 [some (.ref 53), some (.int p), some (.int n), none, none, none] [] (N, 0, 0) h Q := by
  obtain ⟨ok, i2, i3, i4, i5⟩ := hI
  obtain ⟨y, y1, y2⟩ := i5 0 (Nat.zero_le kn)
  obtain ⟨at_, rp, rj, su, lo, dr, ab, be, S1, la0, a1, a2, a3, a4, a5, a6, a7, a8⟩ := hM
  refine c155 (yn := y) (D := fun s => s ≤ kn) (by omega) y2 (fun s hs => by omega) ⟨a1, a4, ok, a7, Nat.zero_le kn, a8⟩ (fun h' m1 m2 m3 m4 => ?_)
  obtain ⟨su', lo', dr', m1⟩ := m1
  exact K h' ⟨at_, rp, rj, su', lo', dr', ab, be, S1, la0, m1, (m4 54 (by omega)).trans a2, a3.kept m4 (by omega), a4.kept2 m4 (by omega), (m4 62 (by omega)).trans a5, a6, m2, m3⟩ (m4.mono (fun a ha => by omega))
set_option maxHeartbeats 2000000 in
theorem kLater (hI : zIn ln tx S kn F B) (hC : zCP h ln tx S Sd kn F la) (K : ∀ h', zCP h' ln tx S Sd kn F (uLater S la i v) → zfr (fun a => a < 53) h h' → Q (some (.int (aLater S la i v))) N h') : zE X 86 0 [some (.ref 0), some (.int i), some (.int v), none] [] (N, 0, 0) h Q := by
  obtain ⟨ok, i2, i3, i4, i5⟩ := hI
  obtain ⟨ld, dd, l, vs, la0, a1, a2, a3, a4, a5, a6, a7, a8, a9, a10, ⟨T, a11⟩, a12, a13, a14⟩ := hC
  refine c86 a1 a6 ok a8 a9 (fun h' la1 b1 b2 b3 => ?_)
  exact K h' ⟨ld, dd, l, vs, la1, (b3 0 (by omega)).trans a1, a2, a3.kept2 b3 (by omega), a4, a5.kept b3 (by omega), a6.kept b3 (by omega), a7.kept b3 (by omega), b1, b2, a10.kept b3 (by omega), ⟨T, a11.kept b3 (by omega)⟩, fun s hs => by obtain ⟨T, z⟩ := a12 s hs; exact ⟨T, z.kept b3 (by omega)⟩, fun s hs => (a13 s hs).kept b3 (by omega), a14.kept b3 (by omega)⟩ (b3.mono (fun a ha => by omega))
set_option maxHeartbeats 2000000 in
theorem mLater (hI : zIn ln tx S kn F B) (hM : zMP h ln tx S kn F la) (K : ∀ h', zMP h' ln tx S kn F (uLater S la i v) → zfr (fun a => 53 ≤ a) h h' → Q (some (.int (aLater S la i v))) N h') : zE X 148 0 [some (.ref 53), some (.int i), some (.int v), none] [] (N, 0, 0) h Q := by
  obtain ⟨ok, i2, i3, i4, i5⟩ := hI
  obtain ⟨at_, rp, rj, su, lo, dr, ab, be, S1, la0, a1, a2, a3, a4, a5, a6, a7, a8⟩ := hM
  refine c148 a1 ok a5 a6 (fun h' la1 m1 m2 m4 => ?_)
  exact K h' ⟨at_, rp, rj, su, lo, dr, ab, be, S1, la1, (m4 53 (by omega)).trans a1, (m4 54 (by omega)).trans a2, a3.kept m4 (by omega), a4.kept2 m4 (by omega), m1, m2, a7.kept m4 (by omega), a8.kept m4 (by omega)⟩ (m4.mono (fun a ha => by omega))
def uKeepN (kn : Nat) : Nat := if kn < 2 then kn + 1 else kn
def uKeepF (kn : Nat) (F : Nat → zTm) : Nat → zTm := if kn < 2 then fUp F (kn + 1) (F 0) else F
set_option maxHeartbeats 2000000 in
theorem kKeep (hI : zIn ln tx S kn F B) (hC : zCP h ln tx S Sd kn F la) (K : ∀ h', zCP h' ln tx S Sd (uKeepN kn) (uKeepF kn F) la → zfr (fun a => a < 53) h h' → Q (some (.int (aKeep kn))) N h') : zE X 101 0 [some (.ref 0)] [] (N, 0, 0) h Q := by
  obtain ⟨ok, i2, i3, i4, i5⟩ := hI
  have hC' := hC
  obtain ⟨ld, dd, l, vs, la0, a1, a2, a3, a4, a5, a6, a7, a8, a9, a10, ⟨T, a11⟩, a12, a13, a14⟩ := hC
  unfold uKeepN uKeepF at K
  refine c101 i3 a1 a10 a12 (fun g => ?_) (fun g h' b1 b2 b3 => ?_)
  · rw [if_neg g, if_neg g] at K
    exact K h hC' zfr.rf
  · rw [if_pos g, if_pos g] at K
    refine K h' ⟨ld, dd, l, vs, la0, b1, a2, a3.kept2 b3 (by omega), a4, a5.kept b3 (by omega), a6.kept b3 (by omega), a7.kept b3 (by omega), (b3 20 (by omega)).trans a8, a9, ?_, ⟨T, a11.kept b3 (by omega)⟩, fun s hs => ?_, fun s hs => ?_, a14.kept b3 (by omega)⟩ (b3.mono (fun a ha => by omega))
    · show pTm h' 21 (if 0 = kn + 1 then F 0 else F 0)
      rw [if_neg (by omega)]
      exact a10.kept b3 (by omega)
    · by_cases q : s = kn
      · subst q; exact ⟨_, b2⟩
      · obtain ⟨T, z⟩ := a12 s hs
        exact ⟨T, z.kept b3 (by omega)⟩
    · show pTm h' (29 + 4 * s) (if s + 1 = kn + 1 then F 0 else F (s + 1))
      by_cases q : s = kn
      · subst q; rw [if_pos rfl]; exact b2
      · rw [if_neg (by omega)]; exact (a13 s (by omega)).kept b3 (by omega)
set_option maxHeartbeats 2000000 in
theorem mKeep (hI : zIn ln tx S kn F B) (hM : zMP h ln tx S kn F la) (K : ∀ h', zMP h' ln tx S (uKeepN kn) (uKeepF kn F) la → zfr (fun a => 53 ≤ a) h h' → Q (some (.int (aKeep kn))) N h') : zE X 157 0 [some (.ref 53)] [] (N, 0, 0) h Q := by
  obtain ⟨ok, i2, i3, i4, i5⟩ := hI
  have hM' := hM
  obtain ⟨at_, rp, rj, su, lo, dr, ab, be, S1, la0, a1, a2, a3, a4, a5, a6, a7, a8⟩ := hM
  unfold uKeepN uKeepF at K
  refine c157 (D := fun s => s ≤ kn) i3 (Nat.zero_le kn) a1 a7 (fun g => ?_) (fun g h' b1 b2 m4 => ?_)
  · rw [if_neg g, if_neg g] at K
    exact K h hM' zfr.rf
  · rw [if_pos g, if_pos g] at K
    exact K h' ⟨at_, rp, rj, su, lo, dr, ab, be, S1, la0, b1, (m4 54 (by omega)).trans a2, a3.kept m4 (by omega), a4.kept2 m4 (by omega), (m4 62 (by omega)).trans a5, a6, b2.sub (fun s _ hs => ⟨by omega, rfl⟩), a8.kept m4 (by omega)⟩ (m4.mono (fun a ha => by omega))
set_option maxHeartbeats 2000000 in
theorem zIn.keep (hI : zIn ln tx S kn F B) : zIn ln tx S (uKeepN kn) (uKeepF kn F) B := by
  have hI' := hI
  obtain ⟨ok, i2, i3, i4, i5⟩ := hI
  unfold uKeepN uKeepF
  by_cases g : kn < 2
  · rw [if_pos g, if_pos g]
    refine ⟨ok, i2, by omega, i4, fun s hs => ?_⟩
    show ∃ y, y ≤ B ∧ (if s = kn + 1 then F 0 else F s).2.2.2.1 = nI y
    split
    · exact i5 0 (by omega)
    · exact i5 s (by omega)
  · rw [if_neg g, if_neg g]
    exact hI'
def uBackN (kn : Nat) : Nat := if 0 < kn then kn - 1 else kn
def uBackF (kn : Nat) (F : Nat → zTm) : Nat → zTm := if 0 < kn then fUp F 0 (F kn) else F
set_option maxHeartbeats 2000000 in
theorem kBack (hI : zIn ln tx S kn F B) (hC : zCP h ln tx S Sd kn F la) (K : ∀ h', zCP h' ln tx S Sd (uBackN kn) (uBackF kn F) la → zfr (fun a => a < 53) h h' → Q (some (.int (aBack kn))) N h') : zE X 103 0 [some (.ref 0)] [] (N, 0, 0) h Q := by
  obtain ⟨ok, i2, i3, i4, i5⟩ := hI
  have hC' := hC
  obtain ⟨ld, dd, l, vs, la0, a1, a2, a3, a4, a5, a6, a7, a8, a9, a10, ⟨T, a11⟩, a12, a13, a14⟩ := hC
  unfold uBackN uBackF at K
  refine c103 (F := F) i3 a1 ⟨_, a10⟩ a13 (fun g => ?_) (fun g h' b1 b2 b3 => ?_)
  · rw [if_neg g, if_neg g] at K
    exact K h hC' zfr.rf
  · rw [if_pos g, if_pos g] at K
    refine K h' ⟨ld, dd, l, vs, la0, b1, a2, a3.kept2 b3 (by omega), a4, a5.kept b3 (by omega), a6.kept b3 (by omega), a7.kept b3 (by omega), (b3 20 (by omega)).trans a8, a9, ?_, ⟨T, a11.kept b3 (by omega)⟩, fun s hs => ?_, fun s hs => ?_, a14.kept b3 (by omega)⟩ (b3.mono (fun a ha => by omega))
    · show pTm h' 21 (if 0 = 0 then F kn else F 0)
      rw [if_pos rfl]
      exact b2
    · obtain ⟨T, z⟩ := a12 s hs
      exact ⟨T, z.kept b3 (by omega)⟩
    · show pTm h' (29 + 4 * s) (if s + 1 = 0 then F kn else F (s + 1))
      rw [if_neg (by omega)]
      exact (a13 s (by omega)).kept b3 (by omega)
set_option maxHeartbeats 2000000 in
theorem mBack (hI : zIn ln tx S kn F B) (hM : zMP h ln tx S kn F la) (K : ∀ h', zMP h' ln tx S (uBackN kn) (uBackF kn F) la → zfr (fun a => 53 ≤ a) h h' → Q (some (.int (aBack kn))) N h') : zE X 158 0 [some (.ref 53)] [] (N, 0, 0) h Q := by
  obtain ⟨ok, i2, i3, i4, i5⟩ := hI
  have hM' := hM
  obtain ⟨at_, rp, rj, su, lo, dr, ab, be, S1, la0, a1, a2, a3, a4, a5, a6, a7, a8⟩ := hM
  unfold uBackN uBackF at K
  refine c158 (D := fun s => s ≤ kn) i3 (Nat.le_refl kn) a1 a7 (fun g => ?_) (fun g h' b1 b2 m4 => ?_)
  · rw [if_neg g, if_neg g] at K
    exact K h hM' zfr.rf
  · rw [if_pos g, if_pos g] at K
    exact K h' ⟨at_, rp, rj, su, lo, dr, ab, be, S1, la0, b1, (m4 54 (by omega)).trans a2, a3.kept m4 (by omega), a4.kept2 m4 (by omega), (m4 62 (by omega)).trans a5, a6, b2.sub (fun s _ hs => ⟨by omega, rfl⟩), a8.kept m4 (by omega)⟩ (m4.mono (fun a ha => by omega))
set_option maxHeartbeats 2000000 in
theorem zIn.back (hI : zIn ln tx S kn F B) : zIn ln tx S (uBackN kn) (uBackF kn F) B := by
  have hI' := hI
  obtain ⟨ok, i2, i3, i4, i5⟩ := hI
  unfold uBackN uBackF
  by_cases g : 0 < kn
  · rw [if_pos g, if_pos g]
    refine ⟨ok, i2, by omega, i4, fun s hs => ?_⟩
    show ∃ y, y ≤ B ∧ (if s = 0 then F kn else F s).2.2.2.1 = nI y
    split
    · exact i5 kn (by omega)
    · exact i5 s (by omega)
  · rw [if_neg g, if_neg g]
    exact hI'
end C63
