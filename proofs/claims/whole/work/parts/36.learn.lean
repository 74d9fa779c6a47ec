/-! COMMITTING IS ALIKE -/
theorem count_fr (k : Nat) (b : Bool) : ∀ (n i : Nat) (S : uS), (lX4_count k b n i S).1 = S.1 ∧ (lX4_count k b n i S).2.2 = S.2.2 ∧ ∀ a, a ≠ 7 → (lX4_count k b n i S).2.1 a = S.2.1 a := by
  intro n
  induction n with
  | zero => intro i S; exact ⟨rfl, rfl, fun _ _ => rfl⟩
  | succ n ih =>
    intro i S
    rw [lX4_count]
    split
    · exact ih _ _
    · obtain ⟨h1, h2, h3⟩ := ih (i + 1) (uL S 7 0 i ((S.2.1 7 0 i) + (1 : Int64)))
      refine ⟨h1.trans rfl, h2.trans rfl, fun a ha => (h3 a ha).trans ?_⟩
      funext u v; simp [uL, ha]
theorem move_fr (S : uS) (t : Nat) (x : Int32) (b : Bool) : (fX2_move S t x b).2 = S.2 ∧ (∀ a, a ≠ 2 → (fX2_move S t x b).1 a = S.1 a) ∧ ∀ u, u ≠ t → (fX2_move S t x b).1 2 u = S.1 2 u := by
  unfold fX2_move
  split
  all_goals
    refine ⟨rfl, fun a ha => ?_, fun u hu => ?_⟩
    · funext u v; simp [uI, ha]
    · funext v; simp [uI, hu]
theorem note_fr (S : uS) (t : Nat) (x y : Int32) (b : Bool) : (fX0_note S t x y b).2.2 = S.2.2 ∧ (∀ a, a ≠ 4 → (fX0_note S t x y b).1 a = S.1 a) ∧ ∀ a, a ≠ 3 → (fX0_note S t x y b).2.1 a = S.2.1 a := by
  unfold fX0_note
  repeat' split
  all_goals
    refine ⟨rfl, fun a ha => ?_, fun a ha => ?_⟩
    · funext u v; simp [uI, uL, ha]
    · funext u v; simp [uI, uL, ha]
theorem change_fr (M : uS) (i : Nat) (b : Bool) : (fX5_change M i b).2 = M.2 ∧ (∀ a, a ≠ 11 → (fX5_change M i b).1 a = M.1 a) ∧ ∀ a, a ≠ 0 → (fX5_change M i b).1 11 a = M.1 11 a := by
  unfold fX5_change
  refine ⟨rfl, fun a ha => ?_, fun a ha => ?_⟩
  · funext u v; simp [uI, ha]
  · funext v; simp [uI, ha]
theorem audit_fr (M : uS) (t i : Nat) (x : Int32) (b : Bool) : (fX5_audit M t i x b).2.2 = M.2.2 ∧ (∀ a, a ≠ 11 → (fX5_audit M t i x b).1 a = M.1 a) ∧ (∀ a, a ≠ 1 → (fX5_audit M t i x b).1 11 a = M.1 11 a) ∧ (∀ a, a ≠ 13 → (fX5_audit M t i x b).2.1 a = M.2.1 a) ∧ ∀ a, a ≠ 1 → (fX5_audit M t i x b).2.1 13 a = M.2.1 13 a := by
  unfold fX5_audit
  split
  · refine ⟨rfl, fun a ha => ?_, fun a ha => ?_, fun a ha => rfl, fun a ha => rfl⟩
    · funext u v; simp [uI, ha]
    · funext v; simp [uI, ha]
  · split
    · refine ⟨rfl, fun a ha => ?_, fun a ha => ?_, fun a ha => rfl, fun a ha => rfl⟩
      · funext u v; simp [uI, ha]
      · funext v; simp [uI, ha]
    · refine ⟨rfl, fun a ha => ?_, fun a ha => ?_, fun a ha => ?_, fun a ha => ?_⟩
      · funext u v; simp [uI, uL, ha]
      · funext v; simp [uI, uL, ha]
      · funext u v; simp [uI, uL, ha]
      · funext v; simp [uI, uL, ha]
theorem miss_fr (b : Bool) : ∀ (n i : Nat) (M : uS), (lX5_miss b n i M).1 = M.1 ∧ (lX5_miss b n i M).2.2 = M.2.2 ∧ ∀ a, a ≠ 13 → (lX5_miss b n i M).2.1 a = M.2.1 a := by
  intro n
  induction n with
  | zero => intro i M; exact ⟨rfl, rfl, fun _ _ => rfl⟩
  | succ n ih =>
    intro i M
    rw [lX5_miss]
    obtain ⟨h1, h2, h3⟩ := ih (i + 1) (uL M 13 0 i ((M.2.1 13 0 i) + (if (M.2.2 12 0 i) = b then (0 : Int64) else (1 : Int64))))
    refine ⟨h1.trans rfl, h2.trans rfl, fun a ha => (h3 a ha).trans ?_⟩
    funext u v; simp [uL, ha]
theorem shift_10 : ∀ (n i : Nat) (M : uS), (lX5_shift n i M).1 10 = M.1 10 := by
  intro n
  induction n with
  | zero => intro i M; rfl
  | succ n ih =>
    intro i M
    rw [lX5_shift, ih]
    funext u v; simp [uI, uF]
/-- the tables, the audits -/
theorem r_choice {S M : uS} {P k X : Nat} {b : Bool} (hP : P ≤ 8) (hT : rT S M) (h3 : S.1 8 k 3 = nI (X % 2 ^ P)) (h5 : S.2.2 8 k 5 = M.2.2 12 0 0) (h6 : S.2.2 8 k 6 = M.2.2 12 0 1) : rT (fX4_learnChoice S k b) (fX5_learnC M P X b) ∧ ((fX4_learnChoice S k b).2 = S.2 ∧ ∀ a, a ≠ 2 → (fX4_learnChoice S k b).1 a = S.1 a) ∧ ((fX5_learnC M P X b).2 = M.2 ∧ (∀ a, a ≠ 11 → (fX5_learnC M P X b).1 a = M.1 a) ∧ ∀ a, a ≠ 0 → (fX5_learnC M P X b).1 11 a = M.1 11 a) := by
  unfold fX4_learnChoice fX5_learnC
  rw [h5, h6, h3]
  split
  · exact ⟨hT, ⟨rfl, fun _ _ => rfl⟩, rfl, fun _ _ => rfl, fun _ _ => rfl⟩
  · refine ⟨r_move hT (t := 2) (by decide) (m_lt hP) _, ⟨(move_fr _ _ _ _).1, (move_fr _ _ _ _).2.1⟩, change_fr _ _ _⟩
theorem r_outs {S M : uS} {i0 i1 : Nat} {x : Int32} {b : Bool} (h0 : i0 < 256) (h1 : i1 < 256) (hT : rT S M) (hA : rA S M) (hM : rM S M) : rT (fX4_learnOutcome (fX4_learnOutcome S 0 0 (nI i0) x b) 1 1 (nI i1) x b) (fX5_change (fX5_change (fX5_audit (fX5_audit M 0 i0 x b) 1 (256 + i1) x b) i0 b) (256 + i1) b) ∧ rA (fX4_learnOutcome (fX4_learnOutcome S 0 0 (nI i0) x b) 1 1 (nI i1) x b) (fX5_change (fX5_change (fX5_audit (fX5_audit M 0 i0 x b) 1 (256 + i1) x b) i0 b) (256 + i1) b) ∧ rM (fX4_learnOutcome (fX4_learnOutcome S 0 0 (nI i0) x b) 1 1 (nI i1) x b) (fX5_change (fX5_change (fX5_audit (fX5_audit M 0 i0 x b) 1 (256 + i1) x b) i0 b) (256 + i1) b) := by
  unfold fX4_learnOutcome
  have e0 : 256 * 0 + i0 = i0 := by omega
  have s0 := r_says hT (t := 0) (by decide) h0
  have s1 := r_says hT (t := 1) (by decide) h1
  rw [e0] at s0
  obtain ⟨a0, n0⟩ := r_note hA hM (t := 0) (by decide) h0 x b (fX2_saysTaken S 0 (nI i0)) (by rw [e0]; exact s0.symm)
  rw [e0] at a0 n0
  obtain ⟨p1, p2, p3⟩ := note_fr S 0 (nI i0) x (if (fX2_saysTaken S 0 (nI i0)) = b then false else true)
  obtain ⟨q1, q2, q3, q4, q5⟩ := audit_fr M 0 i0 x b
  generalize fX0_note S 0 (nI i0) x (if (fX2_saysTaken S 0 (nI i0)) = b then false else true) = S1 at *
  generalize fX5_audit M 0 i0 x b = M1 at *
  have hT1 : rT S1 M1 := rT_c (p2 2 (by decide)) (q3 0 (by decide)) hT
  obtain ⟨v1, v2, v3⟩ := move_fr S1 0 (nI i0) b
  have s2 : fX2_saysTaken (fX2_move S1 0 (nI i0) b) 1 (nI i1) = fX5_says M1 (256 * 1 + i1) := by
    rw [← r_says hT1 (t := 1) (by decide) h1]
    unfold fX2_saysTaken
    rw [v3 1 (by decide)]
  have hA2 : rA (fX2_move S1 0 (nI i0) b) M1 := rA_c (v2 4 (by decide)) rfl a0
  have hM2 : rM (fX2_move S1 0 (nI i0) b) M1 := by unfold rM; rw [v1]; exact n0
  obtain ⟨a1, n1⟩ := r_note hA2 hM2 (t := 1) (by decide) h1 x b _ s2.symm
  have hT2 : rT (fX2_move S1 0 (nI i0) b) (fX5_change (fX5_audit M1 1 (256 + i1) x b) i0 b) := by
    have := r_move (M := fX5_audit M1 1 (256 + i1) x b) (rT_c rfl ((audit_fr M1 1 (256 + i1) x b).2.2.1 0 (by decide)) hT1) (t := 0) (by decide) h0 b
    rw [e0] at this
    exact this
  generalize fX2_move S1 0 (nI i0) b = S2 at *
  obtain ⟨p1', p2', p3'⟩ := note_fr S2 1 (nI i1) x (if (fX2_saysTaken S2 1 (nI i1)) = b then false else true)
  generalize fX0_note S2 1 (nI i1) x (if (fX2_saysTaken S2 1 (nI i1)) = b then false else true) = S3 at *
  have a1' : rA S3 (fX5_audit M1 1 (256 + i1) x b) := a1
  have n1' : rM S3 (fX5_audit M1 1 (256 + i1) x b) := n1
  generalize fX5_audit M1 1 (256 + i1) x b = M2 at *
  have hT3 : rT S3 (fX5_change M2 i0 b) := rT_c (p2' 2 (by decide)) rfl hT2
  obtain ⟨w1, w2, w3⟩ := change_fr M2 i0 b
  generalize fX5_change M2 i0 b = M3 at *
  obtain ⟨z1, z2, z3⟩ := change_fr M3 (256 + i1) b
  obtain ⟨y1, y2, y3⟩ := move_fr S3 1 (nI i1) b
  refine ⟨r_move hT3 (t := 1) (by decide) h1 b, rA_c (y2 4 (by decide)) ((z3 1 (by decide)).trans (w3 1 (by decide))) a1', ?_⟩
  unfold rM
  rw [y1, z1, w1]
  exact n1'
theorem outs_C (S : uS) (i0 i1 : Int32) (x : Int32) (b : Bool) : (fX4_learnOutcome (fX4_learnOutcome S 0 0 i0 x b) 1 1 i1 x b).2.2 = S.2.2 ∧ (∀ a, a ≠ 2 → a ≠ 4 → (fX4_learnOutcome (fX4_learnOutcome S 0 0 i0 x b) 1 1 i1 x b).1 a = S.1 a) ∧ ∀ a, a ≠ 3 → (fX4_learnOutcome (fX4_learnOutcome S 0 0 i0 x b) 1 1 i1 x b).2.1 a = S.2.1 a := by
  have k : ∀ (S : uS) t i, (fX4_learnOutcome S t t i x b).2.2 = S.2.2 ∧ (∀ a, a ≠ 2 → a ≠ 4 → (fX4_learnOutcome S t t i x b).1 a = S.1 a) ∧ ∀ a, a ≠ 3 → (fX4_learnOutcome S t t i x b).2.1 a = S.2.1 a := by
    intro S t i
    unfold fX4_learnOutcome
    obtain ⟨p1, p2, p3⟩ := note_fr S t i x (if (fX2_saysTaken S t i) = b then false else true)
    generalize fX0_note S t i x (if (fX2_saysTaken S t i) = b then false else true) = S1 at *
    obtain ⟨v1, v2, v3⟩ := move_fr S1 t i b
    refine ⟨by rw [v1, p1], fun a h2 h4 => (v2 a h2).trans (p2 a h4), fun a h3 => by rw [v1]; exact p3 a h3⟩
  obtain ⟨a1, a2, a3⟩ := k S 0 i0
  obtain ⟨b1, b2, b3⟩ := k (fX4_learnOutcome S 0 0 i0 x b) 1 i1
  exact ⟨b1.trans a1, fun a h2 h4 => (b2 a h2 h4).trans (a2 a h2 h4), fun a h => (b3 a h).trans (a3 a h)⟩
theorem outs_M (M : uS) (i0 i1 : Nat) (x : Int32) (b : Bool) : (fX5_change (fX5_change (fX5_audit (fX5_audit M 0 i0 x b) 1 (256 + i1) x b) i0 b) (256 + i1) b).2.2 = M.2.2 ∧ (∀ a, a ≠ 11 → (fX5_change (fX5_change (fX5_audit (fX5_audit M 0 i0 x b) 1 (256 + i1) x b) i0 b) (256 + i1) b).1 a = M.1 a) ∧ (∀ a, a ≠ 0 → a ≠ 1 → (fX5_change (fX5_change (fX5_audit (fX5_audit M 0 i0 x b) 1 (256 + i1) x b) i0 b) (256 + i1) b).1 11 a = M.1 11 a) ∧ (∀ a, a ≠ 13 → (fX5_change (fX5_change (fX5_audit (fX5_audit M 0 i0 x b) 1 (256 + i1) x b) i0 b) (256 + i1) b).2.1 a = M.2.1 a) ∧ ∀ a, a ≠ 1 → (fX5_change (fX5_change (fX5_audit (fX5_audit M 0 i0 x b) 1 (256 + i1) x b) i0 b) (256 + i1) b).2.1 13 a = M.2.1 13 a := by
  obtain ⟨q1, q2, q3, q4, q5⟩ := audit_fr M 0 i0 x b
  generalize fX5_audit M 0 i0 x b = M1 at *
  obtain ⟨r1, r2, r3, r4, r5⟩ := audit_fr M1 1 (256 + i1) x b
  generalize fX5_audit M1 1 (256 + i1) x b = M2 at *
  obtain ⟨w1, w2, w3⟩ := change_fr M2 i0 b
  generalize fX5_change M2 i0 b = M3 at *
  obtain ⟨z1, z2, z3⟩ := change_fr M3 (256 + i1) b
  refine ⟨by rw [z1, w1, r1, q1], fun a h => by rw [z2 a h, w2 a h, r2 a h, q2 a h], fun a h h' => by rw [z3 a h, w3 a h, r3 a h', q3 a h'], fun a h => by rw [z1, w1, r4 a h, q4 a h], fun a h => by rw [z1, w1, r5 a h, q5 a h]⟩
