/-! STARTING ANEW IS ALIKE -/
theorem fill2_at (k : Nat) : ∀ (n i : Nat) (S : uS), (∀ t j, (lX2_fill k n i S).1 2 t j = if t = k ∧ i ≤ j ∧ j < i + n then 1 else S.1 2 t j) ∧ (lX2_fill k n i S).2 = S.2 ∧ ∀ a, a ≠ 2 → (lX2_fill k n i S).1 a = S.1 a := by
  intro n
  induction n with
  | zero => intro i S; exact ⟨fun t j => by rw [if_neg (by omega)]; rfl, rfl, fun _ _ => rfl⟩
  | succ n ih =>
    intro i S
    rw [lX2_fill]
    obtain ⟨h1, h2, h3⟩ := ih (i + 1) (uI S 2 k i (1 : Int32))
    refine ⟨fun t j => ?_, h2.trans rfl, fun a ha => (h3 a ha).trans (by funext u v; simp [uI, ha])⟩
    rw [h1]
    by_cases c : t = k ∧ i + 1 ≤ j ∧ j < i + 1 + n
    · rw [if_pos c, if_pos (by omega)]
    · rw [if_neg c]
      by_cases d : t = k ∧ j = i
      · rw [if_pos (by omega)]
        simp [uI, d]
      · rw [if_neg (by omega)]
        simp [uI, d]
theorem fill4_at (k : Nat) : ∀ (n i : Nat) (S : uS), (∀ t j, (lX0_fill k n i S).1 4 t j = if t = k ∧ i ≤ j ∧ j < i + n then -1 else S.1 4 t j) ∧ (lX0_fill k n i S).2 = S.2 ∧ ∀ a, a ≠ 4 → (lX0_fill k n i S).1 a = S.1 a := by
  intro n
  induction n with
  | zero => intro i S; exact ⟨fun t j => by rw [if_neg (by omega)]; rfl, rfl, fun _ _ => rfl⟩
  | succ n ih =>
    intro i S
    rw [lX0_fill]
    obtain ⟨h1, h2, h3⟩ := ih (i + 1) (uI S 4 k i (-1 : Int32))
    refine ⟨fun t j => ?_, h2.trans rfl, fun a ha => (h3 a ha).trans (by funext u v; simp [uI, ha])⟩
    rw [h1]
    by_cases c : t = k ∧ i + 1 ≤ j ∧ j < i + 1 + n
    · rw [if_pos c, if_pos (by omega)]
    · rw [if_neg c]
      by_cases d : t = k ∧ j = i
      · rw [if_pos (by omega)]
        simp [uI, d]
      · rw [if_neg (by omega)]
        simp [uI, d]
theorem free_at : ∀ (n i : Nat) (S : uS), (∀ j, (lX4_free n i S).1 9 j 0 = if i ≤ j ∧ j < i + n then -1 else S.1 9 j 0) ∧ (lX4_free n i S).2 = S.2 ∧ ∀ a, a ≠ 9 → (lX4_free n i S).1 a = S.1 a := by
  intro n
  induction n with
  | zero => intro i S; exact ⟨fun j => by rw [if_neg (by omega)]; rfl, rfl, fun _ _ => rfl⟩
  | succ n ih =>
    intro i S
    rw [lX4_free]
    obtain ⟨h1, h2, h3⟩ := ih (i + 1) (uI S 9 i 0 (-1 : Int32))
    refine ⟨fun j => ?_, h2.trans rfl, fun a ha => (h3 a ha).trans (by funext u v; simp [uI, ha])⟩
    rw [h1]
    by_cases c : i + 1 ≤ j ∧ j < i + 1 + n
    · rw [if_pos c, if_pos (by omega)]
    · rw [if_neg c]
      by_cases d : j = i
      · rw [if_pos (by omega)]
        simp [uI, d]
      · rw [if_neg (by omega)]
        simp [uI, d]
theorem zero_at : ∀ (n i : Nat) (S : uS), (∀ j, (lX4_zero n i S).2.1 7 0 j = if i ≤ j ∧ j < i + n then 0 else S.2.1 7 0 j) ∧ (lX4_zero n i S).1 = S.1 ∧ ∀ a, a ≠ 7 → (lX4_zero n i S).2.1 a = S.2.1 a := by
  intro n
  induction n with
  | zero => intro i S; exact ⟨fun j => by rw [if_neg (by omega)]; rfl, rfl, fun _ _ => rfl⟩
  | succ n ih =>
    intro i S
    rw [lX4_zero]
    obtain ⟨h1, h2, h3⟩ := ih (i + 1) (uL S 7 0 i (0 : Int64))
    refine ⟨fun j => ?_, h2.trans rfl, fun a ha => (h3 a ha).trans (by funext u v; simp [uL, ha])⟩
    rw [h1]
    by_cases c : i + 1 ≤ j ∧ j < i + 1 + n
    · rw [if_pos c, if_pos (by omega)]
    · rw [if_neg c]
      by_cases d : j = i
      · rw [if_pos (by omega)]
        simp [uL, d]
      · rw [if_neg (by omega)]
        simp [uL, d]
theorem bgA_at : ∀ (n i : Nat) (S : uS), (∀ j, (lX5_bgA n i S).1 11 0 j = if i ≤ j ∧ j < i + n then 1 else S.1 11 0 j) ∧ (lX5_bgA n i S).2 = S.2 ∧ (∀ a, a ≠ 11 → (lX5_bgA n i S).1 a = S.1 a) ∧ ∀ a, a ≠ 0 → (lX5_bgA n i S).1 11 a = S.1 11 a := by
  intro n
  induction n with
  | zero => intro i S; exact ⟨fun j => by rw [if_neg (by omega)]; rfl, rfl, fun _ _ => rfl, fun _ _ => rfl⟩
  | succ n ih =>
    intro i S
    rw [lX5_bgA]
    obtain ⟨h1, h2, h3, h4⟩ := ih (i + 1) (uI S 11 0 i (1 : Int32))
    refine ⟨fun j => ?_, h2.trans rfl, fun a ha => (h3 a ha).trans (by funext u v; simp [uI, ha]), fun a ha => (h4 a ha).trans (by funext v; simp [uI, ha])⟩
    rw [h1]
    by_cases c : i + 1 ≤ j ∧ j < i + 1 + n
    · rw [if_pos c, if_pos (by omega)]
    · rw [if_neg c]
      by_cases d : j = i
      · rw [if_pos (by omega)]
        simp [uI, d]
      · rw [if_neg (by omega)]
        simp [uI, d]
theorem bgB_at : ∀ (n i : Nat) (S : uS), (∀ j, (lX5_bgB n i S).1 11 1 j = if i ≤ j ∧ j < i + n then -1 else S.1 11 1 j) ∧ (lX5_bgB n i S).2 = S.2 ∧ (∀ a, a ≠ 11 → (lX5_bgB n i S).1 a = S.1 a) ∧ ∀ a, a ≠ 1 → (lX5_bgB n i S).1 11 a = S.1 11 a := by
  intro n
  induction n with
  | zero => intro i S; exact ⟨fun j => by rw [if_neg (by omega)]; rfl, rfl, fun _ _ => rfl, fun _ _ => rfl⟩
  | succ n ih =>
    intro i S
    rw [lX5_bgB]
    obtain ⟨h1, h2, h3, h4⟩ := ih (i + 1) (uI S 11 1 i (-1 : Int32))
    refine ⟨fun j => ?_, h2.trans rfl, fun a ha => (h3 a ha).trans (by funext u v; simp [uI, ha]), fun a ha => (h4 a ha).trans (by funext v; simp [uI, ha])⟩
    rw [h1]
    by_cases c : i + 1 ≤ j ∧ j < i + 1 + n
    · rw [if_pos c, if_pos (by omega)]
    · rw [if_neg c]
      by_cases d : j = i
      · rw [if_pos (by omega)]
        simp [uI, d]
      · rw [if_neg (by omega)]
        simp [uI, d]
theorem bgC_at : ∀ (n i : Nat) (S : uS), (∀ j, (lX5_bgC n i S).2.2 12 3 j = if i ≤ j ∧ j < i + n then false else S.2.2 12 3 j) ∧ (lX5_bgC n i S).1 = S.1 ∧ (lX5_bgC n i S).2.1 = S.2.1 := by
  intro n
  induction n with
  | zero => intro i S; exact ⟨fun j => by rw [if_neg (by omega)]; rfl, rfl, rfl⟩
  | succ n ih =>
    intro i S
    rw [lX5_bgC]
    obtain ⟨h1, h2, h3⟩ := ih (i + 1) (uF S 12 3 i false)
    refine ⟨fun j => ?_, h2.trans rfl, h3.trans rfl⟩
    rw [h1]
    by_cases c : i + 1 ≤ j ∧ j < i + 1 + n
    · rw [if_pos c, if_pos (by omega)]
    · rw [if_neg c]
      by_cases d : j = i
      · rw [if_pos (by omega)]
        simp [uF, d]
      · rw [if_neg (by omega)]
        simp [uF, d]
theorem bgD_at : ∀ (n i : Nat) (S : uS), (∀ a j, a < 2 → (lX5_bgD n i S).2.1 13 a j = if i ≤ j ∧ j < i + n then 0 else S.2.1 13 a j) ∧ (lX5_bgD n i S).1 = S.1 ∧ (lX5_bgD n i S).2.2 = S.2.2 ∧ ∀ a, a ≠ 13 → (lX5_bgD n i S).2.1 a = S.2.1 a := by
  intro n
  induction n with
  | zero => intro i S; exact ⟨fun a j _ => by rw [if_neg (by omega)]; rfl, rfl, rfl, fun _ _ => rfl⟩
  | succ n ih =>
    intro i S
    rw [lX5_bgD]
    obtain ⟨h1, h2, h3, h4⟩ := ih (i + 1) (uL (uL S 13 0 i (0 : Int64)) 13 1 i (0 : Int64))
    refine ⟨fun a j ha => ?_, h2.trans rfl, h3.trans rfl, fun a ha => (h4 a ha).trans (by funext u v; simp [uL, ha])⟩
    rw [h1 a j ha]
    have ha' : a = 0 ∨ a = 1 := by omega
    by_cases c : i + 1 ≤ j ∧ j < i + 1 + n
    · rw [if_pos c, if_pos (by omega)]
    · rw [if_neg c]
      by_cases d : j = i
      · rw [if_pos (by omega)]
        rcases ha' with rfl | rfl <;> simp [uL, d]
      · rw [if_neg (by omega)]
        rcases ha' with rfl | rfl <;> simp [uL, d]
theorem m_shl {P : Nat} (hP : P ≤ 8) : (1 : Int32) <<< ((nI P) &&& 31) = nI (2 ^ P) := m_sh P (by omega)
set_option maxHeartbeats 4000000 in
theorem R_start (S M : uS) {P Q h : Nat} (hP : P ≤ 8) (hQ : Q ≤ 8) (hh : h ≤ 8) (hJJ : rJ M) : Rel (fX4_startAnew S (nI P) (nI Q) (nI h)) (fX5_begin M (nI P) (nI Q) (nI h)) P Q h 0 0 0 ∧ (fX5_begin M (nI P) (nI Q) (nI h)).1 10 0 0 = M.1 10 0 0 := by
  unfold fX4_startAnew fX5_begin fX2_startAnew fX0_startAnew
  rw [m_shl hP, m_shl hQ]
  obtain ⟨a1, a2, a3⟩ := fill2_at 0 256 0 (uI (uI (uI (uI S 0 0 8 (nI P)) 0 0 9 (nI Q)) 0 0 10 (nI h)) 1 0 1 (nI (2 ^ P)))
  have a0 : ∀ z, (uI (uI (uI (uI S 0 0 8 (nI P)) 0 0 9 (nI Q)) 0 0 10 (nI h)) 1 0 1 (nI (2 ^ P))).1 0 0 z = if z = 10 then nI h else if z = 9 then nI Q else if z = 8 then nI P else S.1 0 0 z := fun z => by simp [uI]
  have a01 : (uI (uI (uI (uI S 0 0 8 (nI P)) 0 0 9 (nI Q)) 0 0 10 (nI h)) 1 0 1 (nI (2 ^ P))).1 1 0 1 = nI (2 ^ P) := by simp [uI]
  generalize uI (uI (uI (uI S 0 0 8 (nI P)) 0 0 9 (nI Q)) 0 0 10 (nI h)) 1 0 1 (nI (2 ^ P)) = S0 at *
  generalize lX2_fill 0 256 0 S0 = S1 at *
  obtain ⟨b1, b2, b3⟩ := fill2_at 1 256 0 (uI S1 1 1 1 (nI (2 ^ Q)))
  generalize lX2_fill 1 256 0 (uI S1 1 1 1 (nI (2 ^ Q))) = S2 at *
  obtain ⟨c1, c2, c3⟩ := fill2_at 2 256 0 (uI S2 1 2 1 (nI (2 ^ P)))
  generalize lX2_fill 2 256 0 (uI S2 1 2 1 (nI (2 ^ P))) = S3 at *
  obtain ⟨d1, d2, d3⟩ := fill4_at 0 256 0 S3
  generalize lX0_fill 0 256 0 S3 = S4 at *
  obtain ⟨e1, e2, e3⟩ := fill4_at 1 256 0 (uL (uL S4 3 0 1 (0 : Int64)) 3 0 2 (0 : Int64))
  generalize lX0_fill 1 256 0 (uL (uL S4 3 0 1 (0 : Int64)) 3 0 2 (0 : Int64)) = S5 at *
  obtain ⟨f1, f2, f3⟩ := free_at 8 0 (uL (uL S5 3 1 1 (0 : Int64)) 3 1 2 (0 : Int64))
  generalize lX4_free 8 0 (uL (uL S5 3 1 1 (0 : Int64)) 3 1 2 (0 : Int64)) = S6 at *
  obtain ⟨g1, g2, g3⟩ := zero_at 4 0 S6
  generalize lX4_zero 4 0 S6 = S7 at *
  -- the reference
  obtain ⟨p1, p2, p3, p4⟩ := bgA_at 768 0 (uL (uL (uI (uI (uI (uI (uI M 10 0 1 (nI P)) 10 0 2 (nI Q)) 10 0 3 (nI h)) 10 0 4 (0 : Int32)) 10 0 7 (0 : Int32)) 10 0 18 (0 : Int64)) 10 0 19 (0 : Int64))
  have p0 : (uL (uL (uI (uI (uI (uI (uI M 10 0 1 (nI P)) 10 0 2 (nI Q)) 10 0 3 (nI h)) 10 0 4 (0 : Int32)) 10 0 7 (0 : Int32)) 10 0 18 (0 : Int64)) 10 0 19 (0 : Int64)).1 11 = M.1 11 := by funext u v; simp [uI, uL]
  have p5 : (uL (uL (uI (uI (uI (uI (uI M 10 0 1 (nI P)) 10 0 2 (nI Q)) 10 0 3 (nI h)) 10 0 4 (0 : Int32)) 10 0 7 (0 : Int32)) 10 0 18 (0 : Int64)) 10 0 19 (0 : Int64)).1 10 0 = fun z => if z = 7 then 0 else if z = 4 then 0 else if z = 3 then nI h else if z = 2 then nI Q else if z = 1 then nI P else M.1 10 0 z := by funext v; simp [uI, uL]
  have p6 : (uL (uL (uI (uI (uI (uI (uI M 10 0 1 (nI P)) 10 0 2 (nI Q)) 10 0 3 (nI h)) 10 0 4 (0 : Int32)) 10 0 7 (0 : Int32)) 10 0 18 (0 : Int64)) 10 0 19 (0 : Int64)).2.1 10 0 18 = 0 := by simp [uL]
  have p7 : (uL (uL (uI (uI (uI (uI (uI M 10 0 1 (nI P)) 10 0 2 (nI Q)) 10 0 3 (nI h)) 10 0 4 (0 : Int32)) 10 0 7 (0 : Int32)) 10 0 18 (0 : Int64)) 10 0 19 (0 : Int64)).2.1 10 0 19 = 0 := by simp [uL]
  generalize uL (uL (uI (uI (uI (uI (uI M 10 0 1 (nI P)) 10 0 2 (nI Q)) 10 0 3 (nI h)) 10 0 4 (0 : Int32)) 10 0 7 (0 : Int32)) 10 0 18 (0 : Int64)) 10 0 19 (0 : Int64) = M0 at *
  generalize lX5_bgA 768 0 M0 = M1 at *
  obtain ⟨q1, q2, q3, q4⟩ := bgB_at 512 0 M1
  generalize lX5_bgB 512 0 M1 = M2 at *
  obtain ⟨r1, r2, r3⟩ := bgC_at 8 0 M2
  generalize lX5_bgC 8 0 M2 = M3 at *
  obtain ⟨s1, s2, s3, s4⟩ := bgD_at 4 0 M3
  generalize lX5_bgD 4 0 M3 = M4 at *
  -- together
  have h7_0 : ∀ z, S7.1 0 0 z = S0.1 0 0 z := fun z => by
    rw [g2, f3 0 (by decide)]
    show S5.1 0 0 z = _
    rw [e3 0 (by decide)]
    show S4.1 0 0 z = _
    rw [d3 0 (by decide), c3 0 (by decide)]
    show S2.1 0 0 z = _
    rw [b3 0 (by decide)]
    show S1.1 0 0 z = _
    rw [a3 0 (by decide)]
  have h7_1 : S7.1 1 = (uI S2 1 2 1 (nI (2 ^ P))).1 1 := by
    rw [g2, f3 1 (by decide)]
    show S5.1 1 = _
    rw [e3 1 (by decide)]
    show S4.1 1 = _
    rw [d3 1 (by decide), c3 1 (by decide)]
  have h7_2 : ∀ t i, S7.1 2 t i = S3.1 2 t i := fun t i => by
    rw [g2, f3 2 (by decide)]
    show S5.1 2 t i = _
    rw [e3 2 (by decide)]
    show S4.1 2 t i = _
    rw [d3 2 (by decide)]
  have h7_4 : ∀ t i, S7.1 4 t i = S5.1 4 t i := fun t i => by
    rw [g2, f3 4 (by decide)]
    rfl
  have h2_1 : S2.1 1 = (uI S1 1 1 1 (nI (2 ^ Q))).1 1 := b3 1 (by decide)
  refine ⟨⟨⟨⟨hP, hQ, hh, by decide, by decide, by decide⟩, ?_, ?_, ?_⟩, ⟨?_, ?_, fun k hk => ?_, fun t ht => ?_⟩, fun t ht i hi => ?_, fun t ht i hi => ?_, fun k hk => .inl ⟨?_, ?_⟩, fun k hk => absurd hk (Nat.not_lt_zero _), fun j hj => ?_⟩, ?_⟩
  · simp [uI, uL, h7_0, a0]; exact rfl
  · have z1 : S1.1 1 0 1 = nI (2 ^ P) := by rw [a3 1 (by decide)]; exact a01
    have k7 : ∀ t, (uL (uL (uI (uI (uI S7 0 0 11 (0 : Int32)) 0 0 12 (0 : Int32)) 0 0 13 (0 : Int32)) 0 0 14 (0 : Int64)) 0 0 15 (0 : Int64)).1 1 t 1 = S7.1 1 t 1 := fun t => by simp [uI, uL]
    rw [k7, k7, k7, h7_1]
    have y0 : (uI S2 1 2 1 (nI (2 ^ P))).1 1 0 1 = S2.1 1 0 1 := by simp [uI]
    have y1 : (uI S2 1 2 1 (nI (2 ^ P))).1 1 1 1 = S2.1 1 1 1 := by simp [uI]
    have y2 : (uI S2 1 2 1 (nI (2 ^ P))).1 1 2 1 = nI (2 ^ P) := by simp [uI]
    rw [y0, y1, y2, h2_1]
    refine ⟨?_, ?_, rfl⟩
    · have : (uI S1 1 1 1 (nI (2 ^ Q))).1 1 0 1 = S1.1 1 0 1 := by simp [uI]
      rw [this, z1]
    · simp [uI]
  · rw [s2, r2, q3 10 (by decide), p3 10 (by decide), p5]
    exact ⟨rfl, rfl, rfl, rfl, rfl⟩
  · rw [s4 10 (by decide), r3, q2, p2, p6]
    simp [uL]
  · rw [s4 10 (by decide), r3, q2, p2, p7]
    simp [uL]
  · rw [s1 0 k (by decide), if_pos (by omega)]
    have : (uL (uL (uI (uI (uI S7 0 0 11 (0 : Int32)) 0 0 12 (0 : Int32)) 0 0 13 (0 : Int32)) 0 0 14 (0 : Int64)) 0 0 15 (0 : Int64)).2.1 7 0 k = S7.2.1 7 0 k := by simp [uI, uL]
    rw [this, g1, if_pos (by omega)]
  · rw [s1 1 _ (by decide), s1 1 _ (by decide), if_pos (by omega), if_pos (by omega)]
    have k3 : ∀ z, (uL (uL (uI (uI (uI S7 0 0 11 (0 : Int32)) 0 0 12 (0 : Int32)) 0 0 13 (0 : Int32)) 0 0 14 (0 : Int64)) 0 0 15 (0 : Int64)).2.1 3 t z = S7.2.1 3 t z := fun z => by simp [uI, uL]
    rw [k3, k3, g3 3 (by decide), f2]
    have ht' : t = 0 ∨ t = 1 := by omega
    rcases ht' with rfl | rfl
    · have k4 : ∀ z, (uL (uL S5 3 1 1 (0 : Int64)) 3 1 2 (0 : Int64)).2.1 3 0 z = S5.2.1 3 0 z := fun z => by simp [uL]
      rw [k4, k4, e2]
      simp [uL]
    · simp [uL]
  · have k2 : (uL (uL (uI (uI (uI S7 0 0 11 (0 : Int32)) 0 0 12 (0 : Int32)) 0 0 13 (0 : Int32)) 0 0 14 (0 : Int64)) 0 0 15 (0 : Int64)).1 2 t i = 1 := by
      have k7 : (uL (uL (uI (uI (uI S7 0 0 11 (0 : Int32)) 0 0 12 (0 : Int32)) 0 0 13 (0 : Int32)) 0 0 14 (0 : Int64)) 0 0 15 (0 : Int64)).1 2 t i = S7.1 2 t i := by simp [uI, uL]
      rw [k7, h7_2, c1]
      by_cases t2 : t = 2
      · rw [if_pos (by omega)]
      · rw [if_neg (by omega)]
        show S2.1 2 t i = 1
        rw [b1]
        by_cases t1 : t = 1
        · rw [if_pos (by omega)]
        · rw [if_neg (by omega)]
          show S1.1 2 t i = 1
          rw [a1, if_pos (by omega)]
    rw [k2, s2, r2, q4 0 (by decide), p1, if_pos (by omega)]
    exact ⟨rfl, 1, by decide, rfl⟩
  · have k2 : (uL (uL (uI (uI (uI S7 0 0 11 (0 : Int32)) 0 0 12 (0 : Int32)) 0 0 13 (0 : Int32)) 0 0 14 (0 : Int64)) 0 0 15 (0 : Int64)).1 4 t i = -1 := by
      have k7 : (uL (uL (uI (uI (uI S7 0 0 11 (0 : Int32)) 0 0 12 (0 : Int32)) 0 0 13 (0 : Int32)) 0 0 14 (0 : Int64)) 0 0 15 (0 : Int64)).1 4 t i = S7.1 4 t i := by simp [uI, uL]
      rw [k7, h7_4, e1]
      by_cases t1 : t = 1
      · rw [if_pos (by omega)]
      · rw [if_neg (by omega)]
        show S4.1 4 t i = -1
        rw [d1, if_pos (by omega)]
    rw [k2, s2, r2, q1, if_pos (by omega)]
  · rw [s3, r1, if_pos (by omega)]
  · have k7 : (uL (uL (uI (uI (uI S7 0 0 11 (0 : Int32)) 0 0 12 (0 : Int32)) 0 0 13 (0 : Int32)) 0 0 14 (0 : Int64)) 0 0 15 (0 : Int64)).1 9 k 0 = S7.1 9 k 0 := by simp [uI, uL]
    rw [k7, g2, f1, if_pos (by omega)]
  · rw [s2, r2, q4 2 (by decide), q4 3 (by decide), p4 2 (by decide), p4 3 (by decide), p0]
    exact hJJ j hj
  · rw [s2, r2, q3 10 (by decide), p3 10 (by decide), p5]
    rfl
