/-- a branch in flight, moved down by one -/
theorem rB_dn {S M S' M' : uS} {P Q o k : Nat} (h1 : S'.1 8 = S.1 8) (h2 : S'.2.2 = S.2.2) (m1 : M'.1 11 2 k = M.1 11 2 (k + 1)) (m2 : M'.1 11 3 k = M.1 11 3 (k + 1)) (m3 : ∀ j, j < 4 → M'.2.2 12 0 (4 * k + j) = M.2.2 12 0 (4 * (k + 1) + j)) (m4 : M'.2.2 12 1 k = M.2.2 12 1 (k + 1)) (m5 : M'.2.2 12 2 k = M.2.2 12 2 (k + 1)) (h : rB S M P Q o (k + 1)) : rB S' M' P Q ((o + 1) % 16) k := by
  unfold rB
  have e : ((o + 1) % 16 + k) % 16 = (o + (k + 1)) % 16 := by omega
  rw [e, h1, h2, m1, m2, m3 0 (by decide), m3 1 (by decide), m3 2 (by decide), m3 3 (by decide), m4, m5]
  exact h
set_option maxHeartbeats 4000000 in
theorem R_learn {S M : uS} {P Q h Y E o X W : Nat} {b : Bool} (R : Rel S M P Q h Y (E + 1) o) (hr : M.2.2 12 1 0 = true) (hb : M.2.2 12 2 0 = b) (hX : M.1 11 2 0 = nI X) (hXb : X < 65536) (hW : M.1 11 3 0 = nI W) (hWb : W < 256) : (fX4_retire S).1 = (fX5_learn M P Q E X W b).1 ∧ Rel (fX4_retire S).2 (fX5_learn M P Q E X W b).2 P Q h Y E ((o + 1) % 16) ∧ (fX5_learn M P Q E X W b).2.1 10 0 0 = M.1 10 0 0 := by
  obtain ⟨hZ, hn, hT, hA, hL, hB, hJJ⟩ := R
  obtain ⟨⟨hP, hQ, hh, hY, hN, ho⟩, ⟨h8, h9, h10, h11, h12, h13⟩, ⟨t0, t1, t2⟩, ⟨m1, m2, m3, m4, m7⟩⟩ := hZ
  obtain ⟨n1, n2, n3, n4⟩ := hn
  obtain ⟨x, w, hx, hw, b0, b1, b2, b3, b4, b5, ⟨f5, f6, f7, f8⟩, bs⟩ := id (hB 0 (by omega))
  have ex : x = X := (nI_eq (by omega) (by omega)).mp (b1.symm.trans hX)
  have ew : w = W := (nI_eq (by omega) (by omega)).mp (b3.symm.trans hW)
  subst ex ew
  have ix : fIx S (0 : Int32) = (o + 0) % 16 := n_ix (S := S) h12 ho (show 0 ≤ 16 by omega)
  have hk : fX1_isPresumedTaken S ((o + 0) % 16) = b := by
    rw [r_taken (hB 0 (by omega))]
    unfold fX5_isTaken
    rw [hr, hb]
    rfl
  unfold fX4_retire fX5_learn
  rw [ix, hk]
  generalize (o + 0) % 16 = k at *
  rw [hr, if_neg (show ¬ true = false by decide), hb] at bs
  have hwr : fX5_isWrong M 0 = (if b = M.2.2 12 0 (4 * 0 + 3) then false else true) := by
    unfold fX5_isWrong
    rw [hr, hb, if_neg (show ¬ true = false by decide)]
  have hsw : S.1 8 k 1 = 2 ↔ fX5_isWrong M 0 = true := by
    rw [bs, hwr]
    by_cases c : b = M.2.2 12 0 (4 * 0 + 3)
    · rw [if_pos c, if_pos c]; decide
    · rw [if_neg c, if_neg c]; decide
  generalize fX5_isWrong M 0 = wr at *
  rw [b0, b4, b5]
  -- the count of misses
  obtain ⟨c1, c2, c3⟩ := count_fr k b 4 0 S
  have c4 := fun j => count_at k b 4 0 S j (by decide)
  generalize lX4_count k b 4 0 S = C1 at *
  -- the choice
  obtain ⟨d1, ⟨d2, d3⟩, d4, d5, d6⟩ := r_choice (S := C1) (M := M) (P := P) (k := k) (X := x) (b := b) hP (rT_c (by rw [c1]) rfl hT) (by rw [c1]; exact b4) (by rw [c2]; exact f5) (by rw [c2]; exact f6)
  generalize fX4_learnChoice C1 k b = C2 at *
  generalize fX5_learnC M P x b = M2 at *
  have hA2 : rA C2 M2 := rA_c (by rw [d3 4 (by decide), c1]) (d6 1 (by decide)) hA
  have hM2 : rM C2 M2 := by
    intro t ht
    rw [d2, c3 3 (by decide), d4]
    exact n4 t ht
  -- the outcomes
  obtain ⟨o1, o2, o3⟩ := r_outs (S := C2) (M := M2) (i0 := x % 2 ^ P) (i1 := (x ^^^ w) % 2 ^ Q) (x := nI x) (b := b) (m_lt hP) (m_lt hQ) d1 hA2 hM2
  obtain ⟨u1, u2, u3⟩ := outs_C C2 (nI (x % 2 ^ P)) (nI ((x ^^^ w) % 2 ^ Q)) (nI x) b
  obtain ⟨v1, v2, v3, v4, v5⟩ := outs_M M2 (x % 2 ^ P) ((x ^^^ w) % 2 ^ Q) (nI x) b
  generalize fX4_learnOutcome (fX4_learnOutcome C2 0 0 (nI (x % 2 ^ P)) (nI x) b) 1 1 (nI ((x ^^^ w) % 2 ^ Q)) (nI x) b = C3 at *
  generalize fX5_change (fX5_change (fX5_audit (fX5_audit M2 0 (x % 2 ^ P) (nI x) b) 1 (256 + (x ^^^ w) % 2 ^ Q) (nI x) b) (x % 2 ^ P) b) (256 + (x ^^^ w) % 2 ^ Q) b = M3 at *
  have hC3_1 : ∀ a, a ≠ 2 → a ≠ 4 → C3.1 a = S.1 a := fun a h2 h4 => by rw [u2 a h2 h4, d3 a h2, c1]
  have hM3_11 : ∀ a, a ≠ 0 → a ≠ 1 → M3.1 11 a = M.1 11 a := fun a h0 h1 => by rw [v3 a h0 h1, d6 a h0]
  have hM3_F : M3.2.2 = M.2.2 := by rw [v1, d4]
  -- the loops
  have l1 := r_lloop (S := C3) (M := M3) (fun j hj => rL_c (by rw [hC3_1 9 (by decide) (by decide)]) (by rw [hM3_F]) (fun a ha => by rw [hM3_11 a (by omega) (by omega)]) (hL j hj)) (k3 := k) (X := x) hx (by rw [hC3_1 8 (by decide) (by decide)]; exact b0) b wr (by rw [hC3_1 8 (by decide) (by decide)]; exact hsw)
  obtain ⟨l2, l3⟩ := lloop_C C3 k b
  obtain ⟨l4, l5, l6, l7⟩ := lloop_M M3 (nI x) b wr
  generalize fX4_learnLoop C3 k b = C4 at *
  generalize fX5_learnLoop M3 (nI x) b wr = M4 at *
  -- the reference's misses
  obtain ⟨y1, y2, y3⟩ := miss_fr b 4 0 M4
  have y4 := fun j => miss_at b 4 0 M4 j
  have y5 := miss_M b 4 0 M4
  generalize lX5_miss b 4 0 M4 = M5 at *
  -- the shifts
  have sI := shift_I E 0 (uI (uL M5 10 0 18 ((M.2.1 10 0 18) + (1 : Int64))) 10 0 7 (nI E))
  have sF := shift_F E 0 (uI (uL M5 10 0 18 ((M.2.1 10 0 18) + (1 : Int64))) 10 0 7 (nI E))
  obtain ⟨s1, s2, s3, s4⟩ := shift_fr E 0 (uI (uL M5 10 0 18 ((M.2.1 10 0 18) + (1 : Int64))) 10 0 7 (nI E))
  have s10 := shift_10 E 0 (uI (uL M5 10 0 18 ((M.2.1 10 0 18) + (1 : Int64))) 10 0 7 (nI E))
  generalize lX5_shift E 0 (uI (uL M5 10 0 18 ((M.2.1 10 0 18) + (1 : Int64))) 10 0 7 (nI E)) = M6 at *
  have pF := shiftP_F (4 * E) 0 M6
  obtain ⟨p1, p2, p3⟩ := shiftP_fr (4 * E) 0 M6
  generalize lX5_shiftP (4 * E) 0 M6 = M7 at *
  have eI : ∀ a z, (uI (uL M5 10 0 18 ((M.2.1 10 0 18) + (1 : Int64))) 10 0 7 (nI E)).1 11 a z = M5.1 11 a z := fun a z => by simp [uI, uL]
  -- what the reference's rows hold in the end
  have g11 : ∀ a, a ≠ 2 → a ≠ 3 → M7.1 11 a = M4.1 11 a := fun a ha hb' => by
    rw [p1, s2 a ha hb']
    funext z
    rw [eI, y1]
  have g2 : ∀ a, (a = 2 ∨ a = 3) → ∀ j, M7.1 11 a j = if j < E then M.1 11 a (j + 1) else M.1 11 a j := fun a ha j => by
    rw [p1, sI a j ha, eI, eI, y1, l6 a (by omega), hM3_11 a (by omega) (by omega)]
    by_cases c : j < E
    · rw [if_pos c, if_pos (by omega)]
    · rw [if_neg c, if_neg (by omega)]
  have gF : ∀ a, (a = 1 ∨ a = 2) → ∀ j, j < E → M7.2.2 12 a j = M.2.2 12 a (j + 1) := fun a ha j hj => by
    rw [p3 a (by omega), sF a j ha, if_pos (by omega)]
    show M5.2.2 12 a (j + 1) = _
    rw [y2, l7 a (by omega), hM3_F]
  have gF0 : ∀ j, j < 4 * E → M7.2.2 12 0 j = M.2.2 12 0 (j + 4) := fun j hj => by
    rw [pF j, if_pos (by omega), s3]
    show M5.2.2 12 0 (j + 4) = _
    rw [y2, l7 0 (by omega), hM3_F]
  have gF3 : M7.2.2 12 3 = M4.2.2 12 3 := by
    rw [p3 3 (by decide), s4]
    show M5.2.2 12 3 = _
    rw [y2]
  have g10 : ∀ z, z ≠ 7 → M7.1 10 0 z = M.1 10 0 z := fun z hz => by
    rw [p1, s10]
    have : (uI (uL M5 10 0 18 ((M.2.1 10 0 18) + (1 : Int64))) 10 0 7 (nI E)).1 10 0 z = M5.1 10 0 z := by simp [uI, uL, hz]
    rw [this, y1, l5 10 (by decide), v2 10 (by decide), d5 10 (by decide)]
  have g7 : M7.1 10 0 7 = nI E := by
    rw [p1, s10]
    simp [uI]
  have gL : M7.2.1 = (uL M5 10 0 18 ((M.2.1 10 0 18) + (1 : Int64))).2.1 := by rw [p2, s1]; rfl
  have hC4 : ∀ a, a ≠ 2 → a ≠ 4 → a ≠ 9 → C4.1 a = S.1 a := fun a q2 q4 q9 => by rw [l3 a q9, hC3_1 a q2 q4]
  have hC4L : ∀ a, a ≠ 3 → C4.2.1 a = C1.2.1 a := fun a q => by rw [l2, u3 a q, d2]
  have hC4F : C4.2.2 = S.2.2 := by rw [l2, u1, d2, c2]
  have eO : nI o + (1 : Int32) = nI (o + 1) := nI_1 o
  have eE : nI (E + 1) - (1 : Int32) = nI E := pk_sub (b := 1) (by omega)
  have eA : nI (o + 1) &&& (15 : Int32) = nI ((o + 1) % 16) := pk_andN (k := 4) (by omega) (by decide)
  rw [h12, h13, eO, eA, eE]
  refine ⟨?_, ⟨⟨⟨hP, hQ, hh, hY, by omega, by omega⟩, ?_, ?_, ?_⟩, ?_, rT_c ?_ ?_ o1, rA_c ?_ ?_ o2, fun j hj => rL_c ?_ ?_ ?_ (l1 j hj), fun j hj => rB_dn (S := S) (M := M) ?_ ?_ ?_ ?_ ?_ ?_ ?_ (hB (j + 1) (by omega)), ?_⟩, g10 0 (by decide)⟩
  · show (if S.1 8 k 1 = (2 : Int32) then true else false) = wr
    by_cases c : S.1 8 k 1 = 2
    · rw [if_pos c]; exact (hsw.mp c).symm
    · rw [if_neg c]
      cases q : wr
      · rfl
      · exact absurd (hsw.mpr q) c
  · simp [uI, uL, hC4 0, h8, h9, h10, h11]
  · simp [uI, uL, hC4 1, t0, t1, t2]
  · exact ⟨(g10 1 (by decide)).trans m1, (g10 2 (by decide)).trans m2, (g10 3 (by decide)).trans m3, (g10 4 (by decide)).trans m4, g7⟩
  · refine ⟨?_, ?_, fun j hj => ?_, fun t ht => ?_⟩
    · rw [gL]
      simp [uI, uL, n1]
    · rw [gL]
      have q1 : (uL M5 10 0 18 ((M.2.1 10 0 18) + (1 : Int64))).2.1 10 0 19 = M5.2.1 10 0 19 := by simp [uL]
      rw [q1, y3 10 (by decide), l4, v4 10 (by decide), d4]
      have q2 : (uI (uI (uL C4 0 0 14 ((S.2.1 0 0 14) + (1 : Int64))) 0 0 12 (nI ((o + 1) % 16))) 0 0 13 (nI E)).2.1 0 0 15 = C4.2.1 0 0 15 := by simp [uI, uL]
      rw [q2, hC4L 0 (by decide), c3 0 (by decide)]
      exact n2
    · rw [gL]
      have q1 : (uL M5 10 0 18 ((M.2.1 10 0 18) + (1 : Int64))).2.1 13 0 j = M5.2.1 13 0 j := by simp [uL]
      have q2 : (uI (uI (uL C4 0 0 14 ((S.2.1 0 0 14) + (1 : Int64))) 0 0 12 (nI ((o + 1) % 16))) 0 0 13 (nI E)).2.1 7 0 j = C4.2.1 7 0 j := by simp [uI, uL]
      rw [q1, q2, hC4L 7 (by decide), c4 j, y4 j, if_pos (show 0 ≤ j ∧ j < 0 + 4 by omega), if_pos (show 0 ≤ j ∧ j < 0 + 4 by omega), l4, v5 0 (by decide), d4, l7 0 (by decide), hM3_F, n3 j hj]
      have q3 : S.2.2 8 k (5 + j) = M.2.2 12 0 j := by
        have hj' : j = 0 ∨ j = 1 ∨ j = 2 ∨ j = 3 := by omega
        rcases hj' with rfl | rfl | rfl | rfl
        · exact f5
        · exact f6
        · exact f7
        · exact f8
      rw [q3]
    · rw [gL]
      have q1 : ∀ z, (uL M5 10 0 18 ((M.2.1 10 0 18) + (1 : Int64))).2.1 13 1 z = M5.2.1 13 1 z := fun z => by simp [uL]
      have q2 : ∀ z, (uI (uI (uL C4 0 0 14 ((S.2.1 0 0 14) + (1 : Int64))) 0 0 12 (nI ((o + 1) % 16))) 0 0 13 (nI E)).2.1 3 t z = C4.2.1 3 t z := fun z => by simp [uI, uL]
      rw [q1, q1, q2, q2, y5, l4, l2]
      exact o3 t ht
  · have : (uI (uI (uL C4 0 0 14 ((S.2.1 0 0 14) + (1 : Int64))) 0 0 12 (nI ((o + 1) % 16))) 0 0 13 (nI E)).1 2 = C4.1 2 := by funext u v; simp [uI, uL]
    rw [this, l3 2 (by decide)]
  · rw [g11 0 (by decide) (by decide), l6 0 (by decide)]
  · have : (uI (uI (uL C4 0 0 14 ((S.2.1 0 0 14) + (1 : Int64))) 0 0 12 (nI ((o + 1) % 16))) 0 0 13 (nI E)).1 4 = C4.1 4 := by funext u v; simp [uI, uL]
    rw [this, l3 4 (by decide)]
  · rw [g11 1 (by decide) (by decide), l6 1 (by decide)]
  · funext v; simp [uI, uL]
  · rw [gF3]
  · intro a ha
    rw [g11 a (by omega) (by omega)]
  · have : (uI (uI (uL C4 0 0 14 ((S.2.1 0 0 14) + (1 : Int64))) 0 0 12 (nI ((o + 1) % 16))) 0 0 13 (nI E)).1 8 = C4.1 8 := by funext u v; simp [uI, uL]
    rw [this, hC4 8 (by decide) (by decide) (by decide)]
  · exact hC4F
  · rw [g2 2 (.inl rfl), if_pos hj]
  · rw [g2 3 (.inr rfl), if_pos hj]
  · intro i hi
    rw [gF0 _ (by omega)]
    rw [show 4 * j + i + 4 = 4 * (j + 1) + i by omega]
  · exact gF 1 (.inl rfl) j hj
  · exact gF 2 (.inr rfl) j hj
  · intro j hj
    rw [g2 2 (.inl rfl), g2 3 (.inr rfl)]
    by_cases c : j < E
    · rw [if_pos c, if_pos c]; exact hJJ (j + 1) (by omega)
    · rw [if_neg c, if_neg c]; exact hJJ j hj
