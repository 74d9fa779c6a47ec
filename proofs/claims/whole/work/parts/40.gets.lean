theorem A_place {S M : uS} {P Q h Y N o : Nat} (R : Rel S M P Q h Y N o) (x1 : Int32) : Agree cd1 (xX4_place S x1) S (fX5_place M N x1).2 (.int (fX5_place M N x1).1) := by
  have RE : RelE S M := ⟨P, Q, h, Y, N, o, R⟩
  unfold xX4_place fX5_place fX5_fail
  rw [fly_eq R]
  by_cases c1 : fX5_isFlying M x1 = false
  · rw [if_pos c1, c1, if_neg (show ¬ false = true by decide)]
    exact Ag_no rfl (by decide) (rE_t _ _ RE)
  · rw [if_neg c1, if_pos ((Bool.not_eq_false _).mp c1)]
    obtain ⟨e1, e2, e3, ⟨x, w, hx, hw, b0, b1, -⟩⟩ := fly_at R c1
    rw [e3, b0]
    exact Ag_ok (by rw [← b1]) rfl (rE_0 _ RE)
theorem A_state {S M : uS} {P Q h Y N o : Nat} (R : Rel S M P Q h Y N o) (x1 : Int32) : Agree cd1 (xX4_state S x1) S (fX5_state M N x1).2 (.int (fX5_state M N x1).1) := by
  have RE : RelE S M := ⟨P, Q, h, Y, N, o, R⟩
  unfold xX4_state fX5_state fX5_fail
  rw [fly_eq R]
  by_cases c1 : fX5_isFlying M x1 = false
  · rw [if_pos c1, c1, if_neg (show ¬ false = true by decide)]
    exact Ag_no rfl (by decide) (rE_t _ _ RE)
  · rw [if_neg c1, if_pos ((Bool.not_eq_false _).mp c1)]
    obtain ⟨e1, e2, e3, e4⟩ := fly_at R c1
    rw [e3, rB_st e4]
    exact Ag_ok rfl rfl (rE_0 _ RE)
theorem A_predicted {S M : uS} {P Q h Y N o : Nat} (R : Rel S M P Q h Y N o) (x1 x2 : Int32) : Agree cd1 (xX4_predicted S x1 x2) S (fX5_predicted M N x1 x2).2 (.int (bI (fX5_predicted M N x1 x2).1)) := by
  have RE : RelE S M := ⟨P, Q, h, Y, N, o, R⟩
  unfold xX4_predicted fX5_predicted fX5_failed
  rw [fly_eq R, kind_eq M]
  by_cases c1 : fX5_isFlying M x1 = false
  · rw [if_pos c1, c1, if_neg (show ¬ false = true by decide)]
    exact Ag_no rfl (by decide) (rE_t _ _ RE)
  · rw [if_neg c1, if_pos ((Bool.not_eq_false _).mp c1)]
    by_cases c2 : fX5_isKind M x2 = false
    · rw [if_pos c2, c2, if_neg (show ¬ false = true by decide)]
      exact Ag_no rfl (by decide) (rE_t _ _ RE)
    · rw [if_neg c2, if_pos ((Bool.not_eq_false _).mp c2)]
      obtain ⟨e1, e2, e3, ⟨x, w, -, -, -, -, -, -, -, -, ⟨f5, f6, f7, f8⟩, -⟩⟩ := fly_at R c1
      obtain ⟨k1, k2⟩ := m_kind c2
      have e : fX1_saidTaken S (fIx S x1) x2 = M.2.2 12 0 (4 * x1.toNatClampNeg + x2.toNatClampNeg) := by
        have q := said_at S ((o + x1.toNatClampNeg) % 16) x2.toNatClampNeg k2
        rw [← k1] at q
        rw [e3, q]
        generalize x2.toNatClampNeg = j at *
        have hj : j = 0 ∨ j = 1 ∨ j = 2 ∨ j = 3 := by omega
        rcases hj with rfl | rfl | rfl | rfl
        · exact f5
        · exact f6
        · exact f7
        · exact f8
      rw [e]
      exact Ag_ok rfl rfl (rE_0 _ RE)
theorem A_counter {S M : uS} {P Q h Y N o : Nat} (R : Rel S M P Q h Y N o) (x1 x2 : Int32) : Agree cd1 (xX4_counter S x1 x2) S (fX5_counter M P Q x1 x2).2 (.int (fX5_counter M P Q x1 x2).1) := by
  have RE : RelE S M := ⟨P, Q, h, Y, N, o, R⟩
  obtain ⟨⟨⟨hP, hQ, -⟩, -, ⟨t0, t1, t2⟩, ⟨m1, m2, -⟩⟩, -, hT, -⟩ := R
  unfold xX4_counter fX5_counter fX5_fail
  have hz : ∀ x2 : Int32, ¬ x2 < (0 : Int32) → (0 : Int32) ≤ x2 := fun x2 hx => i_nlt.mp hx
  by_cases c2 : x2 < (0 : Int32)
  · rw [if_pos c2, if_pos c2]
    by_cases c1 : x1 < (0 : Int32)
    · rw [if_pos c1]; exact Ag_no rfl (by decide) (rE_t _ _ RE)
    · rw [if_neg c1]
      by_cases c3 : x1 ≤ (2 : Int32)
      · rw [if_pos c3]; exact Ag_no rfl (by decide) (rE_t _ _ RE)
      · rw [if_neg c3]; exact Ag_no rfl (by decide) (rE_t _ _ RE)
  · rw [if_neg c2, if_neg c2]
    by_cases c1 : x1 < (0 : Int32)
    · have e : fX5_sizeOf M x1 = 0 := by unfold fX5_sizeOf; rw [if_pos c1]
      rw [if_pos c1, e, if_pos (hz _ c2)]; exact Ag_no rfl (by decide) (rE_t _ _ RE)
    · rw [if_neg c1]
      by_cases c3 : x1 ≤ (2 : Int32)
      · rw [if_pos c3]
        have n1 := i_nI c1
        have l1 : x1.toNatClampNeg ≤ 2 := i_le (n := 2) c1 c3 (by decide)
        have n2 := i_nI c2
        have es := m_sz m1 hP m2 hQ x1.toNatClampNeg (by omega)
        rw [← n1] at es
        have ft : fTab x1 = x1.toNatClampNeg := by
          rw [n1, nI_clamp (by omega)]
          generalize x1.toNatClampNeg = t at *
          have h3 : t = 0 ∨ t = 1 ∨ t = 2 := by omega
          rcases h3 with rfl | rfl | rfl <;> decide
        have sz : S.1 1 (fTab x1) 1 = nI (2 ^ (if x1.toNatClampNeg = 1 then Q else P)) := by
          rw [ft]
          generalize x1.toNatClampNeg = t at *
          have h3 : t = 0 ∨ t = 1 ∨ t = 2 := by omega
          rcases h3 with rfl | rfl | rfl
          · exact t0
          · exact t1
          · exact t2
        have hb : 2 ^ (if x1.toNatClampNeg = 1 then Q else P) ≤ 256 := by split <;> exact m_pw _ (by omega)
        rw [es, sz, ft]
        generalize 2 ^ (if x1.toNatClampNeg = 1 then Q else P) = z at *
        by_cases c4 : x2 < nI z
        · rw [if_pos c4, if_neg (fun q => i_nlt.mpr q c4)]
          have l2 : x2.toNatClampNeg < z := i_lt c2 c4 (by omega)
          have e5 := n_255 (j := x2.toNatClampNeg) (by omega)
          rw [← n2] at e5
          rw [e5, (hT x1.toNatClampNeg (by omega) x2.toNatClampNeg (by omega)).1]
          exact Ag_ok rfl rfl (rE_0 _ RE)
        · rw [if_neg c4, if_pos (i_nlt.mp c4)]; exact Ag_no rfl (by decide) (rE_t _ _ RE)
      · have e : fX5_sizeOf M x1 = 0 := by unfold fX5_sizeOf; rw [if_neg c1, if_neg c3]
        rw [if_neg c3, e, if_pos (hz _ c2)]; exact Ag_no rfl (by decide) (rE_t _ _ RE)
theorem r_presN {S M : uS} {P Q h Y N o K : Nat} (R : Rel S M P Q h Y N o) (hK : S.1 9 K 0 = M.1 11 4 K) (hC : S.1 9 K 1 = M.1 11 5 K) : lX4_presumed K N 0 (S.1 9 K 1) S = lX5_presumed K N 0 (M.1 11 5 K) M := by
  obtain ⟨⟨⟨-, -, -, -, hN, ho⟩, ⟨-, -, -, -, h12, -⟩, -⟩, -, -, -, -, hB, -⟩ := R
  rw [hC]
  exact r_pres hK (fun j hj => r_brP h12 ho (by omega) (hB j hj)) N 0 _ (by omega)
theorem A_loop {S M : uS} {P Q h Y N o : Nat} (R : Rel S M P Q h Y N o) (x1 x2 : Int32) : Agree cd1 (xX4_loop S N x1 x2) S (fX5_loop M N x1 x2).2 (.int (fX5_loop M N x1 x2).1) := by
  have RE : RelE S M := ⟨P, Q, h, Y, N, o, R⟩
  unfold xX4_loop fX5_loop fX5_fail
  by_cases c1 : x1 < (0 : Int32)
  · rw [if_pos c1, if_pos c1]; exact Ag_no rfl (by decide) (rE_t _ _ RE)
  rw [if_neg c1, if_neg c1]
  by_cases c2 : (8 : Int32) ≤ x1
  · rw [if_pos c2, if_pos c2]; exact Ag_no rfl (by decide) (rE_t _ _ RE)
  rw [if_neg c2, if_neg c2]
  by_cases c3 : x2 < (0 : Int32)
  · rw [if_pos c3, if_pos c3]; exact Ag_no rfl (by decide) (rE_t _ _ RE)
  rw [if_neg c3, if_neg c3]
  by_cases c4 : x2 ≤ (4 : Int32)
  · rw [if_pos c4, if_neg (fun z => i_nle.mpr z c4)]
    have l1 : x1.toNatClampNeg < 8 := i_ltn (n := 8) c1 c2 (by decide)
    have hL := R.2.2.2.2.1 x1.toNatClampNeg l1
    unfold fX5_ofLoop
    rw [r_free hL]
    rcases hL with ⟨q1, q2⟩ | ⟨q1, -, -, q4, q5, q6, q7⟩
    · rw [q1, if_neg (show ¬ (!false) = false by decide), if_pos rfl]
      exact Ag_ok rfl rfl (rE_0 _ RE)
    · rw [q1, if_pos (show (!true) = false from rfl), if_neg (show ¬ true = false by decide)]
      by_cases d0 : x2 = (0 : Int32)
      · rw [if_pos d0, if_pos d0, q4]; exact Ag_ok rfl rfl (rE_0 _ RE)
      rw [if_neg d0, if_neg d0]
      by_cases d1 : x2 = (1 : Int32)
      · rw [if_pos d1, if_pos d1, q5]; exact Ag_ok rfl rfl (rE_0 _ RE)
      rw [if_neg d1, if_neg d1]
      by_cases d2 : x2 = (2 : Int32)
      · rw [if_pos d2, if_pos d2, q6]; exact Ag_ok rfl rfl (rE_0 _ RE)
      rw [if_neg d2, if_neg d2]
      by_cases d3 : x2 = (3 : Int32)
      · rw [if_pos d3, if_pos d3, q7]; exact Ag_ok rfl rfl (rE_0 _ RE)
      rw [if_neg d3, if_neg d3, r_presN R q4 q5]
      exact Ag_ok rfl rfl (rE_0 _ RE)
  · rw [if_neg c4, if_pos (i_nle.mp c4)]; exact Ag_no rfl (by decide) (rE_t _ _ RE)
theorem A_misses {S M : uS} {P Q h Y N o : Nat} (R : Rel S M P Q h Y N o) (x1 : Int32) : Agree cd1 (xX4_misses S x1) S (fX5_misses M x1).2 (.long (fX5_misses M x1).1) := by
  have RE : RelE S M := ⟨P, Q, h, Y, N, o, R⟩
  unfold xX4_misses fX5_misses fX5_fail
  rw [kind_eq M]
  by_cases c2 : fX5_isKind M x1 = false
  · rw [if_pos c2, c2, if_neg (show ¬ false = true by decide)]
    exact Ag_no rfl (by decide) (rE_t _ _ RE)
  · rw [if_neg c2, if_pos ((Bool.not_eq_false _).mp c2)]
    obtain ⟨k1, k2⟩ := m_kind c2
    rw [R.2.1.2.2.1 _ k2]
    exact Ag_ok rfl rfl (rE_0 _ RE)
theorem A_meetings {S M : uS} {P Q h Y N o : Nat} (R : Rel S M P Q h Y N o) (x1 : Int32) (b1 : Bool) : Agree cd1 (xX4_meetings S x1 b1) S (fX5_meetings M x1 b1).2 (.long (fX5_meetings M x1 b1).1) := by
  have RE : RelE S M := ⟨P, Q, h, Y, N, o, R⟩
  have n4 := R.2.1.2.2.2
  unfold xX4_meetings fX5_meetings fX5_fail
  by_cases c1 : x1 = (0 : Int32)
  · rw [if_pos c1, if_pos c1, (n4 0 (by decide)).1, (n4 0 (by decide)).2]
    cases b1 <;> exact Ag_ok rfl rfl (rE_0 _ RE)
  rw [if_neg c1, if_neg c1]
  by_cases c2 : x1 = (1 : Int32)
  · rw [if_pos c2, if_pos c2, (n4 1 (by decide)).1, (n4 1 (by decide)).2]
    cases b1 <;> exact Ag_ok rfl rfl (rE_0 _ RE)
  rw [if_neg c2, if_neg c2]
  exact Ag_no rfl (by decide) (rE_t _ _ RE)
theorem mix_0 {S M : uS} (hT : rT S M) : ∀ n i : Nat, i + n ≤ 256 → ∀ a, lX2_mix 0 n i a S = lX5_dg0 n i a M := by
  intro n
  induction n with
  | zero => intro i _ a; rfl
  | succ n ih =>
    intro i h a
    rw [lX2_mix, lX5_dg0, (hT 0 (by decide) i (by omega)).1]
    exact ih _ (by omega) _
theorem mix_1 {S M : uS} (hT : rT S M) : ∀ n i : Nat, i + n ≤ 256 → ∀ a, lX2_mix 1 n i a S = lX5_dg1 n i a M := by
  intro n
  induction n with
  | zero => intro i _ a; rfl
  | succ n ih =>
    intro i h a
    rw [lX2_mix, lX5_dg1, (hT 1 (by decide) i (by omega)).1]
    exact ih _ (by omega) _
theorem mix_2 {S M : uS} (hT : rT S M) : ∀ n i : Nat, i + n ≤ 256 → ∀ a, lX2_mix 2 n i a S = lX5_dg2 n i a M := by
  intro n
  induction n with
  | zero => intro i _ a; rfl
  | succ n ih =>
    intro i h a
    rw [lX2_mix, lX5_dg2, (hT 2 (by decide) i (by omega)).1]
    exact ih _ (by omega) _
theorem mixL {S M : uS} {k : Nat} (hL : rL S M k) (N : Nat) (a : Int64) : fX3_mixInto S k a = ((((((((a * (31 : Int64)) + (((fX5_ofLoop M N k (0 : Int32))).toInt64)) * (31 : Int64)) + (((fX5_ofLoop M N k (1 : Int32))).toInt64)) * (31 : Int64)) + (((fX5_ofLoop M N k (2 : Int32))).toInt64)) * (31 : Int64)) + (((fX5_ofLoop M N k (3 : Int32))).toInt64)) := by
  unfold fX3_mixInto fX5_ofLoop
  rw [r_free hL]
  have e : (-1 : Int32).toInt64 = (-1 : Int64) := by decide
  rcases hL with ⟨q1, q2⟩ | ⟨q1, -, -, q4, q5, q6, q7⟩
  · rw [q1]
    simp [e]
  · rw [q1, q4, q5, q6, q7]
    simp
theorem dgL {S M : uS} (hL : ∀ k, k < 8 → rL S M k) (N : Nat) : ∀ n i : Nat, i + n ≤ 8 → ∀ a, lX4_dgL n i a S = lX5_dgL N n i a M := by
  intro n
  induction n with
  | zero => intro i _ a; rfl
  | succ n ih =>
    intro i h a
    rw [lX4_dgL, lX5_dgL, mixL (hL i (by omega)) N]
    exact ih _ (by omega) _
theorem dgB {S M : uS} {P Q o N : Nat} (h12 : S.1 0 0 12 = nI o) (ho : o < 16) (hN : N ≤ 16) (hB : ∀ k, k < N → rB S M P Q o k) : ∀ n i : Nat, i + n ≤ N → ∀ a, lX4_dgB n i a S = lX5_dgB n i a M := by
  intro n
  induction n with
  | zero => intro i _ a; rfl
  | succ n ih =>
    intro i h a
    have e4 := hB i (by omega)
    rw [lX4_dgB, lX5_dgB, n_ix h12 ho (by omega), rB_st e4]
    obtain ⟨x, w, hx, hw, b0, b1, -⟩ := e4
    rw [b0, b1]
    exact ih _ (by omega) _
theorem A_digest {S M : uS} {P Q h Y N o : Nat} (R : Rel S M P Q h Y N o) : fX4_digest S (2 ^ P) (2 ^ Q) (2 ^ P) N = (fX5_digest M P Q N).1 := by
  obtain ⟨⟨⟨hP, hQ, hh, hY, hN, ho⟩, ⟨h8, h9, h10, h11, h12, h13⟩, -, ⟨m1, m2, m3, m4, m7⟩⟩, ⟨n1, n2, n3, n4⟩, hT, hA, hL, hB, -⟩ := R
  have pP := m_pw P (by omega)
  have pQ := m_pw Q (by omega)
  unfold fX4_digest fX5_digest
  rw [dgB h12 ho hN hB N 0 (by omega), dgL hL N 8 0 (by decide), mix_2 hT _ 0 (by omega), mix_1 hT _ 0 (by omega), mix_0 hT _ 0 (by omega), h8, h9, h10, h11, m1, m2, m3, m4, n1, n2, (n4 0 (by decide)).1, (n4 1 (by decide)).1]
  have e : (71 : Int64) * 31 = 2201 := by decide
  rw [e]
