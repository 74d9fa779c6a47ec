/-! EVERY CALL IS ALIKE -/
def RelE (S M : uS) : Prop := ∃ P Q h Y N o, Rel S M P Q h Y N o
def Agree (cd : String → Int32) (r : kR) (S M' : uS) (v : Value) : Prop := Sum.elim (fun q : Option Value × uS => q.1 = some v ∧ M'.1 10 0 0 = 0 ∧ RelE q.2 M') (fun E => M'.1 10 0 0 = cd E ∧ cd E ≠ 0 ∧ RelE S M') r
theorem Ag_ok {cd : String → Int32} {S S' M' : uS} {v w : Value} (h1 : w = v) (h2 : M'.1 10 0 0 = 0) (h3 : RelE S' M') : Agree cd (.inl (some w, S')) S M' v := ⟨congrArg some h1, h2, h3⟩
theorem Ag_no {cd : String → Int32} {S M' : uS} {v : Value} {E : String} (h1 : M'.1 10 0 0 = cd E) (h2 : cd E ≠ 0) (h3 : RelE S M') : Agree cd (.inr E) S M' v := ⟨h1, h2, h3⟩
def cd1 (E : String) : Int32 := 1
def cdA (E : String) : Int32 := if E = "java/lang/IllegalStateException" then 2 else 1
theorem i_65 {x : Int32} : x ≤ 65535 ↔ x < 65536 := by
  rw [Int32.le_iff_toInt_le, Int32.lt_iff_toInt_lt]
  have h1 : (65535 : Int32).toInt = 65535 := by decide
  have h2 : (65536 : Int32).toInt = 65536 := by decide
  omega
theorem i_nle {x y : Int32} : ¬ x ≤ y ↔ y < x := by
  rw [Int32.le_iff_toInt_le, Int32.lt_iff_toInt_lt]
  omega
theorem i_nlt {x y : Int32} : ¬ x < y ↔ y ≤ x := by
  rw [Int32.le_iff_toInt_le, Int32.lt_iff_toInt_lt]
  omega
theorem i_0 {x : Int32} (h : (2 : Int32) ≤ x) : ¬ x < 0 := by
  rw [Int32.lt_iff_toInt_lt]
  rw [Int32.le_iff_toInt_le] at h
  have h1 : (2 : Int32).toInt = 2 := by decide
  have h2 : (0 : Int32).toInt = 0 := by decide
  omega
theorem rE_t {S M : uS} (v w : Int32) (h : RelE S M) : RelE S (uI (uI M 10 0 0 v) 10 0 0 w) := h
theorem rE_0 {S M : uS} (v : Int32) (h : RelE S M) : RelE S (uI M 10 0 0 v) := h
theorem A_setSizes {S M : uS} {P Q h Y N o : Nat} (R : Rel S M P Q h Y N o) (x1 x2 x3 : Int32) : Agree cd1 (xX4_setSizes S x1 x2 x3) S (fX5_setSizes M x1 x2 x3).2 (.int (bI (fX5_setSizes M x1 x2 x3).1)) := by
  have RE : RelE S M := ⟨P, Q, h, Y, N, o, R⟩
  unfold xX4_setSizes fX5_setSizes fX4_isTableBits fX5_failed
  by_cases c1 : x1 < (2 : Int32)
  · rw [if_pos c1, if_pos rfl, if_pos c1]
    exact Ag_no rfl (by decide) (rE_t _ _ RE)
  rw [if_neg c1, if_neg c1]
  by_cases c2 : (8 : Int32) < x1
  · rw [if_pos c2, if_pos rfl, if_pos c2]
    exact Ag_no rfl (by decide) (rE_t _ _ RE)
  rw [if_neg c2, if_neg (show ¬ true = false by decide), if_neg c2]
  by_cases c3 : x2 < (2 : Int32)
  · rw [if_pos c3, if_pos rfl, if_pos c3]
    exact Ag_no rfl (by decide) (rE_t _ _ RE)
  rw [if_neg c3, if_neg c3]
  by_cases c4 : (8 : Int32) < x2
  · rw [if_pos c4, if_pos rfl, if_pos c4]
    exact Ag_no rfl (by decide) (rE_t _ _ RE)
  rw [if_neg c4, if_neg (show ¬ true = false by decide), if_neg c4]
  by_cases c5 : x3 < (0 : Int32)
  · rw [if_pos c5, if_pos c5]
    exact Ag_no rfl (by decide) (rE_t _ _ RE)
  rw [if_neg c5, if_neg c5]
  by_cases c6 : x3 ≤ x2
  · rw [if_pos c6, if_pos c6]
    have n1 := i_nI (i_0 (i_nlt.mp c1))
    have n2 := i_nI (i_0 (i_nlt.mp c3))
    have n3 := i_nI c5
    have l1 : x1.toNatClampNeg ≤ 8 := i_le (n := 8) (i_0 (i_nlt.mp c1)) (i_nlt.mp c2) (by decide)
    have l2 : x2.toNatClampNeg ≤ 8 := i_le (n := 8) (i_0 (i_nlt.mp c3)) (i_nlt.mp c4) (by decide)
    have l3 : x3.toNatClampNeg ≤ x2.toNatClampNeg := i_le (n := x2.toNatClampNeg) c5 (by rw [← n2]; exact c6) (by omega)
    obtain ⟨⟨-, ⟨h8, h9, h10, -⟩, -, ⟨m1, m2, m3, -⟩⟩, -, -, -, -, -, hJ⟩ := R
    have q := R_start S (uI M 10 0 0 (0 : Int32)) l1 l2 (Nat.le_trans l3 l2) hJ
    rw [← n1, ← n2, ← n3] at q
    have qE : RelE (fX4_startAnew S x1 x2 x3) (fX5_begin (uI M 10 0 0 (0 : Int32)) x1 x2 x3) := ⟨_, _, _, _, _, _, q.1⟩
    have q0 : (fX5_begin (uI M 10 0 0 (0 : Int32)) x1 x2 x3).1 10 0 0 = 0 := q.2.trans rfl
    rw [h8, h9, h10, m1, m2, m3]
    by_cases d1 : x1 = nI P
    · rw [if_pos d1, if_pos d1.symm]
      by_cases d2 : x2 = nI Q
      · rw [if_pos d2, if_pos d2.symm]
        by_cases d3 : x3 = nI h
        · rw [if_pos d3, if_pos d3.symm]
          exact Ag_ok rfl q0 qE
        · rw [if_neg d3, if_neg (fun z => d3 z.symm)]
          exact Ag_ok rfl q0 qE
      · rw [if_neg d2, if_neg (fun z => d2 z.symm)]
        exact Ag_ok rfl q0 qE
    · rw [if_neg d1, if_neg (fun z => d1 z.symm)]
      exact Ag_ok rfl q0 qE
  · rw [if_neg c6, if_neg c6]
    exact Ag_no rfl (by decide) (rE_t _ _ RE)
theorem add_0 (M : uS) (P Q h Y N X : Nat) : (fX5_add M P Q h Y N X).2.1 10 0 0 = M.1 10 0 0 ∧ (fX5_add M P Q h Y N X).2.1 11 2 N = nI X ∧ (fX5_add M P Q h Y N X).2.1 11 3 N = nI Y ∧ (fX5_add M P Q h Y N X).2.2.2 12 1 N = false := by
  unfold fX5_add
  repeat' split
  all_goals exact ⟨rfl, by simp [uI, uF], by simp [uI, uF], by simp [uI, uF]⟩
theorem settle_0 (M : uS) (N h J W : Nat) (b : Bool) : (fX5_settle M N h J W b).2.1 10 0 0 = M.1 10 0 0 ∧ (fX5_settle M N h J W b).2.1 11 = M.1 11 ∧ (fX5_settle M N h J W b).2.2.2 12 2 J = b ∧ (fX5_settle M N h J W b).2.2.2 12 1 J = true := by
  unfold fX5_settle
  split
  · exact ⟨rfl, rfl, by simp [uF], by simp [uF]⟩
  · exact ⟨rfl, by funext u v; simp [uI, uL, uF], by simp [uI, uL, uF], by simp [uI, uL, uF]⟩
theorem A_predict {S M : uS} {P Q h Y N o : Nat} (R : Rel S M P Q h Y N o) (x1 : Int32) : Agree cdA (xX4_predict S N x1) S (fX5_predict M P Q h Y N x1).2 (.int (bI (fX5_predict M P Q h Y N x1).1)) := by
  have RE : RelE S M := ⟨P, Q, h, Y, N, o, R⟩
  have h13 : S.1 0 0 13 = nI N := R.1.2.1.2.2.2.2.2
  have hN : N ≤ 16 := R.1.1.2.2.2.2.1
  unfold xX4_predict fX5_predict okPlace fX5_failed
  by_cases c1 : x1 < (0 : Int32)
  · rw [if_pos c1, if_neg (show ¬ false = true by decide), if_pos c1]
    exact Ag_no rfl (by decide) (rE_t _ _ RE)
  rw [if_neg c1, if_neg c1]
  by_cases c2 : x1 ≤ (65535 : Int32)
  · rw [if_pos c2, if_pos rfl, if_pos (i_65.mp c2), h13]
    by_cases c3 : nI N < (16 : Int32)
    · rw [if_pos c3, if_neg (fun z => i_nlt.mpr z c3)]
      have l1 : x1.toNatClampNeg < 65536 := i_lt (n := 65536) c1 (i_65.mp c2) (by decide)
      have l2 : N < 16 := (nI_ltI (by omega) (by decide)).mp c3
      obtain ⟨v, a1, a2, a3⟩ := R_add ((Rel_t S M P Q h Y N o 0).mpr R) l2 l1
      rw [← i_nI c1] at a1 a3
      exact Ag_ok (by rw [a1, a2]) ((add_0 _ _ _ _ _ _ _).1.trans rfl) ⟨_, _, _, _, _, _, a3⟩
    · rw [if_neg c3, if_pos (i_nlt.mp c3)]
      exact Ag_no rfl (by decide) (rE_t _ _ RE)
  · rw [if_neg c2, if_neg (show ¬ false = true by decide), if_neg (fun z => c2 (i_65.mpr z))]
    exact Ag_no rfl (by decide) (rE_t _ _ RE)
theorem fly_eq {S M : uS} {P Q h Y N o : Nat} (R : Rel S M P Q h Y N o) (x : Int32) : okFly S x = fX5_isFlying M x := by
  have h13 : S.1 0 0 13 = nI N := R.1.2.1.2.2.2.2.2
  have m7 : M.1 10 0 7 = nI N := R.1.2.2.2.2.2.2.2
  unfold okFly fX5_isFlying
  rw [h13, m7]
  by_cases c1 : x < (0 : Int32)
  · rw [if_pos c1, if_pos c1]
  · rw [if_neg c1, if_neg c1]
    by_cases c2 : x < nI N
    · rw [if_pos c2, if_neg (fun z => i_nlt.mpr z c2)]
    · rw [if_neg c2, if_pos (i_nlt.mp c2)]
theorem kind_eq (M : uS) (x : Int32) : okKind x = fX5_isKind M x := by
  unfold okKind fX5_isKind
  by_cases c1 : x < (0 : Int32)
  · rw [if_pos c1, if_pos c1]
  · rw [if_neg c1, if_neg c1]
    by_cases c2 : x < (4 : Int32)
    · rw [if_pos c2, if_neg (fun z => i_nlt.mpr z c2)]
    · rw [if_neg c2, if_pos (i_nlt.mp c2)]
/-- the branch at an index in flight -/
theorem fly_at {S M : uS} {P Q h Y N o : Nat} (R : Rel S M P Q h Y N o) {x : Int32} (c : ¬ fX5_isFlying M x = false) : x = nI x.toNatClampNeg ∧ x.toNatClampNeg < N ∧ fIx S x = (o + x.toNatClampNeg) % 16 ∧ rB S M P Q o x.toNatClampNeg := by
  obtain ⟨⟨⟨-, -, -, -, hN, ho⟩, ⟨-, -, -, -, h12, -⟩, -, ⟨-, -, -, -, m7⟩⟩, -, -, -, -, hB, -⟩ := R
  obtain ⟨e1, e2⟩ := m_fl m7 hN c
  refine ⟨e1, e2, ?_, hB _ e2⟩
  have := n_ix (S := S) (k := x.toNatClampNeg) h12 ho (by omega)
  rw [← e1] at this
  exact this
theorem rB_st {S M : uS} {P Q o k : Nat} (h : rB S M P Q o k) : S.1 8 ((o + k) % 16) 1 = fX5_stateOf M k := by
  obtain ⟨x, w, -, -, -, -, -, -, -, -, -, h1⟩ := h
  unfold fX5_stateOf fX5_isWrong
  rw [h1]
  cases M.2.2 12 1 k <;> cases M.2.2 12 2 k <;> cases M.2.2 12 0 (4 * k + 3) <;> decide
theorem st_0 {M : uS} {k : Nat} : fX5_stateOf M k = 0 ↔ M.2.2 12 1 k = false := by
  unfold fX5_stateOf fX5_isWrong
  cases M.2.2 12 1 k <;> cases M.2.2 12 2 k <;> cases M.2.2 12 0 (4 * k + 3) <;> decide
theorem A_resolve {S M : uS} {P Q h Y N o : Nat} (R : Rel S M P Q h Y N o) (Wf : Nat → Nat) (hW : ∀ j, j < 16 → M.1 11 3 j = nI (Wf j) ∧ Wf j < 256) (x1 : Int32) (b1 : Bool) : Agree cdA (xX4_resolve S x1 b1) S (fX5_resolve M N h Wf x1 b1).2 (.int (fX5_resolve M N h Wf x1 b1).1) := by
  have RE : RelE S M := ⟨P, Q, h, Y, N, o, R⟩
  unfold xX4_resolve fX5_resolve fX5_fail
  rw [fly_eq R]
  by_cases c1 : fX5_isFlying M x1 = false
  · rw [if_pos c1, c1, if_neg (show ¬ false = true by decide)]
    exact Ag_no rfl (by decide) (rE_t _ _ RE)
  · rw [if_neg c1, if_pos ((Bool.not_eq_false _).mp c1)]
    obtain ⟨e1, e2, e3, e4⟩ := fly_at R c1
    rw [e3, rB_st e4]
    have hN : N ≤ 16 := R.1.1.2.2.2.2.1
    by_cases c2 : M.2.2 12 1 x1.toNatClampNeg = false
    · rw [if_pos (st_0.mpr c2), if_pos c2]
      obtain ⟨w1, w2⟩ := hW x1.toNatClampNeg (by omega)
      obtain ⟨a1, Y', N', -, a3, -⟩ := R_settle (b := b1) ((Rel_t S M P Q h Y N o 0).mpr R) e2 c2 w1 w2
      rw [← e1] at a1 a3
      exact Ag_ok (by rw [a1]) ((settle_0 _ _ _ _ _ _).1.trans rfl) ⟨_, _, _, _, _, _, a3⟩
    · rw [if_neg (fun z => c2 (st_0.mp z)), if_neg c2]
      exact Ag_no rfl (by decide) (rE_t _ _ RE)
theorem A_commit {S M : uS} {P Q h Y N o : Nat} (R : Rel S M P Q h Y N o) (Xf Wf : Nat → Nat) (hX : ∀ j, j < 16 → M.1 11 2 j = nI (Xf j) ∧ Xf j < 65536) (hW : ∀ j, j < 16 → M.1 11 3 j = nI (Wf j) ∧ Wf j < 256) : Agree cd1 (xX4_commit S) S (fX5_commit M P Q N Xf Wf).2 (.int (bI (fX5_commit M P Q N Xf Wf).1)) := by
  have RE : RelE S M := ⟨P, Q, h, Y, N, o, R⟩
  have h13 : S.1 0 0 13 = nI N := R.1.2.1.2.2.2.2.2
  have hN : N ≤ 16 := R.1.1.2.2.2.2.1
  unfold xX4_commit fX5_commit fX5_failed
  rw [h13]
  by_cases c1 : N = 0
  · subst c1
    rw [if_pos (show nI 0 = (0 : Int32) from rfl), if_pos (show nI 0 ≤ (0 : Int32) by decide)]
    exact Ag_no rfl (by decide) (rE_t _ _ RE)
  · have d1 : ¬ nI N = (0 : Int32) := fun z => c1 ((nI_eq (b := 0) (by omega) (by decide)).mp z)
    have d2 : ¬ nI N ≤ (0 : Int32) := fun z => c1 (m_zero (by omega) z)
    have e3 : fIx S (0 : Int32) = (o + 0) % 16 := n_ix (S := S) (k := 0) R.1.2.1.2.2.2.2.1 R.1.1.2.2.2.2.2 (by decide)
    have e4 := R.2.2.2.2.2.1 0 (by omega)
    rw [if_neg d1, if_neg d2, e3, rB_st e4]
    by_cases c2 : M.2.2 12 1 0 = false
    · rw [if_pos (st_0.mpr c2), if_pos c2]
      exact Ag_no rfl (by decide) (rE_t _ _ RE)
    · rw [if_neg (fun z => c2 (st_0.mp z)), if_neg c2]
      obtain ⟨E, rfl⟩ : ∃ E, N = E + 1 := ⟨N - 1, by omega⟩
      obtain ⟨x1, x2⟩ := hX 0 (by decide)
      obtain ⟨w1, w2⟩ := hW 0 (by decide)
      obtain ⟨a1, a2, a3⟩ := R_learn (b := M.2.2 12 2 0) ((Rel_t S M P Q h Y (E + 1) o 0).mpr R) ((Bool.not_eq_false _).mp c2) rfl x1 x2 w1 w2
      exact Ag_ok (by rw [a1]; rfl) (a3.trans rfl) ⟨_, _, _, _, _, _, a2⟩
theorem A_train {S M : uS} {P Q h Y N o : Nat} (R : Rel S M P Q h Y N o) (x1 : Int32) (b1 : Bool) : Agree cdA (xX4_train S N x1 b1) S (fX5_train M P Q h Y N x1 b1).2 (.int (bI (fX5_train M P Q h Y N x1 b1).1)) := by
  have RE : RelE S M := ⟨P, Q, h, Y, N, o, R⟩
  have h13 : S.1 0 0 13 = nI N := R.1.2.1.2.2.2.2.2
  have hN : N ≤ 16 := R.1.1.2.2.2.2.1
  have hY : Y < 256 := R.1.1.2.2.2.1
  unfold xX4_train fX5_train okPlace fX5_failed
  by_cases c1 : x1 < (0 : Int32)
  · rw [if_pos c1, if_neg (show ¬ false = true by decide), if_pos c1]
    exact Ag_no rfl (by decide) (rE_t _ _ RE)
  rw [if_neg c1, if_neg c1]
  by_cases c2 : x1 ≤ (65535 : Int32)
  · rw [if_pos c2, if_pos rfl, if_pos (i_65.mp c2), h13]
    by_cases c3 : N = 0
    · subst c3
      rw [if_pos (show nI 0 = (0 : Int32) from rfl), if_pos (show nI 0 ≤ (0 : Int32) by decide)]
      have l1 : x1.toNatClampNeg < 65536 := i_lt (n := 65536) c1 (i_65.mp c2) (by decide)
      obtain ⟨v, a1, a2, a3⟩ := R_add ((Rel_t S M P Q h Y 0 o 0).mpr R) (by decide) l1
      obtain ⟨b1', b2, b3, b4⟩ := add_0 (uI M 10 0 0 (0 : Int32)) P Q h Y 0 x1.toNatClampNeg
      rw [← i_nI c1] at a1 a3
      generalize (fX5_add (uI M 10 0 0 (0 : Int32)) P Q h Y 0 x1.toNatClampNeg).2 = M1 at *
      generalize (fX4_launch S 0 x1).2 = S1 at *
      obtain ⟨d1, Y', N', d2, d3, d4⟩ := R_settle (b := b1) a3 (J := 0) (by decide) b4 b3 hY
      obtain ⟨f1, f2, f3, f4⟩ := settle_0 M1 1 h 0 Y b1
      have dN : N' = 0 + 1 := by omega
      subst dN
      obtain ⟨g1, g2, g3⟩ := R_learn (b := b1) (X := x1.toNatClampNeg) (W := Y) d3 f4 f3 (by rw [f2]; exact b2) l1 (by rw [f2]; exact b3) hY
      exact Ag_ok (by rw [show (0 : Int32) = nI 0 from rfl, g1]) (g3.trans (f1.trans (b1'.trans rfl))) ⟨_, _, _, _, _, _, g2⟩
    · have d1 : ¬ nI N = (0 : Int32) := fun z => c3 ((nI_eq (b := 0) (by omega) (by decide)).mp z)
      have d2 : ¬ nI N ≤ (0 : Int32) := fun z => c3 (m_zero (by omega) z)
      rw [if_neg d1, if_neg d2]
      exact Ag_no rfl (by decide) (rE_t _ _ RE)
  · rw [if_neg c2, if_neg (show ¬ false = true by decide), if_neg (fun z => c2 (i_65.mpr z))]
    exact Ag_no rfl (by decide) (rE_t _ _ RE)
theorem A_flush {S M : uS} {P Q h Y N o : Nat} (R : Rel S M P Q h Y N o) (x1 : Int32) : Agree cd1 (xX4_flush S x1) S (fX5_flush M N x1).2 (.int (fX5_flush M N x1).1) := by
  have RE : RelE S M := ⟨P, Q, h, Y, N, o, R⟩
  have h13 : S.1 0 0 13 = nI N := R.1.2.1.2.2.2.2.2
  have hN : N ≤ 16 := R.1.1.2.2.2.2.1
  unfold xX4_flush fX5_flush fX5_fail
  by_cases c1 : x1 < (0 : Int32)
  · rw [if_pos c1, if_pos c1]
    exact Ag_no rfl (by decide) (rE_t _ _ RE)
  rw [if_neg c1, if_neg c1]
  by_cases c2 : x1 ≤ nI N
  · rw [if_pos (by rw [h13]; exact c2), if_pos c2]
    have e1 := i_nI c1
    have l1 : x1.toNatClampNeg ≤ N := i_le c1 c2 (by omega)
    generalize x1.toNatClampNeg = k at *
    subst e1
    by_cases c3 : k = 0
    · subst c3
      rw [if_pos (by decide), if_pos (by decide), h13]
      refine Ag_ok rfl rfl ⟨P, Q, h, Y, N, o, ?_⟩
      obtain ⟨⟨g1, g2, g3, ⟨m1, m2, m3, m4, m7⟩⟩, ⟨n1, n2, n3⟩, g4, g5, g6, g7, g8⟩ := R
      refine ⟨⟨g1, g2, g3, ⟨m1, m2, m3, m4, ?_⟩⟩, ⟨n1, ?_, n3⟩, g4, g5, g6, g7, g8⟩
      · simp [uI, uL]
      · have z : (nI 0).toInt64 = 0 := by decide
        rw [z, n2]
        simp [uI, uL]
    · have d3 : ¬ nI k ≤ (0 : Int32) := fun z => c3 (m_zero (by omega) z)
      rw [if_neg d3, if_neg d3]
      obtain ⟨a1, Y', a2⟩ := R_flush R (by omega) l1
      exact Ag_ok (by rw [a1]) rfl ⟨_, _, _, _, _, _, a2⟩
  · rw [if_neg (by rw [h13]; exact c2), if_neg c2]
    exact Ag_no rfl (by decide) (rE_t _ _ RE)
