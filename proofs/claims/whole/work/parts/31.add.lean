theorem lO_on (x : Int32) (M : uS) : ∀ n i : Nat, i + n = 8 → lX5_loopOf x n i M = -1 ∨ ∃ j : Nat, j < 8 ∧ lX5_loopOf x n i M = nI j ∧ M.2.2 12 3 j = true ∧ M.1 11 4 j = x := by
  intro n
  induction n with
  | zero => intro i _; exact Or.inl rfl
  | succ n ih =>
    intro i h
    rw [lX5_loopOf]
    by_cases c1 : M.2.2 12 3 i = false
    · rw [if_pos c1]; exact ih (i + 1) (by omega)
    · rw [if_neg c1]
      by_cases c2 : M.1 11 4 i = x
      · rw [if_pos c2]
        exact Or.inr ⟨i, by omega, rfl, by cases hq : M.2.2 12 3 i <;> simp_all, c2⟩
      · rw [if_neg c2]; exact ih (i + 1) (by omega)
/-- the branch that is predicted, all but its prediction -/
def aL (S : uS) (k X Y P Q : Nat) (a0 a1 ch : Bool) : uS := uF (uF (uF (uI (uI (uI (uI (uI S 8 k 0 (nI X)) 8 k 1 (0 : Int32)) 8 k 2 (nI Y)) 8 k 3 (nI (X % 2 ^ P))) 8 k 4 (nI ((X ^^^ Y) % 2 ^ Q))) 8 k 5 a0) 8 k 6 a1) 8 k 7 ch
def aLe (S : uS) (k X Y P Q h N : Nat) (a0 a1 ch v : Bool) : uS := uI (uI (uF (aL S k X Y P Q a0 a1 ch) 8 k 8 v) 0 0 13 (nI (N + 1))) 0 0 11 (nI ((2 * Y + (if v = false then 0 else 1)) % 2 ^ h))
def aM (M : uS) (N : Nat) (a0 a1 ch : Bool) : uS := uF (uF (uF M 12 0 (4 * N + 0) a0) 12 0 (4 * N + 1) a1) 12 0 (4 * N + 2) ch
def aMe (M : uS) (X Y h N : Nat) (a0 a1 ch v : Bool) : uS := uI (uI (uF (uI (uI (uF (aM M N a0 a1 ch) 12 0 (4 * N + 3) v) 11 2 N (nI X)) 11 3 N (nI Y)) 12 1 N false) 10 0 4 (nI ((2 * Y + (if v = false then 0 else 1)) % 2 ^ h))) 10 0 7 (nI (N + 1))
def aV (M : uS) (X N : Nat) (a0 a1 ch : Bool) : Bool := if lX5_loopOf (nI X) 8 0 M = -1 then ch else if (nI (if M.1 11 7 (lX5_loopOf (nI X) 8 0 M).toNatClampNeg = (3 : Int32) then 1 else 0)) = (0 : Int32) then ch else if M.1 11 6 (lX5_loopOf (nI X) 8 0 M).toNatClampNeg ≤ lX5_presumed (lX5_loopOf (nI X) 8 0 M).toNatClampNeg N 0 (M.1 11 5 (lX5_loopOf (nI X) 8 0 M).toNatClampNeg) (aM M N a0 a1 ch) then false else true
theorem add_eq (M : uS) (P Q h Y N X : Nat) : fX5_add M P Q h Y N X = (aV M X N (fX5_says M (X % 2 ^ P)) (fX5_says M (256 + ((X ^^^ Y) % 2 ^ Q))) (if (fX5_says M (512 + (X % 2 ^ P))) = false then (fX5_says M (X % 2 ^ P)) else (fX5_says M (256 + ((X ^^^ Y) % 2 ^ Q)))), aMe M X Y h N (fX5_says M (X % 2 ^ P)) (fX5_says M (256 + ((X ^^^ Y) % 2 ^ Q))) (if (fX5_says M (512 + (X % 2 ^ P))) = false then (fX5_says M (X % 2 ^ P)) else (fX5_says M (256 + ((X ^^^ Y) % 2 ^ Q)))) (aV M X N (fX5_says M (X % 2 ^ P)) (fX5_says M (256 + ((X ^^^ Y) % 2 ^ Q))) (if (fX5_says M (512 + (X % 2 ^ P))) = false then (fX5_says M (X % 2 ^ P)) else (fX5_says M (256 + ((X ^^^ Y) % 2 ^ Q)))))) := by
  unfold fX5_add aV
  generalize fX5_says M (X % 2 ^ P) = a0
  generalize fX5_says M (256 + ((X ^^^ Y) % 2 ^ Q)) = a1
  generalize (if (fX5_says M (512 + (X % 2 ^ P))) = false then a0 else a1) = ch
  by_cases c1 : lX5_loopOf (nI X) 8 0 M = -1
  · rw [if_pos c1, if_pos c1]; rfl
  · rw [if_neg c1, if_neg c1]
    by_cases c2 : (nI (if M.1 11 7 (lX5_loopOf (nI X) 8 0 M).toNatClampNeg = (3 : Int32) then 1 else 0)) = (0 : Int32)
    · rw [if_pos c2, if_pos c2]; rfl
    · rw [if_neg c2, if_neg c2]
      by_cases c3 : M.1 11 6 (lX5_loopOf (nI X) 8 0 M).toNatClampNeg ≤ lX5_presumed (lX5_loopOf (nI X) 8 0 M).toNatClampNeg N 0 (M.1 11 5 (lX5_loopOf (nI X) 8 0 M).toNatClampNeg) (aM M N a0 a1 ch)
      · rw [if_pos c3]
        exact if_pos c3
      · rw [if_neg c3]
        exact if_neg c3
theorem launch_eq {S M : uS} {P Q h Y N o X : Nat} (hZ : rZ S M P Q h Y N o) (hT : rT S M) (hN : N < 16) (hX : X < 65536) (a0 a1 ch : Bool) (e0 : a0 = fX5_says M (X % 2 ^ P)) (e1 : a1 = fX5_says M (256 + ((X ^^^ Y) % 2 ^ Q))) (ec : ch = if (fX5_says M (512 + (X % 2 ^ P))) = false then a0 else a1) : fX4_launch S N (nI X) = (fX4_loopPrediction (aL S ((o + N) % 16) X Y P Q a0 a1 ch) N (nI X) ch, aLe S ((o + N) % 16) X Y P Q h N a0 a1 ch (fX4_loopPrediction (aL S ((o + N) % 16) X Y P Q a0 a1 ch) N (nI X) ch)) := by
  obtain ⟨⟨hP, hQ, hh, hY, -, ho⟩, ⟨-, -, h10, h11, h12, h13⟩, ⟨t0, t1, -⟩, -⟩ := hZ
  have hxy := m_xor hX (show Y < 65536 by omega)
  have l0 := m_lt (X := X) hP
  have l1 := m_lt (X := X ^^^ Y) hQ
  have s0 : fX2_saysTaken S 0 (nI (X % 2 ^ P)) = a0 := by rw [r_says hT (by decide) l0, e0, Nat.mul_zero, Nat.zero_add]
  have s1 : fX2_saysTaken S 1 (nI ((X ^^^ Y) % 2 ^ Q)) = a1 := by rw [r_says hT (by decide) l1, e1]
  have s2 : (if fX2_saysTaken S 2 (nI (X % 2 ^ P)) = false then a0 else a1) = ch := by rw [r_says hT (by decide) l0, ec]
  unfold fX4_launch
  rw [h13, n_ix h12 ho (by omega), t0, t1, h11, h10, nx_xor, n_and (by omega) hP, n_and (by omega) hQ, s0, s1, s2, n_app _ hY hh]
  rw [show nI N + (1 : Int32) = nI (N + 1) from nI_1 N]
  rfl
theorem aL_9 (S : uS) (k X Y P Q : Nat) (a0 a1 ch : Bool) : (aL S k X Y P Q a0 a1 ch).1 9 = S.1 9 := by funext a b; simp [aL, uI, uF]
theorem r_pred {S M : uS} {P Q h Y N o X : Nat} (R : Rel S M P Q h Y N o) (hN : N < 16) (hX : X < 65536) (a0 a1 ch : Bool) : fX4_loopPrediction (aL S ((o + N) % 16) X Y P Q a0 a1 ch) N (nI X) ch = aV M X N a0 a1 ch := by
  obtain ⟨hZ, -, -, -, hL, hB, -⟩ := R
  obtain ⟨⟨hP, hQ, hh, hY, -, ho⟩, ⟨-, -, h10, h11, h12, h13⟩, ⟨t0, t1, -⟩, -⟩ := hZ
  have hL0 : ∀ k, k < 8 → rL (aL S ((o + N) % 16) X Y P Q a0 a1 ch) M k := fun k hk => rL_c (by rw [aL_9]) rfl (fun _ _ => rfl) (hL k hk)
  have er := r_loop hL0 hX 8 0 rfl
  unfold fX4_loopPrediction aV
  rw [er, aL_9]
  rcases lO_on (nI X) M 8 0 rfl with h1 | ⟨j, hj, h1, hu, -⟩
  · rw [h1, if_pos (by decide), if_pos rfl]
  · have hne : ¬ nI j = -1 := by
      intro q
      have h4 := congrArg Int32.toInt q
      rw [nI_toInt (by omega)] at h4
      have h5 : (-1 : Int32).toInt = -1 := by decide
      omega
    rw [h1, if_neg (nI_pos (by omega)), if_neg hne, nI_clamp (by omega)]
    rcases hL j hj with ⟨q1, -⟩ | ⟨-, -, ⟨t, ht, h3⟩, g0, g1, g2, g3⟩
    · rw [hu] at q1; cases q1
    · rw [g3] at h3
      rw [g3, h3]
      by_cases c : t = 3
      · subst c
        rw [if_pos (show (3 : Int32) ≤ nI 3 by decide), if_neg (show ¬ nI (if nI 3 = (3 : Int32) then 1 else 0) = (0 : Int32) by decide)]
        have hp : lX4_presumed j N 0 (S.1 9 j 1) (aL S ((o + N) % 16) X Y P Q a0 a1 ch) = lX5_presumed j N 0 (S.1 9 j 1) (aM M N a0 a1 ch) := by
          refine r_pres (o := o) (N := N) ?_ (fun i hi => ?_) N 0 _ (by omega)
          · rw [aL_9]; exact g0
          · refine r_brP (P := P) (Q := Q) ?_ ho (by omega) (rB_c (S := S) (M := M) (S' := aL S ((o + N) % 16) X Y P Q a0 a1 ch) (M' := aM M N a0 a1 ch) ?_ ?_ rfl rfl ?_ rfl rfl (hB i hi))
            · show (aL S ((o + N) % 16) X Y P Q a0 a1 ch).1 0 0 12 = nI o
              rw [← h12]; rfl
            · have := r_ne (o := o) hi hN
              funext z; simp [aL, uI, uF, this]
            · have := r_ne (o := o) hi hN
              funext z; simp [aL, uI, uF, this]
            · intro z hz
              have q0 : 4 * i + z ≠ 4 * N + 0 := by omega
              have q1 : 4 * i + z ≠ 4 * N + 1 := by omega
              have q2 : 4 * i + z ≠ 4 * N + 2 := by omega
              have q0' : 4 * i + z ≠ 4 * N := by omega
              simp [aM, uF, q0', q1, q2]
        rw [hp, g1, g2]
      · have c3 : ¬ (3 : Int32) ≤ nI t := nI_ge (a := t) (b := 3) (by omega) (by decide)
        have c4 : ¬ nI t = (3 : Int32) := fun q => c ((nI_eq (a := t) (b := 3) (by omega) (by decide)).mp q)
        rw [if_neg c3, if_neg c4, if_pos (by decide)]
set_option maxHeartbeats 4000000 in
theorem R_add {S M : uS} {P Q h Y N o X : Nat} (R : Rel S M P Q h Y N o) (hN : N < 16) (hX : X < 65536) : ∃ v : Bool, (fX4_launch S N (nI X)).1 = v ∧ (fX5_add M P Q h Y N X).1 = v ∧ Rel (fX4_launch S N (nI X)).2 (fX5_add M P Q h Y N X).2 P Q h ((2 * Y + (if v = false then 0 else 1)) % 2 ^ h) (N + 1) o := by
  rw [add_eq, launch_eq R.1 R.2.2.1 hN hX _ _ _ rfl rfl rfl, r_pred R hN hX]
  generalize fX5_says M (X % 2 ^ P) = a0
  generalize fX5_says M (256 + ((X ^^^ Y) % 2 ^ Q)) = a1
  generalize (if (fX5_says M (512 + (X % 2 ^ P))) = false then a0 else a1) = ch
  generalize aV M X N a0 a1 ch = v
  refine ⟨v, rfl, rfl, ?_⟩
  obtain ⟨hZ, hn, hT, hA, hL, hB, hJ⟩ := R
  obtain ⟨⟨hP, hQ, hh, hY, -, ho⟩, ⟨h8, h9, h10, h11, h12, h13⟩, ⟨t0, t1, t2⟩, ⟨m1, m2, m3, m4, m7⟩⟩ := hZ
  refine ⟨⟨⟨hP, hQ, hh, m_lt hh, by omega, ho⟩, ?_, ?_, ?_⟩, rN_c rfl rfl hn, rT_c ?_ ?_ hT, rA_c ?_ ?_ hA, fun k hk => rL_c ?_ rfl ?_ (hL k hk), fun k hk => ?_, fun j hj => ?_⟩
  · simp [aLe, aL, uI, uF, h8, h9, h10, h12]
  · simp [aLe, aL, uI, uF, t0, t1, t2]
  · simp [aMe, aM, uI, uF, m1, m2, m3]
  · funext a b; simp [aLe, aL, uI, uF]
  · funext a; simp [aMe, aM, uI, uF]
  · funext a b; simp [aLe, aL, uI, uF]
  · funext a; simp [aMe, aM, uI, uF]
  · funext a; simp [aLe, aL, uI, uF]
  · intro j hj
    have e2 : j ≠ 2 := by omega
    have e3 : j ≠ 3 := by omega
    simp [aMe, aM, uI, uF, e2, e3]
  · by_cases hkN : k = N
    · subst hkN
      refine ⟨X, Y, hX, hY, ?_⟩
      simp [aLe, aMe, aL, aM, uI, uF]
    · have hkl : k < N := by omega
      have hr := r_ne (o := o) hkl hN
      refine rB_c ?_ ?_ ?_ ?_ ?_ ?_ ?_ (hB k hkl)
      · funext z; simp [aLe, aL, uI, uF, hr]
      · funext z; simp [aLe, aL, uI, uF, hr]
      · simp [aMe, aM, uI, uF, hkN]
      · simp [aMe, aM, uI, uF, hkN]
      · intro z hz
        have q0 : 4 * k + z ≠ 4 * N := by omega
        have q1 : 4 * k + z ≠ 4 * N + 1 := by omega
        have q2 : 4 * k + z ≠ 4 * N + 2 := by omega
        have q3 : 4 * k + z ≠ 4 * N + 3 := by omega
        simp [aMe, aM, uI, uF, q0, q1, q2, q3]
      · simp [aMe, aM, uI, uF, hkN]
      · simp [aMe, aM, uI, uF]
  · by_cases hjN : j = N
    · subst hjN
      exact ⟨⟨X, hX, by simp [aMe, aM, uI, uF]⟩, ⟨Y, hY, by simp [aMe, aM, uI, uF]⟩⟩
    · have h1 : (aMe M X Y h N a0 a1 ch v).1 11 2 j = M.1 11 2 j := by simp [aMe, aM, uI, uF, hjN]
      have h2 : (aMe M X Y h N a0 a1 ch v).1 11 3 j = M.1 11 3 j := by simp [aMe, aM, uI, uF, hjN]
      show (∃ x, x < 65536 ∧ (aMe M X Y h N a0 a1 ch v).1 11 2 j = nI x) ∧ ∃ w, w < 256 ∧ (aMe M X Y h N a0 a1 ch v).1 11 3 j = nI w
      rw [h1, h2]
      exact hJ j hj
