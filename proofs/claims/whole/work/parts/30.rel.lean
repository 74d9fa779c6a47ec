/-! THE RELATION between the predictor's state S and the reference's state M: sizes P, Q, h; history Y; N branches in flight, the oldest at o -/
def rB (S M : uS) (P Q o k : Nat) : Prop := ∃ x w : Nat, x < 65536 ∧ w < 256 ∧ S.1 8 ((o + k) % 16) 0 = nI x ∧ M.1 11 2 k = nI x ∧ S.1 8 ((o + k) % 16) 2 = nI w ∧ M.1 11 3 k = nI w ∧ S.1 8 ((o + k) % 16) 3 = nI (x % 2 ^ P) ∧ S.1 8 ((o + k) % 16) 4 = nI ((x ^^^ w) % 2 ^ Q) ∧ (S.2.2 8 ((o + k) % 16) 5 = M.2.2 12 0 (4 * k + 0) ∧ S.2.2 8 ((o + k) % 16) 6 = M.2.2 12 0 (4 * k + 1) ∧ S.2.2 8 ((o + k) % 16) 7 = M.2.2 12 0 (4 * k + 2) ∧ S.2.2 8 ((o + k) % 16) 8 = M.2.2 12 0 (4 * k + 3)) ∧ S.1 8 ((o + k) % 16) 1 = (if M.2.2 12 1 k = false then 0 else if M.2.2 12 2 k = M.2.2 12 0 (4 * k + 3) then 1 else 2)
def rL (S M : uS) (k : Nat) : Prop := (M.2.2 12 3 k = false ∧ S.1 9 k 0 = -1) ∨ (M.2.2 12 3 k = true ∧ (∃ x, x < 65536 ∧ S.1 9 k 0 = nI x) ∧ (∃ t, t ≤ 3 ∧ S.1 9 k 3 = nI t) ∧ S.1 9 k 0 = M.1 11 4 k ∧ S.1 9 k 1 = M.1 11 5 k ∧ S.1 9 k 2 = M.1 11 6 k ∧ S.1 9 k 3 = M.1 11 7 k)
def rT (S M : uS) : Prop := ∀ t, t < 3 → ∀ i, i < 256 → S.1 2 t i = M.1 11 0 (256 * t + i) ∧ ∃ c, c ≤ 3 ∧ S.1 2 t i = nI c
def rA (S M : uS) : Prop := ∀ t, t < 2 → ∀ i, i < 256 → S.1 4 t i = M.1 11 1 (256 * t + i)
def rN (S M : uS) : Prop := S.2.1 0 0 14 = M.2.1 10 0 18 ∧ S.2.1 0 0 15 = M.2.1 10 0 19 ∧ (∀ k, k < 4 → S.2.1 7 0 k = M.2.1 13 0 k) ∧ (∀ t, t < 2 → S.2.1 3 t 1 = M.2.1 13 1 (2 * t) ∧ S.2.1 3 t 2 = M.2.1 13 1 (2 * t + 1))
def rJ (M : uS) : Prop := ∀ j, j < 16 → (∃ x, x < 65536 ∧ M.1 11 2 j = nI x) ∧ ∃ w, w < 256 ∧ M.1 11 3 j = nI w
def rZ (S M : uS) (P Q h Y N o : Nat) : Prop := (P ≤ 8 ∧ Q ≤ 8 ∧ h ≤ 8 ∧ Y < 256 ∧ N ≤ 16 ∧ o < 16) ∧ (S.1 0 0 8 = nI P ∧ S.1 0 0 9 = nI Q ∧ S.1 0 0 10 = nI h ∧ S.1 0 0 11 = nI Y ∧ S.1 0 0 12 = nI o ∧ S.1 0 0 13 = nI N) ∧ (S.1 1 0 1 = nI (2 ^ P) ∧ S.1 1 1 1 = nI (2 ^ Q) ∧ S.1 1 2 1 = nI (2 ^ P)) ∧ (M.1 10 0 1 = nI P ∧ M.1 10 0 2 = nI Q ∧ M.1 10 0 3 = nI h ∧ M.1 10 0 4 = nI Y ∧ M.1 10 0 7 = nI N)
def Rel (S M : uS) (P Q h Y N o : Nat) : Prop := rZ S M P Q h Y N o ∧ rN S M ∧ rT S M ∧ rA S M ∧ (∀ k, k < 8 → rL S M k) ∧ (∀ k, k < N → rB S M P Q o k) ∧ rJ M
theorem Rel_t (S M : uS) (P Q h Y N o : Nat) (v : Int32) : Rel S (uI M 10 0 0 v) P Q h Y N o ↔ Rel S M P Q h Y N o := Iff.rfl
/-- numbers -/
theorem n_and {X P : Nat} (hX : X < 2 ^ 31) (hP : P ≤ 8) : nI X &&& (nI (2 ^ P) - 1) = nI (X % 2 ^ P) := by
  have h1 : nI (2 ^ P) - 1 = nI (2 ^ P - 1) := pk_sub (b := 1) Nat.one_le_two_pow
  rw [h1]
  exact pk_andN (Nat.lt_trans hX (by decide)) P (pk_tn (Nat.lt_of_le_of_lt (Nat.sub_le _ _) (Nat.lt_of_le_of_lt (m_pw P (by omega)) (by decide))))
theorem n_255 {j : Nat} (h : j < 256) : ((nI j) &&& (255 : Int32)).toNatClampNeg = j := by
  rw [pk_andN (k := 8) (by omega) (by decide), Nat.mod_eq_of_lt (by omega), nI_clamp (by omega)]
theorem n_ix {S : uS} {o k : Nat} (h : S.1 0 0 12 = nI o) (ho : o < 16) (hk : k ≤ 16) : fIx S (nI k) = (o + k) % 16 := by
  unfold fIx
  rw [h, nI_add, pk_andN (k := 4) (by omega) (by decide), nI_clamp (by omega)]
theorem n_app {Y h : Nat} (b : Bool) (hY : Y < 256) (hh : h ≤ 8) : (((2 : Int32) * (nI Y)) + (if b = false then (0 : Int32) else (1 : Int32))) &&& (((1 : Int32) <<< ((nI h) &&& 31)) - (1 : Int32)) = nI ((2 * Y + (if b = false then 0 else 1)) % 2 ^ h) := by
  rw [m_sh h (by omega)]
  have e1 : (if b = false then (0 : Int32) else (1 : Int32)) = nI (if b = false then 0 else 1) := by split <;> rfl
  have e2 : (2 : Int32) * nI Y = nI (2 * Y) := pk_mul 2 Y
  rw [e1, e2, nI_add]
  exact n_and (by split <;> omega) hh
theorem r_says {S M : uS} (hT : rT S M) {t j : Nat} (ht : t < 3) (hj : j < 256) : fX2_saysTaken S t (nI j) = fX5_says M (256 * t + j) := by
  unfold fX2_saysTaken fX5_says
  rw [n_255 hj, (hT t ht j hj).1]
theorem r_loop {S M : uS} (hL : ∀ k, k < 8 → rL S M k) {X : Nat} (hX : X < 65536) : ∀ n i : Nat, i + n = 8 → lX4_loopWith (nI X) n i S = lX5_loopOf (nI X) n i M := by
  intro n
  induction n with
  | zero => intro i _; rfl
  | succ n ih =>
    intro i h
    rw [lX4_loopWith, lX5_loopOf]
    have hq := ih (i + 1) (by omega)
    rcases hL i (by omega) with ⟨h1, h2⟩ | ⟨h1, -, -, h2, -⟩
    · have h3 : ¬ S.1 9 i 0 = nI X := by
        rw [h2]
        intro q
        have h4 := congrArg Int32.toInt q
        rw [nI_toInt (by omega)] at h4
        have h5 : (-1 : Int32).toInt = -1 := by decide
        omega
      rw [if_neg h3, if_pos h1]
      exact hq
    · rw [if_neg (show ¬ M.2.2 12 3 i = false by rw [h1]; decide), h2]
      split
      · rfl
      · exact hq
/-- the branch at a place of the ring, and its twin -/
def brP (S M : uS) (o j : Nat) : Prop := fIx S (nI j) = (o + j) % 16 ∧ S.1 8 ((o + j) % 16) 0 = M.1 11 2 j ∧ fX1_isPresumedTaken S ((o + j) % 16) = fX5_isTaken M j
theorem r_pres {S M : uS} {o N K : Nat} (hK : S.1 9 K 0 = M.1 11 4 K) (hB : ∀ j, j < N → brP S M o j) : ∀ (n i : Nat) (a : Int32), i + n = N → lX4_presumed K n i a S = lX5_presumed K n i a M := by
  intro n
  induction n with
  | zero => intro i a _; rfl
  | succ n ih =>
    intro i a h
    obtain ⟨h1, h2, h3⟩ := hB i (by omega)
    rw [lX4_presumed, lX5_presumed, h1, h2, hK, h3, ih _ _ (by omega), ih _ _ (by omega)]
theorem r_taken {S M : uS} {P Q o k : Nat} (h : rB S M P Q o k) : fX1_isPresumedTaken S ((o + k) % 16) = fX5_isTaken M k := by
  obtain ⟨x, w, -, -, -, -, -, -, -, -, ⟨-, -, -, h8⟩, h1⟩ := h
  unfold fX1_isPresumedTaken fX5_isTaken
  rw [h1, h8]
  cases M.2.2 12 1 k <;> cases M.2.2 12 2 k <;> cases M.2.2 12 0 (4 * k + 3) <;> decide
theorem r_brP {S M : uS} {P Q o k : Nat} (h12 : S.1 0 0 12 = nI o) (ho : o < 16) (hk : k < 16) (h : rB S M P Q o k) : brP S M o k := by
  refine ⟨n_ix h12 ho (by omega), ?_, r_taken h⟩
  obtain ⟨x, w, -, -, h0, h2, -⟩ := h
  rw [h0, h2]
theorem rB_c {S M S' M' : uS} {P Q o k : Nat} (h1 : S'.1 8 ((o + k) % 16) = S.1 8 ((o + k) % 16)) (h2 : S'.2.2 8 ((o + k) % 16) = S.2.2 8 ((o + k) % 16)) (m1 : M'.1 11 2 k = M.1 11 2 k) (m2 : M'.1 11 3 k = M.1 11 3 k) (m3 : ∀ j, j < 4 → M'.2.2 12 0 (4 * k + j) = M.2.2 12 0 (4 * k + j)) (m4 : M'.2.2 12 1 k = M.2.2 12 1 k) (m5 : M'.2.2 12 2 k = M.2.2 12 2 k) (h : rB S M P Q o k) : rB S' M' P Q o k := by
  unfold rB
  rw [h1, h2, m1, m2, m3 0 (by decide), m3 1 (by decide), m3 2 (by decide), m3 3 (by decide), m4, m5]
  exact h
theorem rL_c {S M S' M' : uS} {k : Nat} (h1 : S'.1 9 k = S.1 9 k) (m1 : M'.2.2 12 3 k = M.2.2 12 3 k) (m2 : ∀ j, 4 ≤ j → M'.1 11 j k = M.1 11 j k) (h : rL S M k) : rL S' M' k := by
  unfold rL
  rw [h1, m1, m2 4 (by decide), m2 5 (by decide), m2 6 (by decide), m2 7 (by decide)]
  exact h
theorem rT_c {S M S' M' : uS} (h1 : S'.1 2 = S.1 2) (m1 : M'.1 11 0 = M.1 11 0) (h : rT S M) : rT S' M' := by
  unfold rT
  rw [h1, m1]
  exact h
theorem rA_c {S M S' M' : uS} (h1 : S'.1 4 = S.1 4) (m1 : M'.1 11 1 = M.1 11 1) (h : rA S M) : rA S' M' := by
  unfold rA
  rw [h1, m1]
  exact h
theorem rN_c {S M S' M' : uS} (h1 : S'.2.1 = S.2.1) (m1 : M'.2.1 = M.2.1) (h : rN S M) : rN S' M' := by
  unfold rN
  rw [h1, m1]
  exact h
theorem r_ne {o k N : Nat} (h : k < N) (hN : N < 16) : (o + k) % 16 ≠ (o + N) % 16 := by omega
