/-! A NEW LOOP'S NUMBER: the first free one, else the first of least trust -/
def fstMin (T : Nat → Int) (r : Nat) : Prop := r < 8 ∧ (∀ k, k < 8 → T r ≤ T k) ∧ ∀ k, k < r → T r < T k
theorem fstMin_u {T : Nat → Int} {r q : Nat} (h : fstMin T r) (g : fstMin T q) : r = q := by
  obtain ⟨h1, h2, h3⟩ := h
  obtain ⟨g1, g2, g3⟩ := g
  rcases Nat.lt_trichotomy r q with c | c | c
  · have a := g3 r c
    have b := h2 q g1
    omega
  · exact c
  · have a := h3 q c
    have b := g2 r h1
    omega
theorem num_C (S : uS) (hf : ∀ k, k < 8 → fX3_isFree S k = false) : ∀ n i j : Nat, i + n = 8 → j < 8 → (∀ k, k < i → (S.1 9 j 3).toInt ≤ (S.1 9 k 3).toInt) → (∀ k, k < j → (S.1 9 j 3).toInt < (S.1 9 k 3).toInt) → ∃ r, lX4_number n i j S = nI r ∧ fstMin (fun k => (S.1 9 k 3).toInt) r := by
  intro n
  induction n with
  | zero => intro i j h hj h1 h2; exact ⟨j, rfl, hj, fun k hk => h1 k (by omega), h2⟩
  | succ n ih =>
    intro i j h hj h1 h2
    rw [lX4_number, if_pos (hf i (by omega))]
    by_cases c : S.1 9 j 3 ≤ S.1 9 i 3
    · rw [if_pos c]
      have c' := Int32.le_iff_toInt_le.mp c
      refine ih (i + 1) j (by omega) hj (fun k hk => ?_) h2
      by_cases e : k = i
      · subst e; exact c'
      · exact h1 k (by omega)
    · rw [if_neg c]
      have c' : (S.1 9 i 3).toInt < (S.1 9 j 3).toInt := Int.not_le.mp fun q => c (Int32.le_iff_toInt_le.mpr q)
      refine ih (i + 1) i (by omega) (by omega) (fun k hk => ?_) (fun k hk => ?_)
      · by_cases e : k = i
        · subst e; exact Int.le_refl _
        · have := h1 k (by omega); omega
      · have := h1 k hk; omega
theorem mkA_C (M : uS) : ∀ n j : Nat, n ≤ 8 → j < 8 → (∀ k, n ≤ k → k < 8 → (M.1 11 7 j).toInt ≤ (M.1 11 7 k).toInt) → (∀ k, n ≤ k → k < j → (M.1 11 7 j).toInt < (M.1 11 7 k).toInt) → fstMin (fun k => (M.1 11 7 k).toInt) (lX5_mkA n j M) := by
  intro n
  induction n with
  | zero => intro j h hj h1 h2; exact ⟨hj, fun k hk => h1 k (by omega) hk, fun k hk => h2 k (by omega) hk⟩
  | succ n ih =>
    intro j h hj h1 h2
    rw [lX5_mkA]
    by_cases c : M.1 11 7 j < M.1 11 7 n
    · rw [if_pos c]
      have c' := Int32.lt_iff_toInt_lt.mp c
      refine ih j (by omega) hj (fun k hk hk8 => ?_) (fun k hk hkj => ?_)
      · by_cases e : k = n
        · subst e; omega
        · exact h1 k (by omega) hk8
      · by_cases e : k = n
        · subst e; exact c'
        · exact h2 k (by omega) hkj
    · rw [if_neg c]
      have c' : (M.1 11 7 n).toInt ≤ (M.1 11 7 j).toInt := Int.not_lt.mp fun q => c (Int32.lt_iff_toInt_lt.mpr q)
      refine ih n (by omega) (by omega) (fun k hk hk8 => ?_) (fun k hk hkn => by omega)
      by_cases e : k = n
      · subst e; exact Int.le_refl _
      · have := h1 k (by omega) hk8; omega
theorem mkB_n (M : uS) : ∀ n j : Nat, (∀ k, k < n → M.2.2 12 3 k = true) → lX5_mkB n j M = j := by
  intro n
  induction n with
  | zero => intro j _; rfl
  | succ n ih =>
    intro j h
    rw [lX5_mkB, if_neg (by rw [h n (by omega)]; decide)]
    exact ih j fun k hk => h k (by omega)
theorem mkB_f (M : uS) (f : Nat) (hf : M.2.2 12 3 f = false) (hl : ∀ k, k < f → M.2.2 12 3 k = true) : ∀ n j : Nat, f < n → lX5_mkB n j M = f := by
  intro n
  induction n with
  | zero => intro j h; omega
  | succ n ih =>
    intro j h
    rw [lX5_mkB]
    by_cases e : f = n
    · subst e
      rw [if_pos hf]
      exact mkB_n M f f hl
    · split
      · exact ih _ (by omega)
      · exact ih _ (by omega)
theorem num_f (S : uS) (f : Nat) (hf : fX3_isFree S f = true) (hl : ∀ k, k < f → fX3_isFree S k = false) : ∀ n i j : Nat, i ≤ f → f < i + n → lX4_number n i j S = nI f := by
  intro n
  induction n with
  | zero => intro i j h g; omega
  | succ n ih =>
    intro i j h g
    rw [lX4_number]
    by_cases e : i = f
    · subst e
      rw [if_neg (by rw [hf]; decide)]
    · rw [if_pos (hl i (by omega))]
      split
      · exact ih _ _ (by omega) (by omega)
      · exact ih _ _ (by omega) (by omega)
theorem fst_or (b : Nat → Bool) : ∀ n, (∀ k, k < n → b k = true) ∨ ∃ f, f < n ∧ b f = false ∧ ∀ k, k < f → b k = true := by
  intro n
  induction n with
  | zero => exact .inl fun k hk => by omega
  | succ n ih =>
    rcases ih with h | ⟨f, h1, h2, h3⟩
    · cases c : b n with
      | false => exact .inr ⟨n, by omega, c, h⟩
      | true =>
        refine .inl fun k hk => ?_
        by_cases e : k = n
        · rw [e]; exact c
        · exact h k (by omega)
    · exact .inr ⟨f, by omega, h2, h3⟩
theorem r_free {S M : uS} {k : Nat} (h : rL S M k) : fX3_isFree S k = !(M.2.2 12 3 k) := by
  unfold fX3_isFree
  rcases h with ⟨h1, h2⟩ | ⟨h1, ⟨x, hx, h2⟩, -⟩
  · rw [h1, if_pos h2]; rfl
  · rw [h1, h2, if_neg]
    · rfl
    · intro q
      have h4 := congrArg Int32.toInt q
      rw [nI_toInt (by omega)] at h4
      have h5 : (-1 : Int32).toInt = -1 := by decide
      omega
theorem r_number {S M : uS} (hL : ∀ k, k < 8 → rL S M k) : ∃ r, r < 8 ∧ lX4_number 8 0 0 S = nI r ∧ lX5_mkB 8 (lX5_mkA 8 0 M) M = r := by
  rcases fst_or (fun k => M.2.2 12 3 k) 8 with h | ⟨f, h1, h2, h3⟩
  · obtain ⟨r, g1, g2⟩ := num_C S (fun k hk => by rw [r_free (hL k hk), h k hk]; rfl) 8 0 0 rfl (by decide) (fun k hk => by omega) (fun k hk => by omega)
    refine ⟨r, g2.1, g1, ?_⟩
    rw [mkB_n M 8 _ h]
    have g3 := mkA_C M 8 0 (by omega) (by decide) (fun k hk hk8 => by omega) (fun k hk hk8 => by omega)
    have e : ∀ k, k < 8 → S.1 9 k 3 = M.1 11 7 k := by
      intro k hk
      rcases hL k hk with ⟨q, -⟩ | ⟨-, -, -, -, -, -, q⟩
      · rw [h k hk] at q; cases q
      · exact q
    refine fstMin_u g3 ⟨g2.1, fun k hk => ?_, fun k hk => ?_⟩
    · have := g2.2.1 k hk
      simp only [e r g2.1, e k hk] at this
      exact this
    · have := g2.2.2 k hk
      simp only [e r g2.1, e k (Nat.lt_trans hk g2.1)] at this
      exact this
  · exact ⟨f, h1, num_f S f (by rw [r_free (hL f h1), h2]; rfl) (fun k hk => by rw [r_free (hL k (by omega)), h3 k hk]; rfl) 8 0 0 (by omega) (by omega), mkB_f M f h2 h3 8 _ h1⟩
/-- where a loop with the place lies, if one does -/
theorem loopOf_r (X : Int32) (M : uS) : ∀ n i : Nat, lX5_loopOf X n i M = (-1 : Int32) ∨ ∃ k, i ≤ k ∧ k < i + n ∧ lX5_loopOf X n i M = nI k ∧ M.2.2 12 3 k = true ∧ M.1 11 4 k = X := by
  intro n
  induction n with
  | zero => intro i; exact .inl rfl
  | succ n ih =>
    intro i
    rw [lX5_loopOf]
    have w : lX5_loopOf X n (i + 1) M = (-1 : Int32) ∨ ∃ k, i ≤ k ∧ k < i + (n + 1) ∧ lX5_loopOf X n (i + 1) M = nI k ∧ M.2.2 12 3 k = true ∧ M.1 11 4 k = X := by
      rcases ih (i + 1) with h | ⟨k, h1, h2, h3⟩
      · exact .inl h
      · exact .inr ⟨k, by omega, by omega, h3⟩
    split
    · exact w
    · rename_i c
      split
      · rename_i c2
        refine .inr ⟨i, by omega, by omega, rfl, ?_, c2⟩
        cases q : M.2.2 12 3 i
        · exact absurd q c
        · rfl
      · exact w
