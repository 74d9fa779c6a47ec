/-! LEARNING: counters, audits, misses, shifts -/
def mvv (x : Int32) (b : Bool) : Int32 := if b = false then (if x - (1 : Int32) < (0 : Int32) then (0 : Int32) else x - (1 : Int32)) else (if (3 : Int32) < x + (1 : Int32) then (3 : Int32) else x + (1 : Int32))
def chv (x : Int32) (b : Bool) : Int32 := if (0 : Int32) < (if (x + (if b = false then (-1 : Int32) else (1 : Int32))) < (3 : Int32) then (x + (if b = false then (-1 : Int32) else (1 : Int32))) else (3 : Int32)) then (if (x + (if b = false then (-1 : Int32) else (1 : Int32))) < (3 : Int32) then (x + (if b = false then (-1 : Int32) else (1 : Int32))) else (3 : Int32)) else (0 : Int32)
def mvn (c : Nat) (b : Bool) : Nat := if b = false then c - 1 else if c = 3 then 3 else c + 1
theorem mv_ok : ∀ c, c < 4 → ∀ b : Bool, mvv (nI c) b = nI (mvn c b) ∧ chv (nI c) b = nI (mvn c b) ∧ mvn c b ≤ 3 := by decide
theorem move_at (S : uS) (t j : Nat) (b : Bool) (hj : j < 256) (t' i : Nat) : (fX2_move S t (nI j) b).1 2 t' i = if t' = t ∧ i = j then mvv (S.1 2 t j) b else S.1 2 t' i := by
  unfold fX2_move
  rw [n_255 hj]
  cases b <;> simp [uI, mvv]
theorem change_at (M : uS) (j : Nat) (b : Bool) (i : Nat) : (fX5_change M j b).1 11 0 i = if i = j then chv (M.1 11 0 j) b else M.1 11 0 i := by
  unfold fX5_change chv
  simp [uI]
theorem r_move {S M : uS} (hT : rT S M) {t j : Nat} (ht : t < 3) (hj : j < 256) (b : Bool) : rT (fX2_move S t (nI j) b) (fX5_change M (256 * t + j) b) := by
  intro t' ht' i hi
  rw [move_at _ _ _ _ hj, change_at]
  obtain ⟨h1, c, hc, h2⟩ := hT t ht j hj
  by_cases h : t' = t ∧ i = j
  · obtain ⟨rfl, rfl⟩ := h
    obtain ⟨g1, g2, g3⟩ := mv_ok c (by omega) b
    rw [if_pos ⟨rfl, rfl⟩, if_pos rfl, ← h1, h2, g1, g2]
    exact ⟨rfl, _, g3, rfl⟩
  · have h3 : ¬ 256 * t' + i = 256 * t + j := fun q => h (by omega)
    rw [if_neg h, if_neg h3]
    exact hT t' ht' i hi
def rM (S M : uS) : Prop := ∀ t, t < 2 → S.2.1 3 t 1 = M.2.1 13 1 (2 * t) ∧ S.2.1 3 t 2 = M.2.1 13 1 (2 * t + 1)
set_option maxHeartbeats 2000000 in
theorem r_note {S M : uS} (hA : rA S M) (hM : rM S M) {t j : Nat} (ht : t < 2) (hj : j < 256) (x : Int32) (b sy : Bool) (hs : fX5_says M (256 * t + j) = sy) : rA (fX0_note S t (nI j) x (if sy = b then false else true)) (fX5_audit M t (256 * t + j) x b) ∧ rM (fX0_note S t (nI j) x (if sy = b then false else true)) (fX5_audit M t (256 * t + j) x b) := by
  have e := hA t ht j hj
  unfold fX0_note fX5_audit
  rw [n_255 hj, hs, ← e]
  have kA : ∀ (S' M' : uS), (∀ t' i, S'.1 4 t' i = if t' = t ∧ i = j then x else S.1 4 t' i) → (∀ i, M'.1 11 1 i = if i = 256 * t + j then x else M.1 11 1 i) → rA S' M' := by
    intro S' M' h1 h2 t' ht' i hi
    rw [h1, h2]
    by_cases h : t' = t ∧ i = j
    · rw [if_pos h, if_pos (by rw [h.1, h.2])]
    · rw [if_neg h, if_neg (fun q => h (by omega))]
      exact hA t' ht' i hi
  by_cases c1 : S.1 4 t j = -1
  · rw [if_pos c1, if_pos c1]
    exact ⟨kA _ _ (fun t' i => by simp [uI]) (fun i => by simp [uI]), fun t' ht' => hM t' ht'⟩
  · rw [if_neg c1, if_neg c1]
    by_cases c2 : S.1 4 t j = x
    · rw [if_pos c2, if_pos c2]
      exact ⟨kA _ _ (fun t' i => by simp [uI]) (fun i => by simp [uI]), fun t' ht' => hM t' ht'⟩
    · rw [if_neg c2, if_neg c2]
      have kM : ∀ (S' M' : uS) (d : Int64), (∀ t' z, S'.2.1 3 t' z = if t' = t ∧ z = 1 then S.2.1 3 t 1 + 1 else if t' = t ∧ z = 2 then S.2.1 3 t 2 + d else S.2.1 3 t' z) → (∀ z, M'.2.1 13 1 z = if z = 2 * t + 1 then M.2.1 13 1 (2 * t + 1) + d else if z = 2 * t then M.2.1 13 1 (2 * t) + 1 else M.2.1 13 1 z) → rM S' M' := by
        intro S' M' d h1 h2 t' ht'
        have g := hM t' ht'
        rw [h1, h1, h2, h2]
        by_cases h : t' = t
        · subst h
          have k1 : ¬ 2 * t' = 2 * t' + 1 := by omega
          simp [g.1, g.2, k1]
        · have k1 : ¬ 2 * t' = 2 * t + 1 := by omega
          have k4 : ¬ 2 * t' + 1 = 2 * t := by omega
          have k2 : ¬ 2 * t' = 2 * t := by omega
          have k3 : ¬ 2 * t' + 1 = 2 * t + 1 := by omega
          rw [if_neg (show ¬ (t' = t ∧ 1 = 1) from fun q => h q.1), if_neg (show ¬ (t' = t ∧ 1 = 2) from fun q => h q.1), if_neg (show ¬ (t' = t ∧ 2 = 1) from fun q => h q.1), if_neg (show ¬ (t' = t ∧ 2 = 2) from fun q => h q.1), if_neg k1, if_neg k2, if_neg k3, if_neg k4]
          exact g
      by_cases c3 : sy = b
      · rw [if_pos c3, if_pos rfl, if_pos c3]
        refine ⟨kA _ _ (fun t' i => by simp [uI, uL]) (fun i => by simp [uI, uL]), kM _ _ 0 (fun t' z => ?_) (fun z => ?_)⟩
        · by_cases q1 : t' = t ∧ z = 1
          · simp [uI, uL, q1]
          · by_cases q2 : t' = t ∧ z = 2
            · simp [uI, uL, q2]
            · simp [uI, uL, q1, q2]
        · by_cases q1 : z = 2 * t + 1
          · simp [uI, uL, q1]
          · simp [uI, uL, q1]
      · rw [if_neg c3, if_neg (show ¬ true = false by decide), if_neg c3]
        refine ⟨kA _ _ (fun t' i => by simp [uI, uL]) (fun i => by simp [uI, uL]), kM _ _ 1 (fun t' z => ?_) (fun z => ?_)⟩
        · by_cases q1 : t' = t ∧ z = 1
          · simp [uI, uL, q1]
          · by_cases q2 : t' = t ∧ z = 2
            · simp [uI, uL, q2]
            · simp [uI, uL, q1, q2]
        · by_cases q1 : z = 2 * t + 1
          · simp [uI, uL, q1]
          · simp [uI, uL, q1]
/-- the misses -/
theorem said_at (S : uS) (k : Nat) : ∀ j, j < 4 → fX1_saidTaken S k (nI j) = S.2.2 8 k (5 + j) := by
  intro j hj
  have h : j = 0 ∨ j = 1 ∨ j = 2 ∨ j = 3 := by omega
  unfold fX1_saidTaken
  rcases h with rfl | rfl | rfl | rfl
  · rw [if_pos (by decide)]
  · rw [if_neg (by decide), if_pos (by decide)]
  · rw [if_neg (by decide), if_neg (by decide), if_pos (by decide)]
  · rw [if_neg (by decide), if_neg (by decide), if_neg (by decide)]
theorem count_at (k : Nat) (b : Bool) : ∀ (n i : Nat) (S : uS) (j : Nat), i + n ≤ 4 → (lX4_count k b n i S).2.1 7 0 j = if i ≤ j ∧ j < i + n then S.2.1 7 0 j + (if S.2.2 8 k (5 + j) = b then 0 else 1) else S.2.1 7 0 j := by
  intro n
  induction n with
  | zero => intro i S j _; rw [if_neg (by omega)]; rfl
  | succ n ih =>
    intro i S j h
    rw [lX4_count, said_at _ _ i (by omega)]
    by_cases c : S.2.2 8 k (5 + i) = b
    · rw [if_pos c, ih (i + 1) S j (by omega)]
      by_cases hj : j = i
      · subst hj
        rw [if_neg (show ¬ (j + 1 ≤ j ∧ j < j + 1 + n) by omega), if_pos (show j ≤ j ∧ j < j + (n + 1) by omega), if_pos c, Int64.add_zero]
      · by_cases h2 : i + 1 ≤ j ∧ j < i + 1 + n
        · rw [if_pos h2, if_pos (show i ≤ j ∧ j < i + (n + 1) by omega)]
        · rw [if_neg h2, if_neg (show ¬ (i ≤ j ∧ j < i + (n + 1)) by omega)]
    · rw [if_neg c, ih (i + 1) _ j (by omega)]
      have e1 : (uL S 7 0 i ((S.2.1 7 0 i) + (1 : Int64))).2.2 = S.2.2 := rfl
      rw [e1]
      by_cases hj : j = i
      · subst hj
        rw [if_neg (show ¬ (j + 1 ≤ j ∧ j < j + 1 + n) by omega), if_pos (show j ≤ j ∧ j < j + (n + 1) by omega), if_neg c]
        simp [uL]
      · have e2 : (uL S 7 0 i ((S.2.1 7 0 i) + (1 : Int64))).2.1 7 0 j = S.2.1 7 0 j := by simp [uL, hj]
        rw [e2]
        by_cases h2 : i + 1 ≤ j ∧ j < i + 1 + n
        · rw [if_pos h2, if_pos (show i ≤ j ∧ j < i + (n + 1) by omega)]
        · rw [if_neg h2, if_neg (show ¬ (i ≤ j ∧ j < i + (n + 1)) by omega)]
theorem miss_at (b : Bool) : ∀ (n i : Nat) (M : uS) (j : Nat), (lX5_miss b n i M).2.1 13 0 j = if i ≤ j ∧ j < i + n then M.2.1 13 0 j + (if M.2.2 12 0 j = b then 0 else 1) else M.2.1 13 0 j := by
  intro n
  induction n with
  | zero => intro i M j; rw [if_neg (by omega)]; rfl
  | succ n ih =>
    intro i M j
    rw [lX5_miss, ih]
    by_cases hj : j = i
    · subst hj
      rw [if_neg (show ¬ (j + 1 ≤ j ∧ j < j + 1 + n) by omega), if_pos (show j ≤ j ∧ j < j + (n + 1) by omega)]
      simp [uL]
    · by_cases h2 : i + 1 ≤ j ∧ j < i + 1 + n
      · rw [if_pos h2, if_pos (show i ≤ j ∧ j < i + (n + 1) by omega)]
        have e2 : (uL M 13 0 i (M.2.1 13 0 i + (if M.2.2 12 0 i = b then 0 else 1))).2.1 13 0 j = M.2.1 13 0 j := by simp [uL, hj]
        first
          | (simp [uL, hj]; done)
          | (simp [uL, hj]; rfl)
          | (simp [uL, hj]; congr)
      · rw [if_neg h2, if_neg (show ¬ (i ≤ j ∧ j < i + (n + 1)) by omega)]
        simp [uL, hj]
theorem miss_M (b : Bool) : ∀ (n i : Nat) (M : uS), (lX5_miss b n i M).2.1 13 1 = M.2.1 13 1 := by
  intro n
  induction n with
  | zero => intro i M; rfl
  | succ n ih =>
    intro i M
    rw [lX5_miss, ih]
    funext z
    simp [uL]
/-- the rows of the branches in flight move down by one -/
theorem shift_I : ∀ (n i : Nat) (M : uS) (a j : Nat), (a = 2 ∨ a = 3) → (lX5_shift n i M).1 11 a j = if i ≤ j ∧ j < i + n then M.1 11 a (j + 1) else M.1 11 a j := by
  intro n
  induction n with
  | zero => intro i M a j _; rw [if_neg (by omega)]; rfl
  | succ n ih =>
    intro i M a j ha
    rw [lX5_shift, ih _ _ _ _ ha]
    rcases ha with rfl | rfl
    · by_cases hj : j = i
      · subst hj
        rw [if_neg (show ¬ (j + 1 ≤ j ∧ j < j + 1 + n) by omega), if_pos (show j ≤ j ∧ j < j + (n + 1) by omega)]
        simp [uI, uF]
      · by_cases h2 : i + 1 ≤ j ∧ j < i + 1 + n
        · have h3 : j + 1 ≠ i := by omega
          rw [if_pos h2, if_pos (show i ≤ j ∧ j < i + (n + 1) by omega)]
          simp [uI, uF, h3]
        · rw [if_neg h2, if_neg (show ¬ (i ≤ j ∧ j < i + (n + 1)) by omega)]
          simp [uI, uF, hj]
    · by_cases hj : j = i
      · subst hj
        rw [if_neg (show ¬ (j + 1 ≤ j ∧ j < j + 1 + n) by omega), if_pos (show j ≤ j ∧ j < j + (n + 1) by omega)]
        simp [uI, uF]
      · by_cases h2 : i + 1 ≤ j ∧ j < i + 1 + n
        · have h3 : j + 1 ≠ i := by omega
          rw [if_pos h2, if_pos (show i ≤ j ∧ j < i + (n + 1) by omega)]
          simp [uI, uF, h3]
        · rw [if_neg h2, if_neg (show ¬ (i ≤ j ∧ j < i + (n + 1)) by omega)]
          simp [uI, uF, hj]
theorem shift_F : ∀ (n i : Nat) (M : uS) (a j : Nat), (a = 1 ∨ a = 2) → (lX5_shift n i M).2.2 12 a j = if i ≤ j ∧ j < i + n then M.2.2 12 a (j + 1) else M.2.2 12 a j := by
  intro n
  induction n with
  | zero => intro i M a j _; rw [if_neg (by omega)]; rfl
  | succ n ih =>
    intro i M a j ha
    rw [lX5_shift, ih _ _ _ _ ha]
    rcases ha with rfl | rfl
    · by_cases hj : j = i
      · subst hj
        rw [if_neg (show ¬ (j + 1 ≤ j ∧ j < j + 1 + n) by omega), if_pos (show j ≤ j ∧ j < j + (n + 1) by omega)]
        simp [uI, uF]
      · by_cases h2 : i + 1 ≤ j ∧ j < i + 1 + n
        · have h3 : j + 1 ≠ i := by omega
          rw [if_pos h2, if_pos (show i ≤ j ∧ j < i + (n + 1) by omega)]
          simp [uI, uF, h3]
        · rw [if_neg h2, if_neg (show ¬ (i ≤ j ∧ j < i + (n + 1)) by omega)]
          simp [uI, uF, hj]
    · by_cases hj : j = i
      · subst hj
        rw [if_neg (show ¬ (j + 1 ≤ j ∧ j < j + 1 + n) by omega), if_pos (show j ≤ j ∧ j < j + (n + 1) by omega)]
        simp [uI, uF]
      · by_cases h2 : i + 1 ≤ j ∧ j < i + 1 + n
        · have h3 : j + 1 ≠ i := by omega
          rw [if_pos h2, if_pos (show i ≤ j ∧ j < i + (n + 1) by omega)]
          simp [uI, uF, h3]
        · rw [if_neg h2, if_neg (show ¬ (i ≤ j ∧ j < i + (n + 1)) by omega)]
          simp [uI, uF, hj]
theorem shift_fr : ∀ (n i : Nat) (M : uS), (lX5_shift n i M).2.1 = M.2.1 ∧ (∀ a, a ≠ 2 → a ≠ 3 → (lX5_shift n i M).1 11 a = M.1 11 a) ∧ (lX5_shift n i M).2.2 12 0 = M.2.2 12 0 ∧ (lX5_shift n i M).2.2 12 3 = M.2.2 12 3 := by
  intro n
  induction n with
  | zero => intro i M; exact ⟨rfl, fun _ _ _ => rfl, rfl, rfl⟩
  | succ n ih =>
    intro i M
    rw [lX5_shift]
    obtain ⟨h1, h2, h3, h4⟩ := ih (i + 1) (uF (uF (uI (uI M 11 2 i (M.1 11 2 (i + 1))) 11 3 i (M.1 11 3 (i + 1))) 12 1 i (M.2.2 12 1 (i + 1))) 12 2 i (M.2.2 12 2 (i + 1)))
    refine ⟨h1.trans rfl, fun a ha hb => (h2 a ha hb).trans ?_, h3.trans ?_, h4.trans ?_⟩
    · funext z; simp [uI, uF, ha, hb]
    · funext z; simp [uI, uF]
    · funext z; simp [uI, uF]
theorem shiftP_F : ∀ (n i : Nat) (M : uS) (j : Nat), (lX5_shiftP n i M).2.2 12 0 j = if i ≤ j ∧ j < i + n then M.2.2 12 0 (j + 4) else M.2.2 12 0 j := by
  intro n
  induction n with
  | zero => intro i M j; rw [if_neg (by omega)]; rfl
  | succ n ih =>
    intro i M j
    rw [lX5_shiftP, ih]
    by_cases hj : j = i
    · subst hj
      rw [if_neg (show ¬ (j + 1 ≤ j ∧ j < j + 1 + n) by omega), if_pos (show j ≤ j ∧ j < j + (n + 1) by omega)]
      simp [uF]
    · by_cases h2 : i + 1 ≤ j ∧ j < i + 1 + n
      · have h3 : j + 4 ≠ i := by omega
        rw [if_pos h2, if_pos (show i ≤ j ∧ j < i + (n + 1) by omega)]
        simp [uF, h3]
      · rw [if_neg h2, if_neg (show ¬ (i ≤ j ∧ j < i + (n + 1)) by omega)]
        simp [uF, hj]
theorem shiftP_fr : ∀ (n i : Nat) (M : uS), (lX5_shiftP n i M).1 = M.1 ∧ (lX5_shiftP n i M).2.1 = M.2.1 ∧ ∀ a, a ≠ 0 → (lX5_shiftP n i M).2.2 12 a = M.2.2 12 a := by
  intro n
  induction n with
  | zero => intro i M; exact ⟨rfl, rfl, fun _ _ => rfl⟩
  | succ n ih =>
    intro i M
    rw [lX5_shiftP]
    obtain ⟨h1, h2, h3⟩ := ih (i + 1) (uF M 12 0 i (M.2.2 12 0 (i + 4)))
    refine ⟨h1.trans rfl, h2.trans rfl, fun a ha => (h3 a ha).trans ?_⟩
    funext z; simp [uF, ha]
