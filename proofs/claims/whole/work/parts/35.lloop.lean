/-! LEARNING OF THE LOOPS -/
set_option maxHeartbeats 2000000 in
theorem lloop_C (S : uS) (k3 : Nat) (b : Bool) : (fX4_learnLoop S k3 b).2 = S.2 ∧ ∀ a, a ≠ 9 → (fX4_learnLoop S k3 b).1 a = S.1 a := by
  unfold fX4_learnLoop fX3_startAnew fX3_learn
  repeat' split
  all_goals exact ⟨rfl, fun a ha => by funext u v; simp [uI, ha]⟩
set_option maxHeartbeats 2000000 in
theorem lloop_M (M : uS) (x : Int32) (b w : Bool) : (fX5_learnLoop M x b w).2.1 = M.2.1 ∧ (∀ a, a ≠ 11 → (fX5_learnLoop M x b w).1 a = M.1 a) ∧ (∀ a, a < 4 → (fX5_learnLoop M x b w).1 11 a = M.1 11 a) ∧ ∀ a, a ≠ 3 → (fX5_learnLoop M x b w).2.2 12 a = M.2.2 12 a := by
  unfold fX5_learnLoop fX5_makeLoop
  repeat' split
  all_goals
    refine ⟨rfl, fun a ha => ?_, fun a ha => ?_, fun a ha => ?_⟩
    · funext u v; simp [uI, uF, ha]
    · have q4 : a ≠ 4 := by omega
      have q5 : a ≠ 5 := by omega
      have q6 : a ≠ 6 := by omega
      have q7 : a ≠ 7 := by omega
      funext v; simp [uI, uF, q4, q5, q6, q7]
    · funext v; simp [uI, uF, ha]
theorem rL_at {S M S' M' : uS} (hL : ∀ k, k < 8 → rL S M k) (K : Nat) (h1 : ∀ k, k ≠ K → S'.1 9 k = S.1 9 k) (h2 : ∀ k, k ≠ K → ∀ a, 4 ≤ a → M'.1 11 a k = M.1 11 a k) (h3 : ∀ k, k ≠ K → M'.2.2 12 3 k = M.2.2 12 3 k) (h4 : rL S' M' K) : ∀ k, k < 8 → rL S' M' k := by
  intro k hk
  by_cases c : k = K
  · rw [c]; exact h4
  · exact rL_c (h1 k c) (h3 k c) (h2 k c) (hL k hk)
theorem tr_ok : ∀ t, t ≤ 3 → ∃ u, u ≤ 3 ∧ (if (3 : Int32) < nI t + (1 : Int32) then (3 : Int32) else nI t + (1 : Int32)) = nI u := by
  intro t ht
  have h : t = 0 ∨ t = 1 ∨ t = 2 ∨ t = 3 := by omega
  rcases h with rfl | rfl | rfl | rfl
  · exact ⟨1, by decide, by decide⟩
  · exact ⟨2, by decide, by decide⟩
  · exact ⟨3, by decide, by decide⟩
  · exact ⟨3, by decide, by decide⟩
set_option maxHeartbeats 4000000 in
theorem r_lloop {S M : uS} (hL : ∀ k, k < 8 → rL S M k) {k3 X : Nat} (hX : X < 65536) (h0 : S.1 8 k3 0 = nI X) (b w : Bool) (hw : S.1 8 k3 1 = 2 ↔ w = true) : ∀ k, k < 8 → rL (fX4_learnLoop S k3 b) (fX5_learnLoop M (nI X) b w) k := by
  unfold fX4_learnLoop fX5_learnLoop
  rw [h0, r_loop hL hX 8 0 rfl]
  rcases loopOf_r (nI X) M 8 0 with e | ⟨K, -, hK, e, g1, g2⟩
  · rw [e, if_pos (by decide), if_pos rfl]
    cases b with
    | true => exact hL
    | false =>
      rw [if_pos rfl, if_pos rfl]
      cases w with
      | false =>
        rw [if_neg (fun q => absurd (hw.mp q) (by decide)), if_pos rfl]
        exact hL
      | true =>
        rw [if_pos (hw.mpr rfl), if_neg (by decide)]
        obtain ⟨r, hr, n1, n2⟩ := r_number hL
        unfold fX3_startAnew fX5_makeLoop
        rw [n1, n2, nI_clamp (by omega)]
        refine rL_at hL r ?_ ?_ ?_ (.inr ⟨?_, ⟨X, hX, ?_⟩, ⟨0, by decide, ?_⟩, ?_, ?_, ?_, ?_⟩)
        · intro k hk; funext z; simp [uI, hk]
        · intro k hk a ha; simp [uI, uF, hk]
        · intro k hk; simp [uI, uF, hk]
        · simp [uI, uF]
        · simp [uI]
        · simp [uI]; rfl
        · simp [uI, uF]
        · simp [uI, uF]
        · simp [uI, uF]
        · simp [uI, uF]
  · have hK8 : K < 8 := by omega
    have hn : ¬ nI K < (0 : Int32) := by
      intro q
      have q' := Int32.lt_iff_toInt_lt.mp q
      rw [nI_toInt (by omega)] at q'
      have h5 : (0 : Int32).toInt = 0 := by decide
      omega
    have hm : ¬ nI K = (-1 : Int32) := by
      intro q
      have q' := congrArg Int32.toInt q
      rw [nI_toInt (by omega)] at q'
      have h5 : (-1 : Int32).toInt = -1 := by decide
      omega
    rw [e, if_neg hn, if_neg hm, nI_clamp (by omega)]
    rcases hL K hK8 with ⟨q, -⟩ | ⟨-, ⟨x, hx, l0⟩, ⟨t, ht, l3⟩, l4, l5, l6, l7⟩
    · rw [g1] at q; cases q
    unfold fX3_learn
    obtain ⟨u, hu, eu⟩ := tr_ok t ht
    rw [l5, l6, l7]
    have l7' : M.1 11 7 K = nI t := by rw [← l7, l3]
    have l4' : M.1 11 4 K = nI x := by rw [← l4, l0]
    cases b with
    | false =>
      rw [if_pos rfl, if_pos rfl]
      split
      · refine rL_at hL K ?_ ?_ ?_ (.inr ⟨?_, ⟨x, hx, ?_⟩, ⟨0, by decide, ?_⟩, ?_, ?_, ?_, ?_⟩)
        · intro k hk; funext z; simp [uI, hk]
        · intro k hk a ha; simp [uI, hk]
        · intro k hk; rfl
        · exact g1
        · simp [uI, l0]
        · simp [uI]; rfl
        · simp [uI, l0, l4']
        · simp [uI]
        · simp [uI]
        · simp [uI]
      · split
        · refine rL_at hL K ?_ ?_ ?_ (.inr ⟨?_, ⟨x, hx, ?_⟩, ⟨u, hu, ?_⟩, ?_, ?_, ?_, ?_⟩)
          · intro k hk; funext z; simp [uI, hk]
          · intro k hk a ha; simp [uI, hk]
          · intro k hk; rfl
          · exact g1
          · simp [uI, l0]
          · rw [l7', eu]; simp [uI]
          · simp [uI, l0, l4']
          · simp [uI]
          · simp [uI, l6]
          · simp [uI]
        · refine rL_at hL K ?_ ?_ ?_ (.inr ⟨?_, ⟨x, hx, ?_⟩, ⟨0, by decide, ?_⟩, ?_, ?_, ?_, ?_⟩)
          · intro k hk; funext z; simp [uI, hk]
          · intro k hk a ha; simp [uI, hk]
          · intro k hk; rfl
          · exact g1
          · simp [uI, l0]
          · simp [uI]; rfl
          · simp [uI, l0, l4']
          · simp [uI]
          · simp [uI]
          · simp [uI]
    | true =>
      rw [if_neg (show ¬ true = false by decide), if_neg (show ¬ true = false by decide)]
      split
      · refine rL_at hL K ?_ ?_ ?_ (.inr ⟨?_, ⟨x, hx, ?_⟩, ⟨t, ht, ?_⟩, ?_, ?_, ?_, ?_⟩)
        · intro k hk; funext z; simp [uI, hk]
        · intro k hk a ha; simp [uI, hk]
        · intro k hk; rfl
        · exact g1
        · simp [uI, l0]
        · simp [uI, l3]
        · simp [uI, l0, l4']
        · simp [uI]
        · simp [uI, l6]
        · simp [uI, l7]
      · refine rL_at hL K ?_ ?_ ?_ (.inl ⟨?_, ?_⟩)
        · intro k hk; funext z; simp [uI, hk]
        · intro k hk a ha; simp [uI, uF, hk]
        · intro k hk; simp [uI, uF, hk]
        · simp [uI, uF]
        · simp [uI]
