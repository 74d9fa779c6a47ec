theorem wrong_settled (M : uS) (J : Nat) (b : Bool) : fX5_isWrong (uF (uF M 12 1 J true) 12 2 J b) J = (if b = M.2.2 12 0 (4 * J + 3) then false else true) := by
  unfold fX5_isWrong
  rw [if_neg (by simp [uF])]
  have e1 : (uF (uF M 12 1 J true) 12 2 J b).2.2 12 2 J = b := by simp [uF]
  have e2 : (uF (uF M 12 1 J true) 12 2 J b).2.2 12 0 (4 * J + 3) = M.2.2 12 0 (4 * J + 3) := by simp [uF]
  rw [e1, e2]
theorem r_mod {o k j : Nat} (hk : k < 16) (hj : j < 16) (h : (o + k) % 16 = (o + j) % 16) : k = j := by omega
set_option maxHeartbeats 4000000 in
theorem R_settle {S M : uS} {P Q h Y N o J W : Nat} {b : Bool} (R : Rel S M P Q h Y N o) (hJ : J < N) (hr : M.2.2 12 1 J = false) (hW : M.1 11 3 J = nI W) (hWb : W < 256) : (fX4_settle S (nI J) b).1 = (fX5_settle M N h J W b).1 ∧ ∃ Y' N', (N' = N ∨ N' = J + 1) ∧ Rel (fX4_settle S (nI J) b).2 (fX5_settle M N h J W b).2 P Q h Y' N' o ∧ (fX5_settle M N h J W b).2.2.2 12 1 J = true := by
  obtain ⟨hZ, hn, hT, hA, hL, hB, hJJ⟩ := R
  obtain ⟨⟨hP, hQ, hh, hY, hN, ho⟩, ⟨h8, h9, h10, h11, h12, h13⟩, ⟨t0, t1, t2⟩, ⟨m1, m2, m3, m4, m7⟩⟩ := hZ
  obtain ⟨x, w, hx, hw, b0, b1, b2, b3, b4, b5, ⟨f5, f6, f7, f8⟩, bs⟩ := id (hB J hJ)
  have ew : w = W := (nI_eq (by omega) (by omega)).mp (b3.symm.trans hW)
  subst ew
  have eB : ∀ (S' M' : uS) (st : Int32), (∀ z, z ≠ 1 → S'.1 8 ((o + J) % 16) z = S.1 8 ((o + J) % 16) z) → S'.1 8 ((o + J) % 16) 1 = st → S'.2.2 = S.2.2 → (∀ i, i ≠ (o + J) % 16 → S'.1 8 i = S.1 8 i) → M'.1 11 = M.1 11 → (∀ i, M'.2.2 12 0 i = M.2.2 12 0 i) → (∀ i, M'.2.2 12 1 i = if i = J then true else M.2.2 12 1 i) → (∀ i, M'.2.2 12 2 i = if i = J then b else M.2.2 12 2 i) → st = (if b = M.2.2 12 0 (4 * J + 3) then 1 else 2) → ∀ k, k < N → rB S' M' P Q o k := by
    intro S' M' st g1 g2 g3 g4 g5 g6 g7 g8 g9 k hk
    by_cases hkJ : k = J
    · subst hkJ
      refine ⟨x, w, hx, hw, ?_⟩
      rw [g1 0 (by decide), g1 2 (by decide), g1 3 (by decide), g1 4 (by decide), g2, g3, g5, g6, g6, g6, g6, g7, g8, if_pos rfl, if_pos rfl, if_neg (show ¬ true = false by decide), g9]
      exact ⟨b0, b1, b2, b3, b4, b5, ⟨f5, f6, f7, f8⟩, rfl⟩
    · have hne : (o + k) % 16 ≠ (o + J) % 16 := fun q => hkJ (r_mod (by omega) (by omega) q)
      refine rB_c (g4 _ hne) (by rw [g3]) (by rw [g5]) (by rw [g5]) (fun j _ => g6 _) ?_ ?_ (hB k hk)
      · rw [g7, if_neg hkJ]
      · rw [g8, if_neg hkJ]
  have ix := n_ix (S := S) h12 ho (show J ≤ 16 by omega)
  unfold fX4_settle fX5_settle
  rw [ix, wrong_settled, f8]
  by_cases c : M.2.2 12 0 (4 * J + 3) = b
  · rw [if_pos c, if_pos c.symm, if_pos rfl]
    refine ⟨rfl, Y, N, Or.inl rfl, ⟨⟨⟨hP, hQ, hh, hY, hN, ho⟩, ⟨h8, h9, h10, h11, h12, h13⟩, ⟨t0, t1, t2⟩, ⟨m1, m2, m3, m4, m7⟩⟩, rN_c rfl rfl hn, rT_c ?_ rfl hT, rA_c ?_ rfl hA, fun k hk => rL_c ?_ ?_ (fun _ _ => rfl) (hL k hk), eB _ _ 1 ?_ ?_ rfl ?_ rfl ?_ ?_ ?_ (if_pos c.symm).symm, hJJ⟩, ?_⟩
    · funext a z; simp [uI]
    · funext a z; simp [uI]
    · funext z; simp [uI]
    · simp [uF]
    · intro z hz; simp [uI, hz]
    · simp [uI]
    · intro i hi; funext z; simp [uI, hi]
    · intro i; simp [uF]
    · intro i; simp [uF]
    · intro i; simp [uF]
    · simp [uF]
  · rw [if_neg c, if_neg (show ¬ b = M.2.2 12 0 (4 * J + 3) from fun q => c q.symm), if_neg (show ¬ true = false by decide)]
    have e1 : nI J + (1 : Int32) = nI (J + 1) := nI_1 J
    have e2 : nI N - nI (J + 1) = nI (N - (J + 1)) := pk_sub (by omega)
    have e3 : nI N - nI J = nI (N - J) := pk_sub (by omega)
    have e4 : nI (N - J) - (1 : Int32) = nI (N - (J + 1)) := by
      rw [show nI (N - J) - (1 : Int32) = nI (N - J) - nI 1 from rfl, pk_sub (by omega), Nat.sub_sub]
    unfold fX4_dropFrom
    have d1 : (uI (uI S 8 ((o + J) % 16) 1 (2 : Int32)) 0 0 11 ((((2 : Int32) * (S.1 8 ((o + J) % 16) 2)) + (if b = false then (0 : Int32) else (1 : Int32))) &&& (((1 : Int32) <<< ((S.1 0 0 10) &&& 31)) - (1 : Int32)))).1 0 0 13 = nI N := by rw [← h13]; rfl
    have d2 : (uI (uI S 8 ((o + J) % 16) 1 (2 : Int32)) 0 0 11 ((((2 : Int32) * (S.1 8 ((o + J) % 16) 2)) + (if b = false then (0 : Int32) else (1 : Int32))) &&& (((1 : Int32) <<< ((S.1 0 0 10) &&& 31)) - (1 : Int32)))).2.1 0 0 15 = S.2.1 0 0 15 := rfl
    rw [d1, d2, e1, e2, e3, e4, b2, h10, n_app _ hw hh]
    refine ⟨rfl, (2 * w + (if b = false then 0 else 1)) % 2 ^ h, J + 1, Or.inr rfl, ⟨⟨⟨hP, hQ, hh, m_lt hh, by omega, ho⟩, ?_, ?_, ?_⟩, ?_, rT_c ?_ ?_ hT, rA_c ?_ ?_ hA, fun k hk => rL_c ?_ ?_ ?_ (hL k hk), fun k hk => eB _ _ 2 ?_ ?_ ?_ ?_ ?_ ?_ ?_ ?_ (if_neg (fun q => c q.symm)).symm k (by omega), ?_⟩, ?_⟩
    · simp [uI, uL, h8, h9, h10, h12]
    · simp [uI, uL, t0, t1, t2]
    · simp [uI, uL, uF, m1, m2, m3]
    · obtain ⟨n1, n2, n3, n4⟩ := hn
      refine ⟨n1, ?_, fun k hk => n3 k hk, fun t ht => n4 t ht⟩
      simp [uI, uL, uF, n2]
    · funext a z; simp [uI, uL]
    · funext z; simp [uI, uL, uF]
    · funext a z; simp [uI, uL]
    · funext z; simp [uI, uL, uF]
    · funext z; simp [uI, uL]
    · simp [uI, uL, uF]
    · intro j _; simp [uI, uL, uF]
    · intro z hz; simp [uI, uL, hz]
    · simp [uI, uL]
    · rfl
    · intro i hi; funext z; simp [uI, uL, hi]
    · funext a z; simp [uI, uL, uF]
    · intro i; simp [uI, uL, uF]
    · intro i; simp [uI, uL, uF]
    · intro i; simp [uI, uL, uF]
    · intro j hj
      exact hJJ j hj
    · simp [uI, uL, uF]
set_option maxHeartbeats 4000000 in
theorem R_flush {S M : uS} {P Q h Y N o k : Nat} (R : Rel S M P Q h Y N o) (hk0 : 0 < k) (hk : k ≤ N) : ((fX4_dropFrom (uI S 0 0 11 (S.1 8 (fIx S ((S.1 0 0 13) - nI k)) 2)) ((S.1 0 0 13) - nI k)).2).1 0 0 13 = nI (N - k) ∧ ∃ Y', Rel (fX4_dropFrom (uI S 0 0 11 (S.1 8 (fIx S ((S.1 0 0 13) - nI k)) 2)) ((S.1 0 0 13) - nI k)).2 (uI (uL (uI (uI M 10 0 0 (0 : Int32)) 10 0 7 (nI (N - k))) 10 0 19 ((M.2.1 10 0 19) + ((nI k).toInt64))) 10 0 4 (M.1 11 3 (N - k))) P Q h Y' (N - k) o := by
  obtain ⟨hZ, hn, hT, hA, hL, hB, hJJ⟩ := R
  obtain ⟨⟨hP, hQ, hh, hY, hN, ho⟩, ⟨h8, h9, h10, h11, h12, h13⟩, ⟨t0, t1, t2⟩, ⟨m1, m2, m3, m4, m7⟩⟩ := hZ
  have e3 : nI N - nI k = nI (N - k) := pk_sub hk
  have e4 : nI N - nI (N - k) = nI k := by rw [pk_sub (by omega)]; congr 1; omega
  have ix := n_ix (S := S) h12 ho (show N - k ≤ 16 by omega)
  obtain ⟨x, w, hx, hw, b0, b1, b2, b3, -⟩ := hB (N - k) (by omega)
  rw [h13, e3, ix, b2, b3]
  unfold fX4_dropFrom
  have d1 : (uI S 0 0 11 (nI w)).1 0 0 13 = nI N := by rw [← h13]; rfl
  have d2 : (uI S 0 0 11 (nI w)).2.1 0 0 15 = S.2.1 0 0 15 := rfl
  rw [d1, d2, e4]
  refine ⟨by simp [uI], w, ⟨⟨hP, hQ, hh, hw, by omega, ho⟩, ?_, ?_, ?_⟩, ?_, rT_c ?_ ?_ hT, rA_c ?_ ?_ hA, fun k hk => rL_c ?_ ?_ ?_ (hL k hk), fun i hi => rB_c ?_ ?_ ?_ ?_ ?_ ?_ ?_ (hB i (by omega)), ?_⟩
  · simp [uI, uL, h8, h9, h10, h12]
  · simp [uI, uL, t0, t1, t2]
  · simp [uI, uL, m1, m2, m3]
  · obtain ⟨n1, n2, n3, n4⟩ := hn
    refine ⟨n1, ?_, fun k hk => n3 k hk, fun t ht => n4 t ht⟩
    simp [uI, uL, n2]
  · funext a z; simp [uI, uL]
  · funext z; simp [uI, uL]
  · funext a z; simp [uI, uL]
  · funext z; simp [uI, uL]
  · funext z; simp [uI, uL]
  · simp [uI, uL]
  · intro j _; simp [uI, uL]
  · funext z; simp [uI, uL]
  · rfl
  · simp [uI, uL]
  · simp [uI, uL]
  · intro j _; rfl
  · rfl
  · rfl
  · intro j hj
    exact hJJ j hj
