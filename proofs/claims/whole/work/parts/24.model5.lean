theorem m_kind {S : uS} {x : Int32} (c : ¬ fX5_isKind S x = false) : x = nI x.toNatClampNeg ∧ x.toNatClampNeg < 4 := by
  unfold fX5_isKind at c
  by_cases h0 : x < 0
  · rw [if_pos h0] at c
    exact absurd rfl c
  · rw [if_neg h0] at c
    by_cases h1 : (4 : Int32) ≤ x
    · rw [if_pos h1] at c
      exact absurd rfl c
    · refine ⟨i_nI h0, ?_⟩
      obtain ⟨j, h3, h4⟩ := nI_of h0
      rw [h4] at h1 ⊢
      rw [nI_clamp h3]
      exact m_nle (b := 4) h3 (by decide) h1
theorem i_ltn {x : Int32} {n : Nat} (h0 : ¬ x < 0) (h : ¬ nI n ≤ x) (hn : n < 2 ^ 31) : x.toNatClampNeg < n := by
  obtain ⟨j, h1, h2⟩ := nI_of h0
  rw [h2] at h ⊢
  rw [nI_clamp h1]
  exact m_nle h1 hn h
theorem m_sz {S : uS} {P1 Q1 : Nat} (hP : S.1 10 0 1 = nI P1) (hPb : P1 ≤ 8) (hQ : S.1 10 0 2 = nI Q1) (hQb : Q1 ≤ 8) (t : Nat) (ht : t < 3) : fX5_sizeOf S (nI t) = nI (2 ^ (if t = 1 then Q1 else P1)) := by
  have h3 : t = 0 ∨ t = 1 ∨ t = 2 := by omega
  unfold fX5_sizeOf
  rcases h3 with rfl | rfl | rfl
  · rw [if_neg (by decide), if_pos (by decide), if_neg (by decide), hP, m_sh P1 (by omega), if_neg (by decide)]
  · rw [if_neg (by decide), if_pos (by decide), if_pos (by decide), hQ, m_sh Q1 (by omega), if_pos rfl]
  · rw [if_neg (by decide), if_pos (by decide), if_neg (by decide), hP, m_sh P1 (by omega), if_neg (by decide)]
theorem m_cnt {S : uS} {P1 Q1 : Nat} {x y : Int32} (hP : S.1 10 0 1 = nI P1) (hPb : P1 ≤ 8) (hQ : S.1 10 0 2 = nI Q1) (hQb : Q1 ≤ 8) (h0 : ¬ y < 0) (h1 : ¬ fX5_sizeOf S x ≤ y) : (x = nI x.toNatClampNeg ∧ x.toNatClampNeg < 3) ∧ y = nI y.toNatClampNeg ∧ y.toNatClampNeg < 2 ^ (if x.toNatClampNeg = 1 then Q1 else P1) := by
  have hy : ¬ (0 : Int32) ≤ y → False := fun q => by
    obtain ⟨j, h3, h4⟩ := nI_of h0
    exact q (by rw [h4]; exact nI_pos' h3)
  have hx : ¬ x < 0 := by
    intro q
    unfold fX5_sizeOf at h1
    rw [if_pos q] at h1
    exact hy h1
  have hx2 : x ≤ 2 := by
    refine Classical.byContradiction (fun q => ?_)
    unfold fX5_sizeOf at h1
    rw [if_neg hx, if_neg q] at h1
    exact hy h1
  have ex := i_nI hx
  have lx : x.toNatClampNeg ≤ 2 := i_le (n := 2) hx hx2 (by decide)
  refine ⟨⟨ex, by omega⟩, i_nI h0, ?_⟩
  rw [ex, m_sz hP hPb hQ hQb _ (by omega)] at h1
  have hb : 2 ^ (if x.toNatClampNeg = 1 then Q1 else P1) < 2 ^ 31 := by
    split
    · exact Nat.lt_of_le_of_lt (m_pw Q1 (by omega)) (by decide)
    · exact Nat.lt_of_le_of_lt (m_pw P1 (by omega)) (by decide)
  exact i_ltn h0 h1 hb
theorem lX5_presumed_t (S : uS) (v : Int32) (K : Nat) : ∀ (n i : Nat) (a : Int32), lX5_presumed K n i a (uI S 10 0 0 v) = lX5_presumed K n i a S := by
  intro n
  induction n with
  | zero => intro i a; rfl
  | succ n ih =>
    intro i a
    rw [lX5_presumed, lX5_presumed, ih, ih]
    have h1 : (uI S 10 0 0 v).1 11 = S.1 11 := by funext y z; simp [uI]
    have h2 : fX5_isTaken (uI S 10 0 0 v) i = fX5_isTaken S i := rfl
    rw [h1, h2]
theorem fX5_ofLoop_t (S : uS) (v : Int32) (F K : Nat) (x : Int32) : fX5_ofLoop (uI S 10 0 0 v) F K x = fX5_ofLoop S F K x := by
  unfold fX5_ofLoop
  have h1 : (uI S 10 0 0 v).1 11 = S.1 11 := by funext y z; simp [uI]
  have h2 : (uI S 10 0 0 v).2 = S.2 := rfl
  rw [h1, h2, lX5_presumed_t]
def fX5_predicted (S : uS) (F1 : Nat) (x1 : Int32) (x2 : Int32) : Bool × uS :=
  if (fX5_isFlying S x1) = false then ((fX5_failed (uI S 10 0 0 (0 : Int32)) (1 : Int32)).1, ((fX5_failed (uI S 10 0 0 (0 : Int32)) (1 : Int32)).2))
  else if (fX5_isKind S x2) = false then ((fX5_failed (uI S 10 0 0 (0 : Int32)) (1 : Int32)).1, ((fX5_failed (uI S 10 0 0 (0 : Int32)) (1 : Int32)).2))
    else (S.2.2 12 0 (4 * x1.toNatClampNeg + x2.toNatClampNeg), (uI S 10 0 0 (0 : Int32)))
abbrev rmX5_predicted : Room := { frames := 1, cells := 0, slots := 0, locals := 21 }
set_option maxHeartbeats 4000000 in
set_option maxRecDepth 100000 in
theorem cX5c_predicted (l : Launch) (G : gG) (Z : va_W) (S : uS) (F1 : Nat) (h_F1 : S.1 10 0 7 = nI F1) (h_F1b : F1 ≤ 16) (x1 : Int32) (x2 : Int32) : kMet l yX5_predicted wsX5_predicted rmX5_predicted G kM Z S [.ref (G.2.2 (10, 0)), .int (x1), .int (x2)] (some (.int (bI ((fX5_predicted S F1 x1 x2).1)))) ((fX5_predicted S F1 x1 x2).2) := by
  refine kMet_of (cc := cX5_predicted) (maxL := 3) (ret := (some .boolean)) (by decide) rfl (Nat.le_of_ble_eq_true rfl) ?_
  intro p e s m below meth c hx hb hr hml hlocks hts hown hK hN A hZ hA H locs hw ls hl
  have hl : lv_has ls 3 [(0, .ref (G.2.2 (10, 0))), (1, .int (x1)), (2, .int (x2))] := hl
  have hiX5 : ∀ w ∈ wsX50, w ∈ wsX5_predicted := by decide +kernel
  refine lv_aload_n hx hb dX5_predicted_0 rfl (lv_at hl 0 rfl) ?_
  refine lv_iconst (v := 0) hx hb dX5_predicted_1 (by decide) ?_
  refine p_10_0 (v := (0 : Int32)) hx hb hts hiX5 hown hK hw kM_10 (hts (.fieldLink RX5 58 "BranchPredictorModel" "thrown" "I") (by decide +kernel)) dX5_predicted_2 (fun H locs hw => ?_)
  refine lv_aload_n hx hb dX5_predicted_5 rfl (lv_at hl 0 rfl) ?_
  refine lv_iload_n hx hb dX5_predicted_6 rfl (lv_at hl 1 rfl) ?_
  refine k_callV (C := RX5) (n := 1) (rest := []) ⟨hx, hb, hml, hown, hts⟩ (cX5c_isFlying l G Z (uI S 10 0 0 (0 : Int32)) x1) (cwV 1 hts gX5_predicted_X5_isFlying rfl rfl rfl (by decide +kernel) ⟨Nat.le_of_ble_eq_true rfl, Nat.le_of_ble_eq_true rfl⟩) (k_recv hK hw kM_10 rfl rfl) hK hN hZ hA hw (Nat.zero_le _) (Nat.zero_le _) rfl hl.1 rfl (Nat.le_of_ble_eq_true rfl) dX5_predicted_7 (fun H locs hw => ?_)
  refine W.eq (g2 := F0 m 10 ls [.int (bI ((fX5_isFlying (uI S 10 0 0 (0 : Int32)) x1)))]) rfl ?_
  refine k_topz (z := (fX5_isFlying S x1)) (by first | rfl | simp [fX5_isFlying, uI, uL, uF]) ?_
  refine k_if_eq (b := (fX5_isFlying S x1)) (tgt := 33) hx hb dX5_predicted_10 (by decide) (fun c_1 => ?_) (fun c_1 => ?_)
  · skip
    refine lv_aload_n hx hb dX5_predicted_33 rfl (lv_at hl 0 rfl) ?_
    refine lv_iconst (v := 1) hx hb dX5_predicted_34 (by decide) ?_
    refine k_callV (C := RX5) (n := 1) (rest := []) ⟨hx, hb, hml, hown, hts⟩ (cX5c_failed l G Z (uI S 10 0 0 (0 : Int32)) (1 : Int32)) (cwV 1 hts gX5_predicted_X5_failed rfl rfl rfl (by decide +kernel) ⟨Nat.le_of_ble_eq_true rfl, Nat.le_of_ble_eq_true rfl⟩) (k_recv hK hw kM_10 rfl rfl) hK hN hZ hA hw (Nat.zero_le _) (Nat.zero_le _) rfl hl.1 rfl (Nat.le_of_ble_eq_true rfl) dX5_predicted_35 (fun H locs hw => ?_)
    refine W.eq (g2 := F0 m 38 ls [.int (bI ((fX5_failed (uI S 10 0 0 (0 : Int32)) (1 : Int32)).1))]) rfl ?_
    exact k_zret (r := (fX5_failed (uI S 10 0 0 (0 : Int32)) (1 : Int32)).1) hx hb hr hlocks hK hw (congrArg (fun z : Bool × uS => some (Value.int (bI (z.1)))) (show (fX5_predicted S F1 x1 x2) = ((fX5_failed (uI S 10 0 0 (0 : Int32)) (1 : Int32)).1, ((fX5_failed (uI S 10 0 0 (0 : Int32)) (1 : Int32)).2)) from by unfold fX5_predicted; rw [if_pos c_1])) (congrArg (a₁ := (fX5_predicted S F1 x1 x2)) (a₂ := ((fX5_failed (uI S 10 0 0 (0 : Int32)) (1 : Int32)).1, ((fX5_failed (uI S 10 0 0 (0 : Int32)) (1 : Int32)).2))) (fun z : Bool × uS => z.2) (show (fX5_predicted S F1 x1 x2) = ((fX5_failed (uI S 10 0 0 (0 : Int32)) (1 : Int32)).1, ((fX5_failed (uI S 10 0 0 (0 : Int32)) (1 : Int32)).2)) from by unfold fX5_predicted; rw [if_pos c_1])) dX5_predicted_38
  · skip
    refine lv_iload_n hx hb dX5_predicted_13 rfl (lv_at hl 2 rfl) ?_
    refine k_callS (n := 1) (rest := []) ⟨hx, hb, hml, hown, hts⟩ (cX5c_isKind l G Z (uI S 10 0 0 (0 : Int32)) x2) (va_cwS 1 hts gX5_predicted_X5_isKind rfl rfl rfl (by decide +kernel) ⟨Nat.le_of_ble_eq_true rfl, Nat.le_of_ble_eq_true rfl⟩) hK hN hZ hA hw (Nat.zero_le _) (Nat.zero_le _) rfl hl.1 rfl (Nat.le_of_ble_eq_true rfl) dX5_predicted_14 (fun H locs hw => ?_)
    refine W.eq (g2 := F0 m 17 ls [.int (bI ((fX5_isKind (uI S 10 0 0 (0 : Int32)) x2)))]) rfl ?_
    refine k_topz (z := (fX5_isKind S x2)) (rfl) ?_
    refine k_if_eq (b := (fX5_isKind S x2)) (tgt := 33) hx hb dX5_predicted_17 (by decide) (fun c_2 => ?_) (fun c_2 => ?_)
    · skip
      refine lv_aload_n hx hb dX5_predicted_33 rfl (lv_at hl 0 rfl) ?_
      refine lv_iconst (v := 1) hx hb dX5_predicted_34 (by decide) ?_
      refine k_callV (C := RX5) (n := 1) (rest := []) ⟨hx, hb, hml, hown, hts⟩ (cX5c_failed l G Z (uI S 10 0 0 (0 : Int32)) (1 : Int32)) (cwV 1 hts gX5_predicted_X5_failed rfl rfl rfl (by decide +kernel) ⟨Nat.le_of_ble_eq_true rfl, Nat.le_of_ble_eq_true rfl⟩) (k_recv hK hw kM_10 rfl rfl) hK hN hZ hA hw (Nat.zero_le _) (Nat.zero_le _) rfl hl.1 rfl (Nat.le_of_ble_eq_true rfl) dX5_predicted_35 (fun H locs hw => ?_)
      refine W.eq (g2 := F0 m 38 ls [.int (bI ((fX5_failed (uI S 10 0 0 (0 : Int32)) (1 : Int32)).1))]) rfl ?_
      exact k_zret (r := (fX5_failed (uI S 10 0 0 (0 : Int32)) (1 : Int32)).1) hx hb hr hlocks hK hw (congrArg (fun z : Bool × uS => some (Value.int (bI (z.1)))) (show (fX5_predicted S F1 x1 x2) = ((fX5_failed (uI S 10 0 0 (0 : Int32)) (1 : Int32)).1, ((fX5_failed (uI S 10 0 0 (0 : Int32)) (1 : Int32)).2)) from by unfold fX5_predicted; rw [if_neg c_1, if_pos c_2])) (congrArg (a₁ := (fX5_predicted S F1 x1 x2)) (a₂ := ((fX5_failed (uI S 10 0 0 (0 : Int32)) (1 : Int32)).1, ((fX5_failed (uI S 10 0 0 (0 : Int32)) (1 : Int32)).2))) (fun z : Bool × uS => z.2) (show (fX5_predicted S F1 x1 x2) = ((fX5_failed (uI S 10 0 0 (0 : Int32)) (1 : Int32)).1, ((fX5_failed (uI S 10 0 0 (0 : Int32)) (1 : Int32)).2)) from by unfold fX5_predicted; rw [if_neg c_1, if_pos c_2])) dX5_predicted_38
    · skip
      refine lv_aload_n hx hb dX5_predicted_20 rfl (lv_at hl 0 rfl) ?_
      refine g_10_10 hx hb hts hiX5 hown hK hw kM_10 (hts (.fieldLink RX5 22 "BranchPredictorModel" "predictions" "[Z") (by decide +kernel)) dX5_predicted_21 ?_
      refine lv_iconst (v := 4) hx hb dX5_predicted_24 (by decide) ?_
      refine lv_iload_n hx hb dX5_predicted_25 rfl (lv_at hl 1 rfl) ?_
      obtain ⟨h_e, h_j⟩ := m_fl h_F1 h_F1b c_1
      refine k_topi (z := nI (x1.toNatClampNeg)) (h_e) ?_
      refine lv_imul hx hb dX5_predicted_26 ?_
      refine k_topi (z := nI (4 * x1.toNatClampNeg)) (pk_mul 4 (x1.toNatClampNeg)) ?_
      refine lv_iload_n hx hb dX5_predicted_27 rfl (lv_at hl 2 rfl) ?_
      obtain ⟨h_ex2, h_k⟩ := m_kind c_2
      refine k_topi (z := nI (x2.toNatClampNeg)) (h_ex2) ?_
      refine lv_iadd hx hb dX5_predicted_28 ?_
      refine k_topi (z := nI (4 * x1.toNatClampNeg + x2.toNatClampNeg)) (nI_add (4 * x1.toNatClampNeg) (x2.toNatClampNeg)) ?_
      refine ld_12_0 hx hb hK hw kM_12_0 (vp_in_nI (by first | omega | (split <;> omega)) (by decide)) dX5_predicted_29 ?_
      refine k_topz (z := (uI S 10 0 0 (0 : Int32)).2.2 12 0 (4 * x1.toNatClampNeg + x2.toNatClampNeg)) (by rw [nI_clamp (show 4 * x1.toNatClampNeg + x2.toNatClampNeg < 2 ^ 31 from by first | omega | (split <;> omega))]) ?_
      refine k_topz (z := S.2.2 12 0 (4 * x1.toNatClampNeg + x2.toNatClampNeg)) (by simp [uI, uL, uF]) ?_
      refine lv_goto (tgt := 38) hx hb dX5_predicted_30 (by decide) ?_
      exact k_zret (r := S.2.2 12 0 (4 * x1.toNatClampNeg + x2.toNatClampNeg)) hx hb hr hlocks hK hw (congrArg (fun z : Bool × uS => some (Value.int (bI (z.1)))) (show (fX5_predicted S F1 x1 x2) = (S.2.2 12 0 (4 * x1.toNatClampNeg + x2.toNatClampNeg), (uI S 10 0 0 (0 : Int32))) from by unfold fX5_predicted; rw [if_neg c_1, if_neg c_2])) (congrArg (a₁ := (fX5_predicted S F1 x1 x2)) (a₂ := (S.2.2 12 0 (4 * x1.toNatClampNeg + x2.toNatClampNeg), (uI S 10 0 0 (0 : Int32)))) (fun z : Bool × uS => z.2) (show (fX5_predicted S F1 x1 x2) = (S.2.2 12 0 (4 * x1.toNatClampNeg + x2.toNatClampNeg), (uI S 10 0 0 (0 : Int32))) from by unfold fX5_predicted; rw [if_neg c_1, if_neg c_2])) dX5_predicted_38
def fX5_counter (S : uS) (P1 : Nat) (Q1 : Nat) (x1 : Int32) (x2 : Int32) : Int32 × uS :=
  if x2 < (0 : Int32) then ((fX5_fail (uI S 10 0 0 (0 : Int32)) (1 : Int32)).1, ((fX5_fail (uI S 10 0 0 (0 : Int32)) (1 : Int32)).2))
  else if (fX5_sizeOf S x1) ≤ x2 then ((fX5_fail (uI S 10 0 0 (0 : Int32)) (1 : Int32)).1, ((fX5_fail (uI S 10 0 0 (0 : Int32)) (1 : Int32)).2))
    else (S.1 11 0 (256 * x1.toNatClampNeg + x2.toNatClampNeg), (uI S 10 0 0 (0 : Int32)))
abbrev rmX5_counter : Room := { frames := 1, cells := 0, slots := 0, locals := 21 }
set_option maxHeartbeats 4000000 in
set_option maxRecDepth 100000 in
theorem cX5c_counter (l : Launch) (G : gG) (Z : va_W) (S : uS) (P1 : Nat) (h_P1 : S.1 10 0 1 = nI P1) (h_P1b : P1 ≤ 8) (Q1 : Nat) (h_Q1 : S.1 10 0 2 = nI Q1) (h_Q1b : Q1 ≤ 8) (x1 : Int32) (x2 : Int32) : kMet l yX5_counter wsX5_counter rmX5_counter G kM Z S [.ref (G.2.2 (10, 0)), .int (x1), .int (x2)] (some (.int ((fX5_counter S P1 Q1 x1 x2).1))) ((fX5_counter S P1 Q1 x1 x2).2) := by
  refine kMet_of (cc := cX5_counter) (maxL := 3) (ret := (some .int)) (by decide) rfl (Nat.le_of_ble_eq_true rfl) ?_
  intro p e s m below meth c hx hb hr hml hlocks hts hown hK hN A hZ hA H locs hw ls hl
  have hl : lv_has ls 3 [(0, .ref (G.2.2 (10, 0))), (1, .int (x1)), (2, .int (x2))] := hl
  have hiX5 : ∀ w ∈ wsX50, w ∈ wsX5_counter := by decide +kernel
  refine lv_aload_n hx hb dX5_counter_0 rfl (lv_at hl 0 rfl) ?_
  refine lv_iconst (v := 0) hx hb dX5_counter_1 (by decide) ?_
  refine p_10_0 (v := (0 : Int32)) hx hb hts hiX5 hown hK hw kM_10 (hts (.fieldLink RX5 58 "BranchPredictorModel" "thrown" "I") (by decide +kernel)) dX5_counter_2 (fun H locs hw => ?_)
  refine lv_iload_n hx hb dX5_counter_5 rfl (lv_at hl 2 rfl) ?_
  refine lv_if_lt (x := x2) (tgt := 33) hx hb dX5_counter_6 (by decide) (fun c_1 => ?_) (fun c_1 => ?_)
  · skip
    refine lv_aload_n hx hb dX5_counter_33 rfl (lv_at hl 0 rfl) ?_
    refine lv_iconst (v := 1) hx hb dX5_counter_34 (by decide) ?_
    refine k_callV (C := RX5) (n := 1) (rest := []) ⟨hx, hb, hml, hown, hts⟩ (cX5c_fail l G Z (uI S 10 0 0 (0 : Int32)) (1 : Int32)) (cwV 1 hts gX5_counter_X5_fail rfl rfl rfl (by decide +kernel) ⟨Nat.le_of_ble_eq_true rfl, Nat.le_of_ble_eq_true rfl⟩) (k_recv hK hw kM_10 rfl rfl) hK hN hZ hA hw (Nat.zero_le _) (Nat.zero_le _) rfl hl.1 rfl (Nat.le_of_ble_eq_true rfl) dX5_counter_35 (fun H locs hw => ?_)
    refine W.eq (g2 := F0 m 38 ls [.int ((fX5_fail (uI S 10 0 0 (0 : Int32)) (1 : Int32)).1)]) rfl ?_
    exact k_iret hx hb hr hlocks hK hw (congrArg (fun z : Int32 × uS => some (Value.int (z.1))) (show (fX5_counter S P1 Q1 x1 x2) = ((fX5_fail (uI S 10 0 0 (0 : Int32)) (1 : Int32)).1, ((fX5_fail (uI S 10 0 0 (0 : Int32)) (1 : Int32)).2)) from by unfold fX5_counter; rw [if_pos c_1])) (congrArg (a₁ := (fX5_counter S P1 Q1 x1 x2)) (a₂ := ((fX5_fail (uI S 10 0 0 (0 : Int32)) (1 : Int32)).1, ((fX5_fail (uI S 10 0 0 (0 : Int32)) (1 : Int32)).2))) (fun z : Int32 × uS => z.2) (show (fX5_counter S P1 Q1 x1 x2) = ((fX5_fail (uI S 10 0 0 (0 : Int32)) (1 : Int32)).1, ((fX5_fail (uI S 10 0 0 (0 : Int32)) (1 : Int32)).2)) from by unfold fX5_counter; rw [if_pos c_1])) dX5_counter_38
  · skip
    refine lv_iload_n hx hb dX5_counter_9 rfl (lv_at hl 2 rfl) ?_
    refine lv_aload_n hx hb dX5_counter_10 rfl (lv_at hl 0 rfl) ?_
    refine lv_iload_n hx hb dX5_counter_11 rfl (lv_at hl 1 rfl) ?_
    refine k_callV (C := RX5) (n := 1) (rest := [.int (x2)]) ⟨hx, hb, hml, hown, hts⟩ (cX5c_sizeOf l G Z (uI S 10 0 0 (0 : Int32)) x1) (cwV 1 hts gX5_counter_X5_sizeOf rfl rfl rfl (by decide +kernel) ⟨Nat.le_of_ble_eq_true rfl, Nat.le_of_ble_eq_true rfl⟩) (k_recv hK hw kM_10 rfl rfl) hK hN hZ hA hw (Nat.zero_le _) (Nat.zero_le _) rfl hl.1 rfl (Nat.le_of_ble_eq_true rfl) dX5_counter_12 (fun H locs hw => ?_)
    refine W.eq (g2 := F0 m 15 ls [.int ((fX5_sizeOf (uI S 10 0 0 (0 : Int32)) x1)), .int (x2)]) rfl ?_
    refine k_topi (z := (fX5_sizeOf S x1)) (by first | rfl | simp [fX5_sizeOf, uI, uL, uF]) ?_
    refine lv_icmp_ge (tgt := 33) hx hb dX5_counter_15 (by decide) (fun c_2 => ?_) (fun c_2 => ?_)
    · skip
      refine lv_aload_n hx hb dX5_counter_33 rfl (lv_at hl 0 rfl) ?_
      refine lv_iconst (v := 1) hx hb dX5_counter_34 (by decide) ?_
      refine k_callV (C := RX5) (n := 1) (rest := []) ⟨hx, hb, hml, hown, hts⟩ (cX5c_fail l G Z (uI S 10 0 0 (0 : Int32)) (1 : Int32)) (cwV 1 hts gX5_counter_X5_fail rfl rfl rfl (by decide +kernel) ⟨Nat.le_of_ble_eq_true rfl, Nat.le_of_ble_eq_true rfl⟩) (k_recv hK hw kM_10 rfl rfl) hK hN hZ hA hw (Nat.zero_le _) (Nat.zero_le _) rfl hl.1 rfl (Nat.le_of_ble_eq_true rfl) dX5_counter_35 (fun H locs hw => ?_)
      refine W.eq (g2 := F0 m 38 ls [.int ((fX5_fail (uI S 10 0 0 (0 : Int32)) (1 : Int32)).1)]) rfl ?_
      exact k_iret hx hb hr hlocks hK hw (congrArg (fun z : Int32 × uS => some (Value.int (z.1))) (show (fX5_counter S P1 Q1 x1 x2) = ((fX5_fail (uI S 10 0 0 (0 : Int32)) (1 : Int32)).1, ((fX5_fail (uI S 10 0 0 (0 : Int32)) (1 : Int32)).2)) from by unfold fX5_counter; rw [if_neg c_1, if_pos c_2])) (congrArg (a₁ := (fX5_counter S P1 Q1 x1 x2)) (a₂ := ((fX5_fail (uI S 10 0 0 (0 : Int32)) (1 : Int32)).1, ((fX5_fail (uI S 10 0 0 (0 : Int32)) (1 : Int32)).2))) (fun z : Int32 × uS => z.2) (show (fX5_counter S P1 Q1 x1 x2) = ((fX5_fail (uI S 10 0 0 (0 : Int32)) (1 : Int32)).1, ((fX5_fail (uI S 10 0 0 (0 : Int32)) (1 : Int32)).2)) from by unfold fX5_counter; rw [if_neg c_1, if_pos c_2])) dX5_counter_38
    · skip
      refine lv_aload_n hx hb dX5_counter_18 rfl (lv_at hl 0 rfl) ?_
      refine g_10_5 hx hb hts hiX5 hown hK hw kM_10 (hts (.fieldLink RX5 9 "BranchPredictorModel" "counters" "[I") (by decide +kernel)) dX5_counter_19 ?_
      refine lv_sipush (v := 256) hx hb dX5_counter_22 (by decide) ?_
      refine lv_iload_n hx hb dX5_counter_25 rfl (lv_at hl 1 rfl) ?_
      obtain ⟨⟨h_ex, h_a⟩, h_ey, h_b⟩ := m_cnt h_P1 h_P1b h_Q1 h_Q1b c_1 c_2
      have h_c : 2 ^ (if x1.toNatClampNeg = 1 then Q1 else P1) ≤ 256 := by split <;> exact m_pw _ (by omega)
      refine k_topi (z := nI (x1.toNatClampNeg)) (h_ex) ?_
      refine lv_imul hx hb dX5_counter_26 ?_
      refine k_topi (z := nI (256 * x1.toNatClampNeg)) (pk_mul 256 (x1.toNatClampNeg)) ?_
      refine lv_iload_n hx hb dX5_counter_27 rfl (lv_at hl 2 rfl) ?_
      refine k_topi (z := nI (x2.toNatClampNeg)) (h_ey) ?_
      refine lv_iadd hx hb dX5_counter_28 ?_
      refine k_topi (z := nI (256 * x1.toNatClampNeg + x2.toNatClampNeg)) (nI_add (256 * x1.toNatClampNeg) (x2.toNatClampNeg)) ?_
      refine ld_11_0 hx hb hK hw kM_11_0 (vp_in_nI (by first | omega | (split <;> omega)) (by decide)) dX5_counter_29 ?_
      refine k_topi (z := (uI S 10 0 0 (0 : Int32)).1 11 0 (256 * x1.toNatClampNeg + x2.toNatClampNeg)) (by rw [nI_clamp (show 256 * x1.toNatClampNeg + x2.toNatClampNeg < 2 ^ 31 from by first | omega | (split <;> omega))]) ?_
      refine k_topi (z := S.1 11 0 (256 * x1.toNatClampNeg + x2.toNatClampNeg)) (by simp [uI, uL, uF]) ?_
      refine lv_goto (tgt := 38) hx hb dX5_counter_30 (by decide) ?_
      exact k_iret hx hb hr hlocks hK hw (congrArg (fun z : Int32 × uS => some (Value.int (z.1))) (show (fX5_counter S P1 Q1 x1 x2) = (S.1 11 0 (256 * x1.toNatClampNeg + x2.toNatClampNeg), (uI S 10 0 0 (0 : Int32))) from by unfold fX5_counter; rw [if_neg c_1, if_neg c_2])) (congrArg (a₁ := (fX5_counter S P1 Q1 x1 x2)) (a₂ := (S.1 11 0 (256 * x1.toNatClampNeg + x2.toNatClampNeg), (uI S 10 0 0 (0 : Int32)))) (fun z : Int32 × uS => z.2) (show (fX5_counter S P1 Q1 x1 x2) = (S.1 11 0 (256 * x1.toNatClampNeg + x2.toNatClampNeg), (uI S 10 0 0 (0 : Int32))) from by unfold fX5_counter; rw [if_neg c_1, if_neg c_2])) dX5_counter_38
def fX5_loop (S : uS) (F1 : Nat) (x1 : Int32) (x2 : Int32) : Int32 × uS :=
  if x1 < (0 : Int32) then ((fX5_fail (uI S 10 0 0 (0 : Int32)) (1 : Int32)).1, ((fX5_fail (uI S 10 0 0 (0 : Int32)) (1 : Int32)).2))
  else if (8 : Int32) ≤ x1 then ((fX5_fail (uI S 10 0 0 (0 : Int32)) (1 : Int32)).1, ((fX5_fail (uI S 10 0 0 (0 : Int32)) (1 : Int32)).2))
    else if x2 < (0 : Int32) then ((fX5_fail (uI S 10 0 0 (0 : Int32)) (1 : Int32)).1, ((fX5_fail (uI S 10 0 0 (0 : Int32)) (1 : Int32)).2))
      else if (4 : Int32) < x2 then ((fX5_fail (uI S 10 0 0 (0 : Int32)) (1 : Int32)).1, ((fX5_fail (uI S 10 0 0 (0 : Int32)) (1 : Int32)).2))
        else ((fX5_ofLoop S F1 (x1.toNatClampNeg) x2), (uI S 10 0 0 (0 : Int32)))
abbrev rmX5_loop : Room := { frames := 3, cells := 0, slots := 0, locals := 66 }
set_option maxHeartbeats 4000000 in
set_option maxRecDepth 100000 in
theorem cX5c_loop (l : Launch) (G : gG) (Z : va_W) (S : uS) (F1 : Nat) (h_F1 : S.1 10 0 7 = nI F1) (h_F1b : F1 ≤ 16) (x1 : Int32) (x2 : Int32) : kMet l yX5_loop wsX5_loop rmX5_loop G kM Z S [.ref (G.2.2 (10, 0)), .int (x1), .int (x2)] (some (.int ((fX5_loop S F1 x1 x2).1))) ((fX5_loop S F1 x1 x2).2) := by
  refine kMet_of (cc := cX5_loop) (maxL := 3) (ret := (some .int)) (by decide) rfl (Nat.le_of_ble_eq_true rfl) ?_
  intro p e s m below meth c hx hb hr hml hlocks hts hown hK hN A hZ hA H locs hw ls hl
  have hl : lv_has ls 3 [(0, .ref (G.2.2 (10, 0))), (1, .int (x1)), (2, .int (x2))] := hl
  have hiX5 : ∀ w ∈ wsX50, w ∈ wsX5_loop := by decide +kernel
  refine lv_aload_n hx hb dX5_loop_0 rfl (lv_at hl 0 rfl) ?_
  refine lv_iconst (v := 0) hx hb dX5_loop_1 (by decide) ?_
  refine p_10_0 (v := (0 : Int32)) hx hb hts hiX5 hown hK hw kM_10 (hts (.fieldLink RX5 58 "BranchPredictorModel" "thrown" "I") (by decide +kernel)) dX5_loop_2 (fun H locs hw => ?_)
  refine lv_iload_n hx hb dX5_loop_5 rfl (lv_at hl 1 rfl) ?_
  refine lv_if_lt (x := x1) (tgt := 33) hx hb dX5_loop_6 (by decide) (fun c_1 => ?_) (fun c_1 => ?_)
  · skip
    refine lv_aload_n hx hb dX5_loop_33 rfl (lv_at hl 0 rfl) ?_
    refine lv_iconst (v := 1) hx hb dX5_loop_34 (by decide) ?_
    refine k_callV (C := RX5) (n := 1) (rest := []) ⟨hx, hb, hml, hown, hts⟩ (cX5c_fail l G Z (uI S 10 0 0 (0 : Int32)) (1 : Int32)) (cwV 1 hts gX5_loop_X5_fail rfl rfl rfl (by decide +kernel) ⟨Nat.le_of_ble_eq_true rfl, Nat.le_of_ble_eq_true rfl⟩) (k_recv hK hw kM_10 rfl rfl) hK hN hZ hA hw (Nat.zero_le _) (Nat.zero_le _) rfl hl.1 rfl (Nat.le_of_ble_eq_true rfl) dX5_loop_35 (fun H locs hw => ?_)
    refine W.eq (g2 := F0 m 38 ls [.int ((fX5_fail (uI S 10 0 0 (0 : Int32)) (1 : Int32)).1)]) rfl ?_
    exact k_iret hx hb hr hlocks hK hw (congrArg (fun z : Int32 × uS => some (Value.int (z.1))) (show (fX5_loop S F1 x1 x2) = ((fX5_fail (uI S 10 0 0 (0 : Int32)) (1 : Int32)).1, ((fX5_fail (uI S 10 0 0 (0 : Int32)) (1 : Int32)).2)) from by unfold fX5_loop; rw [if_pos c_1])) (congrArg (a₁ := (fX5_loop S F1 x1 x2)) (a₂ := ((fX5_fail (uI S 10 0 0 (0 : Int32)) (1 : Int32)).1, ((fX5_fail (uI S 10 0 0 (0 : Int32)) (1 : Int32)).2))) (fun z : Int32 × uS => z.2) (show (fX5_loop S F1 x1 x2) = ((fX5_fail (uI S 10 0 0 (0 : Int32)) (1 : Int32)).1, ((fX5_fail (uI S 10 0 0 (0 : Int32)) (1 : Int32)).2)) from by unfold fX5_loop; rw [if_pos c_1])) dX5_loop_38
  · skip
    refine lv_iload_n hx hb dX5_loop_9 rfl (lv_at hl 1 rfl) ?_
    refine lv_bipush (v := 8) hx hb dX5_loop_10 (by decide) ?_
    refine lv_icmp_ge (tgt := 33) hx hb dX5_loop_12 (by decide) (fun c_2 => ?_) (fun c_2 => ?_)
    · skip
      refine lv_aload_n hx hb dX5_loop_33 rfl (lv_at hl 0 rfl) ?_
      refine lv_iconst (v := 1) hx hb dX5_loop_34 (by decide) ?_
      refine k_callV (C := RX5) (n := 1) (rest := []) ⟨hx, hb, hml, hown, hts⟩ (cX5c_fail l G Z (uI S 10 0 0 (0 : Int32)) (1 : Int32)) (cwV 1 hts gX5_loop_X5_fail rfl rfl rfl (by decide +kernel) ⟨Nat.le_of_ble_eq_true rfl, Nat.le_of_ble_eq_true rfl⟩) (k_recv hK hw kM_10 rfl rfl) hK hN hZ hA hw (Nat.zero_le _) (Nat.zero_le _) rfl hl.1 rfl (Nat.le_of_ble_eq_true rfl) dX5_loop_35 (fun H locs hw => ?_)
      refine W.eq (g2 := F0 m 38 ls [.int ((fX5_fail (uI S 10 0 0 (0 : Int32)) (1 : Int32)).1)]) rfl ?_
      exact k_iret hx hb hr hlocks hK hw (congrArg (fun z : Int32 × uS => some (Value.int (z.1))) (show (fX5_loop S F1 x1 x2) = ((fX5_fail (uI S 10 0 0 (0 : Int32)) (1 : Int32)).1, ((fX5_fail (uI S 10 0 0 (0 : Int32)) (1 : Int32)).2)) from by unfold fX5_loop; rw [if_neg c_1, if_pos c_2])) (congrArg (a₁ := (fX5_loop S F1 x1 x2)) (a₂ := ((fX5_fail (uI S 10 0 0 (0 : Int32)) (1 : Int32)).1, ((fX5_fail (uI S 10 0 0 (0 : Int32)) (1 : Int32)).2))) (fun z : Int32 × uS => z.2) (show (fX5_loop S F1 x1 x2) = ((fX5_fail (uI S 10 0 0 (0 : Int32)) (1 : Int32)).1, ((fX5_fail (uI S 10 0 0 (0 : Int32)) (1 : Int32)).2)) from by unfold fX5_loop; rw [if_neg c_1, if_pos c_2])) dX5_loop_38
    · skip
      refine lv_iload_n hx hb dX5_loop_15 rfl (lv_at hl 2 rfl) ?_
      refine lv_if_lt (x := x2) (tgt := 33) hx hb dX5_loop_16 (by decide) (fun c_3 => ?_) (fun c_3 => ?_)
      · skip
        refine lv_aload_n hx hb dX5_loop_33 rfl (lv_at hl 0 rfl) ?_
        refine lv_iconst (v := 1) hx hb dX5_loop_34 (by decide) ?_
        refine k_callV (C := RX5) (n := 1) (rest := []) ⟨hx, hb, hml, hown, hts⟩ (cX5c_fail l G Z (uI S 10 0 0 (0 : Int32)) (1 : Int32)) (cwV 1 hts gX5_loop_X5_fail rfl rfl rfl (by decide +kernel) ⟨Nat.le_of_ble_eq_true rfl, Nat.le_of_ble_eq_true rfl⟩) (k_recv hK hw kM_10 rfl rfl) hK hN hZ hA hw (Nat.zero_le _) (Nat.zero_le _) rfl hl.1 rfl (Nat.le_of_ble_eq_true rfl) dX5_loop_35 (fun H locs hw => ?_)
        refine W.eq (g2 := F0 m 38 ls [.int ((fX5_fail (uI S 10 0 0 (0 : Int32)) (1 : Int32)).1)]) rfl ?_
        exact k_iret hx hb hr hlocks hK hw (congrArg (fun z : Int32 × uS => some (Value.int (z.1))) (show (fX5_loop S F1 x1 x2) = ((fX5_fail (uI S 10 0 0 (0 : Int32)) (1 : Int32)).1, ((fX5_fail (uI S 10 0 0 (0 : Int32)) (1 : Int32)).2)) from by unfold fX5_loop; rw [if_neg c_1, if_neg c_2, if_pos c_3])) (congrArg (a₁ := (fX5_loop S F1 x1 x2)) (a₂ := ((fX5_fail (uI S 10 0 0 (0 : Int32)) (1 : Int32)).1, ((fX5_fail (uI S 10 0 0 (0 : Int32)) (1 : Int32)).2))) (fun z : Int32 × uS => z.2) (show (fX5_loop S F1 x1 x2) = ((fX5_fail (uI S 10 0 0 (0 : Int32)) (1 : Int32)).1, ((fX5_fail (uI S 10 0 0 (0 : Int32)) (1 : Int32)).2)) from by unfold fX5_loop; rw [if_neg c_1, if_neg c_2, if_pos c_3])) dX5_loop_38
      · skip
        refine lv_iload_n hx hb dX5_loop_19 rfl (lv_at hl 2 rfl) ?_
        refine lv_iconst (v := 4) hx hb dX5_loop_20 (by decide) ?_
        refine lv_icmp_gt (tgt := 33) hx hb dX5_loop_21 (by decide) (fun c_4 => ?_) (fun c_4 => ?_)
        · skip
          refine lv_aload_n hx hb dX5_loop_33 rfl (lv_at hl 0 rfl) ?_
          refine lv_iconst (v := 1) hx hb dX5_loop_34 (by decide) ?_
          refine k_callV (C := RX5) (n := 1) (rest := []) ⟨hx, hb, hml, hown, hts⟩ (cX5c_fail l G Z (uI S 10 0 0 (0 : Int32)) (1 : Int32)) (cwV 1 hts gX5_loop_X5_fail rfl rfl rfl (by decide +kernel) ⟨Nat.le_of_ble_eq_true rfl, Nat.le_of_ble_eq_true rfl⟩) (k_recv hK hw kM_10 rfl rfl) hK hN hZ hA hw (Nat.zero_le _) (Nat.zero_le _) rfl hl.1 rfl (Nat.le_of_ble_eq_true rfl) dX5_loop_35 (fun H locs hw => ?_)
          refine W.eq (g2 := F0 m 38 ls [.int ((fX5_fail (uI S 10 0 0 (0 : Int32)) (1 : Int32)).1)]) rfl ?_
          exact k_iret hx hb hr hlocks hK hw (congrArg (fun z : Int32 × uS => some (Value.int (z.1))) (show (fX5_loop S F1 x1 x2) = ((fX5_fail (uI S 10 0 0 (0 : Int32)) (1 : Int32)).1, ((fX5_fail (uI S 10 0 0 (0 : Int32)) (1 : Int32)).2)) from by unfold fX5_loop; rw [if_neg c_1, if_neg c_2, if_neg c_3, if_pos c_4])) (congrArg (a₁ := (fX5_loop S F1 x1 x2)) (a₂ := ((fX5_fail (uI S 10 0 0 (0 : Int32)) (1 : Int32)).1, ((fX5_fail (uI S 10 0 0 (0 : Int32)) (1 : Int32)).2))) (fun z : Int32 × uS => z.2) (show (fX5_loop S F1 x1 x2) = ((fX5_fail (uI S 10 0 0 (0 : Int32)) (1 : Int32)).1, ((fX5_fail (uI S 10 0 0 (0 : Int32)) (1 : Int32)).2)) from by unfold fX5_loop; rw [if_neg c_1, if_neg c_2, if_neg c_3, if_pos c_4])) dX5_loop_38
        · skip
          refine lv_aload_n hx hb dX5_loop_24 rfl (lv_at hl 0 rfl) ?_
          refine lv_iload_n hx hb dX5_loop_25 rfl (lv_at hl 1 rfl) ?_
          refine k_topi (z := nI (x1.toNatClampNeg)) (i_nI c_1) ?_
          refine lv_iload_n hx hb dX5_loop_26 rfl (lv_at hl 2 rfl) ?_
          refine k_callV (C := RX5) (n := 2) (rest := []) ⟨hx, hb, hml, hown, hts⟩ (cX5c_ofLoop l G Z (uI S 10 0 0 (0 : Int32)) F1 h_F1 h_F1b (x1.toNatClampNeg) (i_ltn (n := 8) c_1 c_2 (by decide)) x2) (cwV 2 hts gX5_loop_X5_ofLoop rfl rfl rfl (by decide +kernel) ⟨Nat.le_of_ble_eq_true rfl, Nat.le_of_ble_eq_true rfl⟩) (k_recv hK hw kM_10 rfl rfl) hK hN hZ hA hw (Nat.zero_le _) (Nat.zero_le _) rfl hl.1 rfl (Nat.le_of_ble_eq_true rfl) dX5_loop_27 (fun H locs hw => ?_)
          refine W.eq (g2 := F0 m 30 ls [.int ((fX5_ofLoop (uI S 10 0 0 (0 : Int32)) F1 (x1.toNatClampNeg) x2))]) rfl ?_
          refine k_topi (z := (fX5_ofLoop S F1 (x1.toNatClampNeg) x2)) (by rw [fX5_ofLoop_t]) ?_
          refine lv_goto (tgt := 38) hx hb dX5_loop_30 (by decide) ?_
          exact k_iret hx hb hr hlocks hK hw (congrArg (fun z : Int32 × uS => some (Value.int (z.1))) (show (fX5_loop S F1 x1 x2) = ((fX5_ofLoop S F1 (x1.toNatClampNeg) x2), (uI S 10 0 0 (0 : Int32))) from by unfold fX5_loop; rw [if_neg c_1, if_neg c_2, if_neg c_3, if_neg c_4])) (congrArg (a₁ := (fX5_loop S F1 x1 x2)) (a₂ := ((fX5_ofLoop S F1 (x1.toNatClampNeg) x2), (uI S 10 0 0 (0 : Int32)))) (fun z : Int32 × uS => z.2) (show (fX5_loop S F1 x1 x2) = ((fX5_ofLoop S F1 (x1.toNatClampNeg) x2), (uI S 10 0 0 (0 : Int32))) from by unfold fX5_loop; rw [if_neg c_1, if_neg c_2, if_neg c_3, if_neg c_4])) dX5_loop_38
def fX5_misses (S : uS) (x1 : Int32) : Int64 × uS :=
  if (fX5_isKind S x1) = false then (((fX5_fail (uI S 10 0 0 (0 : Int32)) (1 : Int32)).1).toInt64, ((fX5_fail (uI S 10 0 0 (0 : Int32)) (1 : Int32)).2))
  else (S.2.1 13 0 (x1.toNatClampNeg), (uI S 10 0 0 (0 : Int32)))
abbrev rmX5_misses : Room := { frames := 1, cells := 0, slots := 0, locals := 21 }
set_option maxHeartbeats 4000000 in
set_option maxRecDepth 100000 in
theorem cX5c_misses (l : Launch) (G : gG) (Z : va_W) (S : uS) (x1 : Int32) : kMet l yX5_misses wsX5_misses rmX5_misses G kM Z S [.ref (G.2.2 (10, 0)), .int (x1)] (some (.long ((fX5_misses S x1).1))) ((fX5_misses S x1).2) := by
  refine kMet_of (cc := cX5_misses) (maxL := 2) (ret := (some .long)) (by decide) rfl (Nat.le_of_ble_eq_true rfl) ?_
  intro p e s m below meth c hx hb hr hml hlocks hts hown hK hN A hZ hA H locs hw ls hl
  have hl : lv_has ls 2 [(0, .ref (G.2.2 (10, 0))), (1, .int (x1))] := hl
  have hiX5 : ∀ w ∈ wsX50, w ∈ wsX5_misses := by decide +kernel
  refine lv_aload_n hx hb dX5_misses_0 rfl (lv_at hl 0 rfl) ?_
  refine lv_iconst (v := 0) hx hb dX5_misses_1 (by decide) ?_
  refine p_10_0 (v := (0 : Int32)) hx hb hts hiX5 hown hK hw kM_10 (hts (.fieldLink RX5 58 "BranchPredictorModel" "thrown" "I") (by decide +kernel)) dX5_misses_2 (fun H locs hw => ?_)
  refine lv_iload_n hx hb dX5_misses_5 rfl (lv_at hl 1 rfl) ?_
  refine k_callS (n := 1) (rest := []) ⟨hx, hb, hml, hown, hts⟩ (cX5c_isKind l G Z (uI S 10 0 0 (0 : Int32)) x1) (va_cwS 1 hts gX5_misses_X5_isKind rfl rfl rfl (by decide +kernel) ⟨Nat.le_of_ble_eq_true rfl, Nat.le_of_ble_eq_true rfl⟩) hK hN hZ hA hw (Nat.zero_le _) (Nat.zero_le _) rfl hl.1 rfl (Nat.le_of_ble_eq_true rfl) dX5_misses_6 (fun H locs hw => ?_)
  refine W.eq (g2 := F0 m 9 ls [.int (bI ((fX5_isKind (uI S 10 0 0 (0 : Int32)) x1)))]) rfl ?_
  refine k_topz (z := (fX5_isKind S x1)) (rfl) ?_
  refine k_if_eq (b := (fX5_isKind S x1)) (tgt := 21) hx hb dX5_misses_9 (by decide) (fun c_1 => ?_) (fun c_1 => ?_)
  · skip
    refine lv_aload_n hx hb dX5_misses_21 rfl (lv_at hl 0 rfl) ?_
    refine lv_iconst (v := 1) hx hb dX5_misses_22 (by decide) ?_
    refine k_callV (C := RX5) (n := 1) (rest := []) ⟨hx, hb, hml, hown, hts⟩ (cX5c_fail l G Z (uI S 10 0 0 (0 : Int32)) (1 : Int32)) (cwV 1 hts gX5_misses_X5_fail rfl rfl rfl (by decide +kernel) ⟨Nat.le_of_ble_eq_true rfl, Nat.le_of_ble_eq_true rfl⟩) (k_recv hK hw kM_10 rfl rfl) hK hN hZ hA hw (Nat.zero_le _) (Nat.zero_le _) rfl hl.1 rfl (Nat.le_of_ble_eq_true rfl) dX5_misses_23 (fun H locs hw => ?_)
    refine W.eq (g2 := F0 m 26 ls [.int ((fX5_fail (uI S 10 0 0 (0 : Int32)) (1 : Int32)).1)]) rfl ?_
    refine lv_i2l (v := ((fX5_fail (uI S 10 0 0 (0 : Int32)) (1 : Int32)).1).toInt64) hx hb dX5_misses_26 rfl ?_
    exact k_lret hx hb hr hlocks hK hw (congrArg (fun z : Int64 × uS => some (Value.long (z.1))) (show (fX5_misses S x1) = (((fX5_fail (uI S 10 0 0 (0 : Int32)) (1 : Int32)).1).toInt64, ((fX5_fail (uI S 10 0 0 (0 : Int32)) (1 : Int32)).2)) from by unfold fX5_misses; rw [if_pos c_1])) (congrArg (a₁ := (fX5_misses S x1)) (a₂ := (((fX5_fail (uI S 10 0 0 (0 : Int32)) (1 : Int32)).1).toInt64, ((fX5_fail (uI S 10 0 0 (0 : Int32)) (1 : Int32)).2))) (fun z : Int64 × uS => z.2) (show (fX5_misses S x1) = (((fX5_fail (uI S 10 0 0 (0 : Int32)) (1 : Int32)).1).toInt64, ((fX5_fail (uI S 10 0 0 (0 : Int32)) (1 : Int32)).2)) from by unfold fX5_misses; rw [if_pos c_1])) dX5_misses_27
  · skip
    refine lv_aload_n hx hb dX5_misses_12 rfl (lv_at hl 0 rfl) ?_
    refine g_10_20 hx hb hts hiX5 hown hK hw kM_10 (hts (.fieldLink RX5 47 "BranchPredictorModel" "misses" "[J") (by decide +kernel)) dX5_misses_13 ?_
    refine lv_iload_n hx hb dX5_misses_16 rfl (lv_at hl 1 rfl) ?_
    obtain ⟨h_ex1, h_k⟩ := m_kind c_1
    refine k_topi (z := nI (x1.toNatClampNeg)) (h_ex1) ?_
    refine ld_13_0 hx hb hK hw kM_13_0 (vp_in_nI (by first | omega | (split <;> omega)) (by decide)) dX5_misses_17 ?_
    refine k_topl (z := (uI S 10 0 0 (0 : Int32)).2.1 13 0 (x1.toNatClampNeg)) (by rw [nI_clamp (show x1.toNatClampNeg < 2 ^ 31 from by first | omega | (split <;> omega))]) ?_
    refine k_topl (z := S.2.1 13 0 (x1.toNatClampNeg)) (by simp [uI, uL, uF]) ?_
    refine lv_goto (tgt := 27) hx hb dX5_misses_18 (by decide) ?_
    exact k_lret hx hb hr hlocks hK hw (congrArg (fun z : Int64 × uS => some (Value.long (z.1))) (show (fX5_misses S x1) = (S.2.1 13 0 (x1.toNatClampNeg), (uI S 10 0 0 (0 : Int32))) from by unfold fX5_misses; rw [if_neg c_1])) (congrArg (a₁ := (fX5_misses S x1)) (a₂ := (S.2.1 13 0 (x1.toNatClampNeg), (uI S 10 0 0 (0 : Int32)))) (fun z : Int64 × uS => z.2) (show (fX5_misses S x1) = (S.2.1 13 0 (x1.toNatClampNeg), (uI S 10 0 0 (0 : Int32))) from by unfold fX5_misses; rw [if_neg c_1])) dX5_misses_27
def fX5_meetings (S : uS) (x1 : Int32) (b1 : Bool) : Int64 × uS :=
  if x1 = (0 : Int32) then (S.2.1 13 1 (2 * 0 + (if b1 = false then 0 else 1)), (uI S 10 0 0 (0 : Int32)))
  else if x1 = (1 : Int32) then (S.2.1 13 1 (2 * 1 + (if b1 = false then 0 else 1)), (uI S 10 0 0 (0 : Int32)))
    else (((fX5_fail (uI S 10 0 0 (0 : Int32)) (1 : Int32)).1).toInt64, ((fX5_fail (uI S 10 0 0 (0 : Int32)) (1 : Int32)).2))
abbrev rmX5_meetings : Room := { frames := 1, cells := 0, slots := 0, locals := 21 }
set_option maxHeartbeats 4000000 in
set_option maxRecDepth 100000 in
theorem cX5c_meetings (l : Launch) (G : gG) (Z : va_W) (S : uS) (x1 : Int32) (b1 : Bool) : kMet l yX5_meetings wsX5_meetings rmX5_meetings G kM Z S [.ref (G.2.2 (10, 0)), .int (x1), .int (bI (b1))] (some (.long ((fX5_meetings S x1 b1).1))) ((fX5_meetings S x1 b1).2) := by
  refine kMet_of (cc := cX5_meetings) (maxL := 3) (ret := (some .long)) (by decide) rfl (Nat.le_of_ble_eq_true rfl) ?_
  intro p e s m below meth c hx hb hr hml hlocks hts hown hK hN A hZ hA H locs hw ls hl
  have hl : lv_has ls 3 [(0, .ref (G.2.2 (10, 0))), (1, .int (x1)), (2, .int (bI (b1)))] := hl
  have hiX5 : ∀ w ∈ wsX50, w ∈ wsX5_meetings := by decide +kernel
  refine lv_aload_n hx hb dX5_meetings_0 rfl (lv_at hl 0 rfl) ?_
  refine lv_iconst (v := 0) hx hb dX5_meetings_1 (by decide) ?_
  refine p_10_0 (v := (0 : Int32)) hx hb hts hiX5 hown hK hw kM_10 (hts (.fieldLink RX5 58 "BranchPredictorModel" "thrown" "I") (by decide +kernel)) dX5_meetings_2 (fun H locs hw => ?_)
  refine lv_iload_n hx hb dX5_meetings_5 rfl (lv_at hl 1 rfl) ?_
  refine lv_if_eq (x := x1) (tgt := 14) hx hb dX5_meetings_6 (by decide) (fun c_1 => ?_) (fun c_1 => ?_)
  · skip
    refine lv_aload_n hx hb dX5_meetings_14 rfl (lv_at hl 0 rfl) ?_
    refine g_10_21 hx hb hts hiX5 hown hK hw kM_10 (hts (.fieldLink RX5 51 "BranchPredictorModel" "meetings" "[J") (by decide +kernel)) dX5_meetings_15 ?_
    refine lv_iconst (v := 2) hx hb dX5_meetings_18 (by decide) ?_
    refine lv_iload_n hx hb dX5_meetings_19 rfl (lv_at hl 1 rfl) ?_
    refine k_topi (z := (0 : Int32)) (c_1) ?_
    refine lv_imul hx hb dX5_meetings_20 ?_
    refine k_topi (z := nI (2 * 0)) (pk_mul 2 0) ?_
    refine lv_iload_n hx hb dX5_meetings_21 rfl (lv_at hl 2 rfl) ?_
    refine k_join (P := fun x9 : Int32 => W p l e rmX5_meetings s m [.ref (G.2.2 (10, 0)), .int (x1), .int (bI (b1))].toArray below meth c H locs 0 0 (MQ below (kQ G kM Z A (some (.long ((fX5_meetings S x1 b1).1))) ((fX5_meetings S x1 b1).2)) [.ref (G.2.2 (10, 0)), .int (x1), .int (bI (b1))].toArray s 0 0 A) (F0 m 30 ls [.int (x9), .int (nI (2 * 0)), .ref (G.2.2 (13, 1))])) (C := b1 = false) (a := (0 : Int32)) (b := (1 : Int32)) ?_ (fun ka kb => ?_)
    rotate_left
    · refine k_if_eq (b := b1) (tgt := 29) hx hb dX5_meetings_22 (by decide) (fun c_2 => ?_) (fun c_2 => ?_)
      · skip
        refine lv_iconst (v := 0) hx hb dX5_meetings_29 (by decide) ?_
        exact ka c_2
      · skip
        refine lv_iconst (v := 1) hx hb dX5_meetings_25 (by decide) ?_
        refine lv_goto (tgt := 30) hx hb dX5_meetings_26 (by decide) ?_
        exact kb c_2
    show W p l e rmX5_meetings s m [.ref (G.2.2 (10, 0)), .int (x1), .int (bI (b1))].toArray below meth c H locs 0 0 (MQ below (kQ G kM Z A (some (.long ((fX5_meetings S x1 b1).1))) ((fX5_meetings S x1 b1).2)) [.ref (G.2.2 (10, 0)), .int (x1), .int (bI (b1))].toArray s 0 0 A) (F0 m 30 ls [.int (if b1 = false then (0 : Int32) else (1 : Int32)), .int (nI (2 * 0)), .ref (G.2.2 (13, 1))])
    refine k_topi (z := nI (if b1 = false then 0 else 1)) (by split <;> rfl) ?_
    refine lv_iadd hx hb dX5_meetings_30 ?_
    refine k_topi (z := nI (2 * 0 + (if b1 = false then 0 else 1))) (nI_add (2 * 0) (if b1 = false then 0 else 1)) ?_
    refine ld_13_1 hx hb hK hw kM_13_1 (vp_in_nI (by first | omega | (split <;> omega)) (by decide)) dX5_meetings_31 ?_
    refine k_topl (z := (uI S 10 0 0 (0 : Int32)).2.1 13 1 (2 * 0 + (if b1 = false then 0 else 1))) (by rw [nI_clamp (show 2 * 0 + (if b1 = false then 0 else 1) < 2 ^ 31 from by first | omega | (split <;> omega))]) ?_
    refine k_topl (z := S.2.1 13 1 (2 * 0 + (if b1 = false then 0 else 1))) (by simp [uI, uL, uF]) ?_
    refine lv_goto (tgt := 41) hx hb dX5_meetings_32 (by decide) ?_
    exact k_lret hx hb hr hlocks hK hw (congrArg (fun z : Int64 × uS => some (Value.long (z.1))) (show (fX5_meetings S x1 b1) = (S.2.1 13 1 (2 * 0 + (if b1 = false then 0 else 1)), (uI S 10 0 0 (0 : Int32))) from by unfold fX5_meetings; rw [if_pos c_1])) (congrArg (a₁ := (fX5_meetings S x1 b1)) (a₂ := (S.2.1 13 1 (2 * 0 + (if b1 = false then 0 else 1)), (uI S 10 0 0 (0 : Int32)))) (fun z : Int64 × uS => z.2) (show (fX5_meetings S x1 b1) = (S.2.1 13 1 (2 * 0 + (if b1 = false then 0 else 1)), (uI S 10 0 0 (0 : Int32))) from by unfold fX5_meetings; rw [if_pos c_1])) dX5_meetings_41
  · skip
    refine lv_iload_n hx hb dX5_meetings_9 rfl (lv_at hl 1 rfl) ?_
    refine lv_iconst (v := 1) hx hb dX5_meetings_10 (by decide) ?_
    refine lv_icmp_ne (tgt := 35) hx hb dX5_meetings_11 (by decide) (fun c_3 => ?_) (fun c_3 => ?_)
    · skip
      refine lv_aload_n hx hb dX5_meetings_35 rfl (lv_at hl 0 rfl) ?_
      refine lv_iconst (v := 1) hx hb dX5_meetings_36 (by decide) ?_
      refine k_callV (C := RX5) (n := 1) (rest := []) ⟨hx, hb, hml, hown, hts⟩ (cX5c_fail l G Z (uI S 10 0 0 (0 : Int32)) (1 : Int32)) (cwV 1 hts gX5_meetings_X5_fail rfl rfl rfl (by decide +kernel) ⟨Nat.le_of_ble_eq_true rfl, Nat.le_of_ble_eq_true rfl⟩) (k_recv hK hw kM_10 rfl rfl) hK hN hZ hA hw (Nat.zero_le _) (Nat.zero_le _) rfl hl.1 rfl (Nat.le_of_ble_eq_true rfl) dX5_meetings_37 (fun H locs hw => ?_)
      refine W.eq (g2 := F0 m 40 ls [.int ((fX5_fail (uI S 10 0 0 (0 : Int32)) (1 : Int32)).1)]) rfl ?_
      refine lv_i2l (v := ((fX5_fail (uI S 10 0 0 (0 : Int32)) (1 : Int32)).1).toInt64) hx hb dX5_meetings_40 rfl ?_
      exact k_lret hx hb hr hlocks hK hw (congrArg (fun z : Int64 × uS => some (Value.long (z.1))) (show (fX5_meetings S x1 b1) = (((fX5_fail (uI S 10 0 0 (0 : Int32)) (1 : Int32)).1).toInt64, ((fX5_fail (uI S 10 0 0 (0 : Int32)) (1 : Int32)).2)) from by unfold fX5_meetings; rw [if_neg c_1, if_neg c_3])) (congrArg (a₁ := (fX5_meetings S x1 b1)) (a₂ := (((fX5_fail (uI S 10 0 0 (0 : Int32)) (1 : Int32)).1).toInt64, ((fX5_fail (uI S 10 0 0 (0 : Int32)) (1 : Int32)).2))) (fun z : Int64 × uS => z.2) (show (fX5_meetings S x1 b1) = (((fX5_fail (uI S 10 0 0 (0 : Int32)) (1 : Int32)).1).toInt64, ((fX5_fail (uI S 10 0 0 (0 : Int32)) (1 : Int32)).2)) from by unfold fX5_meetings; rw [if_neg c_1, if_neg c_3])) dX5_meetings_41
    · skip
      refine lv_aload_n hx hb dX5_meetings_14 rfl (lv_at hl 0 rfl) ?_
      refine g_10_21 hx hb hts hiX5 hown hK hw kM_10 (hts (.fieldLink RX5 51 "BranchPredictorModel" "meetings" "[J") (by decide +kernel)) dX5_meetings_15 ?_
      refine lv_iconst (v := 2) hx hb dX5_meetings_18 (by decide) ?_
      refine lv_iload_n hx hb dX5_meetings_19 rfl (lv_at hl 1 rfl) ?_
      refine k_topi (z := (1 : Int32)) (c_3) ?_
      refine lv_imul hx hb dX5_meetings_20 ?_
      refine k_topi (z := nI (2 * 1)) (pk_mul 2 1) ?_
      refine lv_iload_n hx hb dX5_meetings_21 rfl (lv_at hl 2 rfl) ?_
      refine k_join (P := fun x9 : Int32 => W p l e rmX5_meetings s m [.ref (G.2.2 (10, 0)), .int (x1), .int (bI (b1))].toArray below meth c H locs 0 0 (MQ below (kQ G kM Z A (some (.long ((fX5_meetings S x1 b1).1))) ((fX5_meetings S x1 b1).2)) [.ref (G.2.2 (10, 0)), .int (x1), .int (bI (b1))].toArray s 0 0 A) (F0 m 30 ls [.int (x9), .int (nI (2 * 1)), .ref (G.2.2 (13, 1))])) (C := b1 = false) (a := (0 : Int32)) (b := (1 : Int32)) ?_ (fun ka kb => ?_)
      rotate_left
      · refine k_if_eq (b := b1) (tgt := 29) hx hb dX5_meetings_22 (by decide) (fun c_4 => ?_) (fun c_4 => ?_)
        · skip
          refine lv_iconst (v := 0) hx hb dX5_meetings_29 (by decide) ?_
          exact ka c_4
        · skip
          refine lv_iconst (v := 1) hx hb dX5_meetings_25 (by decide) ?_
          refine lv_goto (tgt := 30) hx hb dX5_meetings_26 (by decide) ?_
          exact kb c_4
      show W p l e rmX5_meetings s m [.ref (G.2.2 (10, 0)), .int (x1), .int (bI (b1))].toArray below meth c H locs 0 0 (MQ below (kQ G kM Z A (some (.long ((fX5_meetings S x1 b1).1))) ((fX5_meetings S x1 b1).2)) [.ref (G.2.2 (10, 0)), .int (x1), .int (bI (b1))].toArray s 0 0 A) (F0 m 30 ls [.int (if b1 = false then (0 : Int32) else (1 : Int32)), .int (nI (2 * 1)), .ref (G.2.2 (13, 1))])
      refine k_topi (z := nI (if b1 = false then 0 else 1)) (by split <;> rfl) ?_
      refine lv_iadd hx hb dX5_meetings_30 ?_
      refine k_topi (z := nI (2 * 1 + (if b1 = false then 0 else 1))) (nI_add (2 * 1) (if b1 = false then 0 else 1)) ?_
      refine ld_13_1 hx hb hK hw kM_13_1 (vp_in_nI (by first | omega | (split <;> omega)) (by decide)) dX5_meetings_31 ?_
      refine k_topl (z := (uI S 10 0 0 (0 : Int32)).2.1 13 1 (2 * 1 + (if b1 = false then 0 else 1))) (by rw [nI_clamp (show 2 * 1 + (if b1 = false then 0 else 1) < 2 ^ 31 from by first | omega | (split <;> omega))]) ?_
      refine k_topl (z := S.2.1 13 1 (2 * 1 + (if b1 = false then 0 else 1))) (by simp [uI, uL, uF]) ?_
      refine lv_goto (tgt := 41) hx hb dX5_meetings_32 (by decide) ?_
      exact k_lret hx hb hr hlocks hK hw (congrArg (fun z : Int64 × uS => some (Value.long (z.1))) (show (fX5_meetings S x1 b1) = (S.2.1 13 1 (2 * 1 + (if b1 = false then 0 else 1)), (uI S 10 0 0 (0 : Int32))) from by unfold fX5_meetings; rw [if_neg c_1, if_pos c_3])) (congrArg (a₁ := (fX5_meetings S x1 b1)) (a₂ := (S.2.1 13 1 (2 * 1 + (if b1 = false then 0 else 1)), (uI S 10 0 0 (0 : Int32)))) (fun z : Int64 × uS => z.2) (show (fX5_meetings S x1 b1) = (S.2.1 13 1 (2 * 1 + (if b1 = false then 0 else 1)), (uI S 10 0 0 (0 : Int32))) from by unfold fX5_meetings; rw [if_neg c_1, if_pos c_3])) dX5_meetings_41
def lX5_dg0 : Nat → Nat → Int64 → uS → Int64
  | 0, i, a1, S => (a1)
  | n + 1, i, a1, S => (lX5_dg0 n (i + 1) ((a1 * (31 : Int64)) + ((S.1 11 0 (256 * 0 + i)).toInt64)) S)
def lX5_dg1 : Nat → Nat → Int64 → uS → Int64
  | 0, i, a1, S => (a1)
  | n + 1, i, a1, S => (lX5_dg1 n (i + 1) ((a1 * (31 : Int64)) + ((S.1 11 0 (256 * 1 + i)).toInt64)) S)
def lX5_dg2 : Nat → Nat → Int64 → uS → Int64
  | 0, i, a1, S => (a1)
  | n + 1, i, a1, S => (lX5_dg2 n (i + 1) ((a1 * (31 : Int64)) + ((S.1 11 0 (256 * 2 + i)).toInt64)) S)
def lX5_dgL (F1 : Nat) : Nat → Nat → Int64 → uS → Int64
  | 0, i, a1, S => (a1)
  | n + 1, i, a1, S => (lX5_dgL F1 n (i + 1) ((((((((a1 * (31 : Int64)) + (((fX5_ofLoop S F1 i (0 : Int32))).toInt64)) * (31 : Int64)) + (((fX5_ofLoop S F1 i (1 : Int32))).toInt64)) * (31 : Int64)) + (((fX5_ofLoop S F1 i (2 : Int32))).toInt64)) * (31 : Int64)) + (((fX5_ofLoop S F1 i (3 : Int32))).toInt64)) S)
def lX5_dgB : Nat → Nat → Int64 → uS → Int64
  | 0, i, a1, S => (a1)
  | n + 1, i, a1, S => (lX5_dgB n (i + 1) ((((a1 * (31 : Int64)) + ((S.1 11 2 i).toInt64)) * (31 : Int64)) + (((fX5_stateOf S i)).toInt64)) S)
def fX5_digest (S : uS) (P1 : Nat) (Q1 : Nat) (F1 : Nat) : Int64 × uS :=
  (((((((((lX5_dgB F1 0 (lX5_dgL F1 8 0 (lX5_dg2 (2 ^ P1) 0 (lX5_dg1 (2 ^ Q1) 0 (lX5_dg0 (2 ^ P1) 0 ((((((((2201 : Int64) + ((S.1 10 0 1).toInt64)) * (31 : Int64)) + ((S.1 10 0 2).toInt64)) * (31 : Int64)) + ((S.1 10 0 3).toInt64)) * (31 : Int64)) + ((S.1 10 0 4).toInt64)) S) S) S) S) S) * (31 : Int64)) + (S.2.1 10 0 18)) * (31 : Int64)) + (S.2.1 10 0 19)) * (31 : Int64)) + (S.2.1 13 1 0)) * (31 : Int64)) + (S.2.1 13 1 2), (uI S 10 0 0 (0 : Int32)))
abbrev rmX5_digest : Room := { frames := 3, cells := 0, slots := 0, locals := 66 }
set_option maxHeartbeats 4000000 in
set_option maxRecDepth 100000 in
theorem cX5c_digest (l : Launch) (G : gG) (Z : va_W) (S : uS) (P1 : Nat) (h_P1 : S.1 10 0 1 = nI P1) (h_P1b : P1 ≤ 8) (Q1 : Nat) (h_Q1 : S.1 10 0 2 = nI Q1) (h_Q1b : Q1 ≤ 8) (F1 : Nat) (h_F1 : S.1 10 0 7 = nI F1) (h_F1b : F1 ≤ 16) : kMet l yX5_digest wsX5_digest rmX5_digest G kM Z S [.ref (G.2.2 (10, 0))] (some (.long ((fX5_digest S P1 Q1 F1).1))) ((fX5_digest S P1 Q1 F1).2) := by
  refine kMet_of (cc := cX5_digest) (maxL := 5) (ret := (some .long)) (by decide) rfl (Nat.le_of_ble_eq_true rfl) ?_
  intro p e s m below meth c hx hb hr hml hlocks hts hown hK hN A hZ hA H locs hw ls hl
  have hl : lv_has ls 5 [(0, .ref (G.2.2 (10, 0)))] := hl
  have hiX5 : ∀ w ∈ wsX50, w ∈ wsX5_digest := by decide +kernel
  refine lv_aload_n hx hb dX5_digest_0 rfl (lv_at hl 0 rfl) ?_
  refine lv_iconst (v := 0) hx hb dX5_digest_1 (by decide) ?_
  refine p_10_0 (v := (0 : Int32)) hx hb hts hiX5 hown hK hw kM_10 (hts (.fieldLink RX5 58 "BranchPredictorModel" "thrown" "I") (by decide +kernel)) dX5_digest_2 (fun H locs hw => ?_)
  refine lv_ldc2 (v := 2201) hx hb hown (hts (.constantLong RX5 171 (2201)) (by decide +kernel)) dX5_digest_5 ?_
  refine lv_aload_n hx hb dX5_digest_8 rfl (lv_at hl 0 rfl) ?_
  refine g_10_1 hx hb hts hiX5 hown hK hw kM_10 (hts (.fieldLink RX5 62 "BranchPredictorModel" "p" "I") (by decide +kernel)) dX5_digest_9 ?_
  refine k_topi (z := S.1 10 0 1) (by simp [uI, uL, uF]) ?_
  refine lv_i2l (v := (S.1 10 0 1).toInt64) hx hb dX5_digest_12 rfl ?_
  refine lv_ladd hx hb dX5_digest_13 ?_
  refine lv_ldc2 (v := 31) hx hb hown (hts (.constantLong RX5 173 (31)) (by decide +kernel)) dX5_digest_14 ?_
  refine lv_lmul hx hb dX5_digest_17 ?_
  refine lv_aload_n hx hb dX5_digest_18 rfl (lv_at hl 0 rfl) ?_
  refine g_10_2 hx hb hts hiX5 hown hK hw kM_10 (hts (.fieldLink RX5 65 "BranchPredictorModel" "g" "I") (by decide +kernel)) dX5_digest_19 ?_
  refine k_topi (z := S.1 10 0 2) (by simp [uI, uL, uF]) ?_
  refine lv_i2l (v := (S.1 10 0 2).toInt64) hx hb dX5_digest_22 rfl ?_
  refine lv_ladd hx hb dX5_digest_23 ?_
  refine lv_ldc2 (v := 31) hx hb hown (hts (.constantLong RX5 173 (31)) (by decide +kernel)) dX5_digest_24 ?_
  refine lv_lmul hx hb dX5_digest_27 ?_
  refine lv_aload_n hx hb dX5_digest_28 rfl (lv_at hl 0 rfl) ?_
  refine g_10_3 hx hb hts hiX5 hown hK hw kM_10 (hts (.fieldLink RX5 68 "BranchPredictorModel" "h" "I") (by decide +kernel)) dX5_digest_29 ?_
  refine k_topi (z := S.1 10 0 3) (by simp [uI, uL, uF]) ?_
  refine lv_i2l (v := (S.1 10 0 3).toInt64) hx hb dX5_digest_32 rfl ?_
  refine lv_ladd hx hb dX5_digest_33 ?_
  refine lv_ldc2 (v := 31) hx hb hown (hts (.constantLong RX5 173 (31)) (by decide +kernel)) dX5_digest_34 ?_
  refine lv_lmul hx hb dX5_digest_37 ?_
  refine lv_aload_n hx hb dX5_digest_38 rfl (lv_at hl 0 rfl) ?_
  refine g_10_4 hx hb hts hiX5 hown hK hw kM_10 (hts (.fieldLink RX5 71 "BranchPredictorModel" "history" "I") (by decide +kernel)) dX5_digest_39 ?_
  refine k_topi (z := S.1 10 0 4) (by simp [uI, uL, uF]) ?_
  refine lv_i2l (v := (S.1 10 0 4).toInt64) hx hb dX5_digest_42 rfl ?_
  refine lv_ladd hx hb dX5_digest_43 ?_
  refine lv_lstore_n (lv' := [(1, .long ((((((((2201 : Int64) + ((S.1 10 0 1).toInt64)) * (31 : Int64)) + ((S.1 10 0 2).toInt64)) * (31 : Int64)) + ((S.1 10 0 3).toInt64)) * (31 : Int64)) + ((S.1 10 0 4).toInt64))), (0, .ref (G.2.2 (10, 0)))]) hx hb dX5_digest_44 rfl hl (by decide) rfl (fun ls hl => ?_)
  refine lv_iconst (v := 0) hx hb dX5_digest_45 (by decide) ?_
  refine lv_istore_n (lv' := [(3, .int ((0 : Int32))), (1, .long ((((((((2201 : Int64) + ((S.1 10 0 1).toInt64)) * (31 : Int64)) + ((S.1 10 0 2).toInt64)) * (31 : Int64)) + ((S.1 10 0 3).toInt64)) * (31 : Int64)) + ((S.1 10 0 4).toInt64))), (0, .ref (G.2.2 (10, 0)))]) hx hb dX5_digest_46 rfl hl (by decide) rfl (fun ls hl => ?_)
  refine lv_iload_n hx hb dX5_digest_47 rfl (lv_at hl 0 rfl) ?_
  refine lv_iconst (v := 3) hx hb dX5_digest_48 (by decide) ?_
  have q_1 : ¬ ((3 : Int32) ≤ (0 : Int32)) := by decide
  refine lv_icmp_ge (tgt := 98) hx hb dX5_digest_49 (by decide) (fun h9 => absurd h9 q_1) (fun _ => ?_)
  refine lv_iconst (v := 0) hx hb dX5_digest_52 (by decide) ?_
  refine lv_istore (lv' := [(4, .int ((0 : Int32))), (3, .int ((0 : Int32))), (1, .long ((((((((2201 : Int64) + ((S.1 10 0 1).toInt64)) * (31 : Int64)) + ((S.1 10 0 2).toInt64)) * (31 : Int64)) + ((S.1 10 0 3).toInt64)) * (31 : Int64)) + ((S.1 10 0 4).toInt64))), (0, .ref (G.2.2 (10, 0)))]) hx hb dX5_digest_53 hl (by decide) rfl (fun ls hl => ?_)
  have hloop_lX5_dg0 : ∀ (n i : Nat) (a1 : Int64) (H : Heap) (locs : List Loc) (ls : Array Slot), i + n = (2 ^ P1) → kS G kM (uI S 10 0 0 (0 : Int32)) Z A s.heap H locs → lv_has ls 5 [(0, .ref (G.2.2 (10, 0))), (1, .long (a1)), (3, .int ((0 : Int32))), (4, .int (nI i))] → (∀ (H : Heap) (locs : List Loc) (ls : Array Slot), kS G kM (uI S 10 0 0 (0 : Int32)) Z A s.heap H locs → lv_has ls 5 [(0, .ref (G.2.2 (10, 0))), (1, .long ((lX5_dg0 n i a1 S))), (3, .int ((0 : Int32))), (4, .int (nI (2 ^ P1)))] → W p l e rmX5_digest s m [.ref (G.2.2 (10, 0))].toArray below meth c H locs 0 0 (MQ below (kQ G kM Z A (some (.long ((fX5_digest S P1 Q1 F1).1))) ((fX5_digest S P1 Q1 F1).2)) [.ref (G.2.2 (10, 0))].toArray s 0 0 A) (F0 m 92 ls [])) → W p l e rmX5_digest s m [.ref (G.2.2 (10, 0))].toArray below meth c H locs 0 0 (MQ below (kQ G kM Z A (some (.long ((fX5_digest S P1 Q1 F1).1))) ((fX5_digest S P1 Q1 F1).2)) [.ref (G.2.2 (10, 0))].toArray s 0 0 A) (F0 m 55 ls []) := by
    intro n
    induction n with
    | zero =>
      intro i a1 H locs ls hin hw hl kx
      have z_2 : (nI (2 ^ P1)) ≤ (nI i) := (nI_le (a := 2 ^ P1) (b := i) (by omega) (by have h9 := m_pw P1 (by omega); omega))
      refine lv_iload hx hb dX5_digest_55 (lv_at hl 3 rfl) ?_
      refine lv_aload_n hx hb dX5_digest_57 rfl (lv_at hl 0 rfl) ?_
      refine lv_iload_n hx hb dX5_digest_58 rfl (lv_at hl 2 rfl) ?_
      refine k_callV (C := RX5) (n := 1) (rest := [.int (nI i)]) ⟨hx, hb, hml, hown, hts⟩ (cX5c_sizeOf l G Z (uI S 10 0 0 (0 : Int32)) (0 : Int32)) (cwV 1 hts gX5_digest_X5_sizeOf rfl rfl rfl (by decide +kernel) ⟨Nat.le_of_ble_eq_true rfl, Nat.le_of_ble_eq_true rfl⟩) (k_recv hK hw kM_10 rfl rfl) hK hN hZ hA hw (Nat.zero_le _) (Nat.zero_le _) rfl hl.1 rfl (Nat.le_of_ble_eq_true rfl) dX5_digest_59 (fun H locs hw => ?_)
      refine W.eq (g2 := F0 m 62 ls [.int ((fX5_sizeOf (uI S 10 0 0 (0 : Int32)) (0 : Int32))), .int (nI i)]) rfl ?_
      refine k_topi (z := (fX5_sizeOf S (0 : Int32))) (by first | rfl | simp [fX5_sizeOf, uI, uL, uF]) ?_
      refine k_topi (z := nI (2 ^ P1)) (m_sz h_P1 h_P1b h_Q1 h_Q1b 0 (by decide)) ?_
      refine lv_icmp_ge (tgt := 92) hx hb dX5_digest_62 (by decide) (fun _ => ?_) (fun h9 => absurd z_2 h9)
      have hin : i = (2 ^ P1) := hin
      rw [hin] at hl
      exact kx H locs ls hw (lv_sub hl [0, 1, 2, 3] rfl)
    | succ n ih =>
      intro i a1 H locs ls hin hw hl kx
      have hi : i < (2 ^ P1) := by omega
      have hi31 : i < 2 ^ 31 := Nat.lt_trans hi (Nat.lt_of_le_of_lt (m_pw P1 (by omega)) (by decide))
      have z_3 : ¬ ((nI (2 ^ P1)) ≤ (nI i)) := (nI_ge (a := i) (b := 2 ^ P1) hi (Nat.lt_of_le_of_lt (m_pw P1 (by omega)) (by decide)))
      refine lv_iload hx hb dX5_digest_55 (lv_at hl 3 rfl) ?_
      refine lv_aload_n hx hb dX5_digest_57 rfl (lv_at hl 0 rfl) ?_
      refine lv_iload_n hx hb dX5_digest_58 rfl (lv_at hl 2 rfl) ?_
      refine k_callV (C := RX5) (n := 1) (rest := [.int (nI i)]) ⟨hx, hb, hml, hown, hts⟩ (cX5c_sizeOf l G Z (uI S 10 0 0 (0 : Int32)) (0 : Int32)) (cwV 1 hts gX5_digest_X5_sizeOf rfl rfl rfl (by decide +kernel) ⟨Nat.le_of_ble_eq_true rfl, Nat.le_of_ble_eq_true rfl⟩) (k_recv hK hw kM_10 rfl rfl) hK hN hZ hA hw (Nat.zero_le _) (Nat.zero_le _) rfl hl.1 rfl (Nat.le_of_ble_eq_true rfl) dX5_digest_59 (fun H locs hw => ?_)
      refine W.eq (g2 := F0 m 62 ls [.int ((fX5_sizeOf (uI S 10 0 0 (0 : Int32)) (0 : Int32))), .int (nI i)]) rfl ?_
      refine k_topi (z := (fX5_sizeOf S (0 : Int32))) (by first | rfl | simp [fX5_sizeOf, uI, uL, uF]) ?_
      refine k_topi (z := nI (2 ^ P1)) (m_sz h_P1 h_P1b h_Q1 h_Q1b 0 (by decide)) ?_
      refine lv_icmp_ge (tgt := 92) hx hb dX5_digest_62 (by decide) (fun h9 => absurd h9 z_3) (fun _ => ?_)
      refine lv_lload_n hx hb dX5_digest_65 rfl (lv_at hl 1 rfl) ?_
      refine lv_ldc2 (v := 31) hx hb hown (hts (.constantLong RX5 173 (31)) (by decide +kernel)) dX5_digest_66 ?_
      refine lv_lmul hx hb dX5_digest_69 ?_
      refine lv_aload_n hx hb dX5_digest_70 rfl (lv_at hl 0 rfl) ?_
      refine g_10_5 hx hb hts hiX5 hown hK hw kM_10 (hts (.fieldLink RX5 9 "BranchPredictorModel" "counters" "[I") (by decide +kernel)) dX5_digest_71 ?_
      refine lv_sipush (v := 256) hx hb dX5_digest_74 (by decide) ?_
      refine lv_iload_n hx hb dX5_digest_77 rfl (lv_at hl 2 rfl) ?_
      refine lv_imul hx hb dX5_digest_78 ?_
      refine k_topi (z := nI (256 * 0)) (pk_mul 256 0) ?_
      refine lv_iload hx hb dX5_digest_79 (lv_at hl 3 rfl) ?_
      refine lv_iadd hx hb dX5_digest_81 ?_
      refine k_topi (z := nI (256 * 0 + i)) (nI_add (256 * 0) i) ?_
      refine ld_11_0 hx hb hK hw kM_11_0 (vp_in_nI (by have h9 := m_pw P1 (by omega); omega) (by decide)) dX5_digest_82 ?_
      refine k_topi (z := (uI S 10 0 0 (0 : Int32)).1 11 0 (256 * 0 + i)) (by rw [nI_clamp (show 256 * 0 + i < 2 ^ 31 from by have h9 := m_pw P1 (by omega); omega)]) ?_
      refine k_topi (z := S.1 11 0 (256 * 0 + i)) (by simp [uI, uL, uF]) ?_
      refine lv_i2l (v := (S.1 11 0 (256 * 0 + i)).toInt64) hx hb dX5_digest_83 rfl ?_
      refine lv_ladd hx hb dX5_digest_84 ?_
      refine lv_lstore_n (lv' := [(1, .long ((a1 * (31 : Int64)) + ((S.1 11 0 (256 * 0 + i)).toInt64))), (0, .ref (G.2.2 (10, 0))), (3, .int ((0 : Int32))), (4, .int (nI i))]) hx hb dX5_digest_85 rfl hl (by decide) rfl (fun ls hl => ?_)
      refine lv_iinc (v := nI (i + 1)) (lv' := [(4, .int (nI (i + 1))), (1, .long ((a1 * (31 : Int64)) + ((S.1 11 0 (256 * 0 + i)).toInt64))), (0, .ref (G.2.2 (10, 0))), (3, .int ((0 : Int32)))]) hx hb dX5_digest_86 hl (k := 3) rfl (by rw [← nI_1]; rfl) (by decide) rfl (fun ls hl => ?_)
      refine lv_goto (tgt := 55) hx hb dX5_digest_89 (by decide) ?_
      exact ih (i + 1) ((a1 * (31 : Int64)) + ((S.1 11 0 (256 * 0 + i)).toInt64)) H locs ls (by omega) hw (lv_sub hl [2, 1, 3, 0] rfl) (by rw [(show (lX5_dg0 (n + 1) i a1 S) = (lX5_dg0 n (i + 1) ((a1 * (31 : Int64)) + ((S.1 11 0 (256 * 0 + i)).toInt64)) S) from by rw [lX5_dg0])] at kx; exact kx)
  refine hloop_lX5_dg0 (2 ^ P1) 0 ((((((((2201 : Int64) + ((S.1 10 0 1).toInt64)) * (31 : Int64)) + ((S.1 10 0 2).toInt64)) * (31 : Int64)) + ((S.1 10 0 3).toInt64)) * (31 : Int64)) + ((S.1 10 0 4).toInt64)) H locs ls (by omega) hw (lv_sub hl [3, 2, 1, 0] rfl) (fun H locs ls hw hl => ?_)
  refine lv_iinc (v := (1 : Int32)) (lv' := [(3, .int ((1 : Int32))), (0, .ref (G.2.2 (10, 0))), (1, .long ((lX5_dg0 (2 ^ P1) 0 ((((((((2201 : Int64) + ((S.1 10 0 1).toInt64)) * (31 : Int64)) + ((S.1 10 0 2).toInt64)) * (31 : Int64)) + ((S.1 10 0 3).toInt64)) * (31 : Int64)) + ((S.1 10 0 4).toInt64)) S))), (4, .int (nI (2 ^ P1)))]) hx hb dX5_digest_92 hl (k := 2) rfl (by decide) (by decide) rfl (fun ls hl => ?_)
  refine lv_goto (tgt := 47) hx hb dX5_digest_95 (by decide) ?_
  refine lv_iload_n hx hb dX5_digest_47 rfl (lv_at hl 0 rfl) ?_
  refine lv_iconst (v := 3) hx hb dX5_digest_48 (by decide) ?_
  have q_4 : ¬ ((3 : Int32) ≤ (1 : Int32)) := by decide
  refine lv_icmp_ge (tgt := 98) hx hb dX5_digest_49 (by decide) (fun h9 => absurd h9 q_4) (fun _ => ?_)
  refine lv_iconst (v := 0) hx hb dX5_digest_52 (by decide) ?_
  refine lv_istore (lv' := [(4, .int ((0 : Int32))), (3, .int ((1 : Int32))), (0, .ref (G.2.2 (10, 0))), (1, .long ((lX5_dg0 (2 ^ P1) 0 ((((((((2201 : Int64) + ((S.1 10 0 1).toInt64)) * (31 : Int64)) + ((S.1 10 0 2).toInt64)) * (31 : Int64)) + ((S.1 10 0 3).toInt64)) * (31 : Int64)) + ((S.1 10 0 4).toInt64)) S)))]) hx hb dX5_digest_53 hl (by decide) rfl (fun ls hl => ?_)
  have hloop_lX5_dg1 : ∀ (n i : Nat) (a1 : Int64) (H : Heap) (locs : List Loc) (ls : Array Slot), i + n = (2 ^ Q1) → kS G kM (uI S 10 0 0 (0 : Int32)) Z A s.heap H locs → lv_has ls 5 [(0, .ref (G.2.2 (10, 0))), (1, .long (a1)), (3, .int ((1 : Int32))), (4, .int (nI i))] → (∀ (H : Heap) (locs : List Loc) (ls : Array Slot), kS G kM (uI S 10 0 0 (0 : Int32)) Z A s.heap H locs → lv_has ls 5 [(0, .ref (G.2.2 (10, 0))), (1, .long ((lX5_dg1 n i a1 S))), (3, .int ((1 : Int32))), (4, .int (nI (2 ^ Q1)))] → W p l e rmX5_digest s m [.ref (G.2.2 (10, 0))].toArray below meth c H locs 0 0 (MQ below (kQ G kM Z A (some (.long ((fX5_digest S P1 Q1 F1).1))) ((fX5_digest S P1 Q1 F1).2)) [.ref (G.2.2 (10, 0))].toArray s 0 0 A) (F0 m 92 ls [])) → W p l e rmX5_digest s m [.ref (G.2.2 (10, 0))].toArray below meth c H locs 0 0 (MQ below (kQ G kM Z A (some (.long ((fX5_digest S P1 Q1 F1).1))) ((fX5_digest S P1 Q1 F1).2)) [.ref (G.2.2 (10, 0))].toArray s 0 0 A) (F0 m 55 ls []) := by
    intro n
    induction n with
    | zero =>
      intro i a1 H locs ls hin hw hl kx
      have z_5 : (nI (2 ^ Q1)) ≤ (nI i) := (nI_le (a := 2 ^ Q1) (b := i) (by omega) (by have h9 := m_pw Q1 (by omega); omega))
      refine lv_iload hx hb dX5_digest_55 (lv_at hl 3 rfl) ?_
      refine lv_aload_n hx hb dX5_digest_57 rfl (lv_at hl 0 rfl) ?_
      refine lv_iload_n hx hb dX5_digest_58 rfl (lv_at hl 2 rfl) ?_
      refine k_callV (C := RX5) (n := 1) (rest := [.int (nI i)]) ⟨hx, hb, hml, hown, hts⟩ (cX5c_sizeOf l G Z (uI S 10 0 0 (0 : Int32)) (1 : Int32)) (cwV 1 hts gX5_digest_X5_sizeOf rfl rfl rfl (by decide +kernel) ⟨Nat.le_of_ble_eq_true rfl, Nat.le_of_ble_eq_true rfl⟩) (k_recv hK hw kM_10 rfl rfl) hK hN hZ hA hw (Nat.zero_le _) (Nat.zero_le _) rfl hl.1 rfl (Nat.le_of_ble_eq_true rfl) dX5_digest_59 (fun H locs hw => ?_)
      refine W.eq (g2 := F0 m 62 ls [.int ((fX5_sizeOf (uI S 10 0 0 (0 : Int32)) (1 : Int32))), .int (nI i)]) rfl ?_
      refine k_topi (z := (fX5_sizeOf S (1 : Int32))) (by first | rfl | simp [fX5_sizeOf, uI, uL, uF]) ?_
      refine k_topi (z := nI (2 ^ Q1)) (m_sz h_P1 h_P1b h_Q1 h_Q1b 1 (by decide)) ?_
      refine lv_icmp_ge (tgt := 92) hx hb dX5_digest_62 (by decide) (fun _ => ?_) (fun h9 => absurd z_5 h9)
      have hin : i = (2 ^ Q1) := hin
      rw [hin] at hl
      exact kx H locs ls hw (lv_sub hl [0, 1, 2, 3] rfl)
    | succ n ih =>
      intro i a1 H locs ls hin hw hl kx
      have hi : i < (2 ^ Q1) := by omega
      have hi31 : i < 2 ^ 31 := Nat.lt_trans hi (Nat.lt_of_le_of_lt (m_pw Q1 (by omega)) (by decide))
      have z_6 : ¬ ((nI (2 ^ Q1)) ≤ (nI i)) := (nI_ge (a := i) (b := 2 ^ Q1) hi (Nat.lt_of_le_of_lt (m_pw Q1 (by omega)) (by decide)))
      refine lv_iload hx hb dX5_digest_55 (lv_at hl 3 rfl) ?_
      refine lv_aload_n hx hb dX5_digest_57 rfl (lv_at hl 0 rfl) ?_
      refine lv_iload_n hx hb dX5_digest_58 rfl (lv_at hl 2 rfl) ?_
      refine k_callV (C := RX5) (n := 1) (rest := [.int (nI i)]) ⟨hx, hb, hml, hown, hts⟩ (cX5c_sizeOf l G Z (uI S 10 0 0 (0 : Int32)) (1 : Int32)) (cwV 1 hts gX5_digest_X5_sizeOf rfl rfl rfl (by decide +kernel) ⟨Nat.le_of_ble_eq_true rfl, Nat.le_of_ble_eq_true rfl⟩) (k_recv hK hw kM_10 rfl rfl) hK hN hZ hA hw (Nat.zero_le _) (Nat.zero_le _) rfl hl.1 rfl (Nat.le_of_ble_eq_true rfl) dX5_digest_59 (fun H locs hw => ?_)
      refine W.eq (g2 := F0 m 62 ls [.int ((fX5_sizeOf (uI S 10 0 0 (0 : Int32)) (1 : Int32))), .int (nI i)]) rfl ?_
      refine k_topi (z := (fX5_sizeOf S (1 : Int32))) (by first | rfl | simp [fX5_sizeOf, uI, uL, uF]) ?_
      refine k_topi (z := nI (2 ^ Q1)) (m_sz h_P1 h_P1b h_Q1 h_Q1b 1 (by decide)) ?_
      refine lv_icmp_ge (tgt := 92) hx hb dX5_digest_62 (by decide) (fun h9 => absurd h9 z_6) (fun _ => ?_)
      refine lv_lload_n hx hb dX5_digest_65 rfl (lv_at hl 1 rfl) ?_
      refine lv_ldc2 (v := 31) hx hb hown (hts (.constantLong RX5 173 (31)) (by decide +kernel)) dX5_digest_66 ?_
      refine lv_lmul hx hb dX5_digest_69 ?_
      refine lv_aload_n hx hb dX5_digest_70 rfl (lv_at hl 0 rfl) ?_
      refine g_10_5 hx hb hts hiX5 hown hK hw kM_10 (hts (.fieldLink RX5 9 "BranchPredictorModel" "counters" "[I") (by decide +kernel)) dX5_digest_71 ?_
      refine lv_sipush (v := 256) hx hb dX5_digest_74 (by decide) ?_
      refine lv_iload_n hx hb dX5_digest_77 rfl (lv_at hl 2 rfl) ?_
      refine lv_imul hx hb dX5_digest_78 ?_
      refine k_topi (z := nI (256 * 1)) (pk_mul 256 1) ?_
      refine lv_iload hx hb dX5_digest_79 (lv_at hl 3 rfl) ?_
      refine lv_iadd hx hb dX5_digest_81 ?_
      refine k_topi (z := nI (256 * 1 + i)) (nI_add (256 * 1) i) ?_
      refine ld_11_0 hx hb hK hw kM_11_0 (vp_in_nI (by have h9 := m_pw Q1 (by omega); omega) (by decide)) dX5_digest_82 ?_
      refine k_topi (z := (uI S 10 0 0 (0 : Int32)).1 11 0 (256 * 1 + i)) (by rw [nI_clamp (show 256 * 1 + i < 2 ^ 31 from by have h9 := m_pw Q1 (by omega); omega)]) ?_
      refine k_topi (z := S.1 11 0 (256 * 1 + i)) (by simp [uI, uL, uF]) ?_
      refine lv_i2l (v := (S.1 11 0 (256 * 1 + i)).toInt64) hx hb dX5_digest_83 rfl ?_
      refine lv_ladd hx hb dX5_digest_84 ?_
      refine lv_lstore_n (lv' := [(1, .long ((a1 * (31 : Int64)) + ((S.1 11 0 (256 * 1 + i)).toInt64))), (0, .ref (G.2.2 (10, 0))), (3, .int ((1 : Int32))), (4, .int (nI i))]) hx hb dX5_digest_85 rfl hl (by decide) rfl (fun ls hl => ?_)
      refine lv_iinc (v := nI (i + 1)) (lv' := [(4, .int (nI (i + 1))), (1, .long ((a1 * (31 : Int64)) + ((S.1 11 0 (256 * 1 + i)).toInt64))), (0, .ref (G.2.2 (10, 0))), (3, .int ((1 : Int32)))]) hx hb dX5_digest_86 hl (k := 3) rfl (by rw [← nI_1]; rfl) (by decide) rfl (fun ls hl => ?_)
      refine lv_goto (tgt := 55) hx hb dX5_digest_89 (by decide) ?_
      exact ih (i + 1) ((a1 * (31 : Int64)) + ((S.1 11 0 (256 * 1 + i)).toInt64)) H locs ls (by omega) hw (lv_sub hl [2, 1, 3, 0] rfl) (by rw [(show (lX5_dg1 (n + 1) i a1 S) = (lX5_dg1 n (i + 1) ((a1 * (31 : Int64)) + ((S.1 11 0 (256 * 1 + i)).toInt64)) S) from by rw [lX5_dg1])] at kx; exact kx)
  refine hloop_lX5_dg1 (2 ^ Q1) 0 (lX5_dg0 (2 ^ P1) 0 ((((((((2201 : Int64) + ((S.1 10 0 1).toInt64)) * (31 : Int64)) + ((S.1 10 0 2).toInt64)) * (31 : Int64)) + ((S.1 10 0 3).toInt64)) * (31 : Int64)) + ((S.1 10 0 4).toInt64)) S) H locs ls (by omega) hw (lv_sub hl [2, 3, 1, 0] rfl) (fun H locs ls hw hl => ?_)
  refine lv_iinc (v := (2 : Int32)) (lv' := [(3, .int ((2 : Int32))), (0, .ref (G.2.2 (10, 0))), (1, .long ((lX5_dg1 (2 ^ Q1) 0 (lX5_dg0 (2 ^ P1) 0 ((((((((2201 : Int64) + ((S.1 10 0 1).toInt64)) * (31 : Int64)) + ((S.1 10 0 2).toInt64)) * (31 : Int64)) + ((S.1 10 0 3).toInt64)) * (31 : Int64)) + ((S.1 10 0 4).toInt64)) S) S))), (4, .int (nI (2 ^ Q1)))]) hx hb dX5_digest_92 hl (k := 2) rfl (by decide) (by decide) rfl (fun ls hl => ?_)
  refine lv_goto (tgt := 47) hx hb dX5_digest_95 (by decide) ?_
  refine lv_iload_n hx hb dX5_digest_47 rfl (lv_at hl 0 rfl) ?_
  refine lv_iconst (v := 3) hx hb dX5_digest_48 (by decide) ?_
  have q_7 : ¬ ((3 : Int32) ≤ (2 : Int32)) := by decide
  refine lv_icmp_ge (tgt := 98) hx hb dX5_digest_49 (by decide) (fun h9 => absurd h9 q_7) (fun _ => ?_)
  refine lv_iconst (v := 0) hx hb dX5_digest_52 (by decide) ?_
  refine lv_istore (lv' := [(4, .int ((0 : Int32))), (3, .int ((2 : Int32))), (0, .ref (G.2.2 (10, 0))), (1, .long ((lX5_dg1 (2 ^ Q1) 0 (lX5_dg0 (2 ^ P1) 0 ((((((((2201 : Int64) + ((S.1 10 0 1).toInt64)) * (31 : Int64)) + ((S.1 10 0 2).toInt64)) * (31 : Int64)) + ((S.1 10 0 3).toInt64)) * (31 : Int64)) + ((S.1 10 0 4).toInt64)) S) S)))]) hx hb dX5_digest_53 hl (by decide) rfl (fun ls hl => ?_)
  have hloop_lX5_dg2 : ∀ (n i : Nat) (a1 : Int64) (H : Heap) (locs : List Loc) (ls : Array Slot), i + n = (2 ^ P1) → kS G kM (uI S 10 0 0 (0 : Int32)) Z A s.heap H locs → lv_has ls 5 [(0, .ref (G.2.2 (10, 0))), (1, .long (a1)), (3, .int ((2 : Int32))), (4, .int (nI i))] → (∀ (H : Heap) (locs : List Loc) (ls : Array Slot), kS G kM (uI S 10 0 0 (0 : Int32)) Z A s.heap H locs → lv_has ls 5 [(0, .ref (G.2.2 (10, 0))), (1, .long ((lX5_dg2 n i a1 S))), (3, .int ((2 : Int32))), (4, .int (nI (2 ^ P1)))] → W p l e rmX5_digest s m [.ref (G.2.2 (10, 0))].toArray below meth c H locs 0 0 (MQ below (kQ G kM Z A (some (.long ((fX5_digest S P1 Q1 F1).1))) ((fX5_digest S P1 Q1 F1).2)) [.ref (G.2.2 (10, 0))].toArray s 0 0 A) (F0 m 92 ls [])) → W p l e rmX5_digest s m [.ref (G.2.2 (10, 0))].toArray below meth c H locs 0 0 (MQ below (kQ G kM Z A (some (.long ((fX5_digest S P1 Q1 F1).1))) ((fX5_digest S P1 Q1 F1).2)) [.ref (G.2.2 (10, 0))].toArray s 0 0 A) (F0 m 55 ls []) := by
    intro n
    induction n with
    | zero =>
      intro i a1 H locs ls hin hw hl kx
      have z_8 : (nI (2 ^ P1)) ≤ (nI i) := (nI_le (a := 2 ^ P1) (b := i) (by omega) (by have h9 := m_pw P1 (by omega); omega))
      refine lv_iload hx hb dX5_digest_55 (lv_at hl 3 rfl) ?_
      refine lv_aload_n hx hb dX5_digest_57 rfl (lv_at hl 0 rfl) ?_
      refine lv_iload_n hx hb dX5_digest_58 rfl (lv_at hl 2 rfl) ?_
      refine k_callV (C := RX5) (n := 1) (rest := [.int (nI i)]) ⟨hx, hb, hml, hown, hts⟩ (cX5c_sizeOf l G Z (uI S 10 0 0 (0 : Int32)) (2 : Int32)) (cwV 1 hts gX5_digest_X5_sizeOf rfl rfl rfl (by decide +kernel) ⟨Nat.le_of_ble_eq_true rfl, Nat.le_of_ble_eq_true rfl⟩) (k_recv hK hw kM_10 rfl rfl) hK hN hZ hA hw (Nat.zero_le _) (Nat.zero_le _) rfl hl.1 rfl (Nat.le_of_ble_eq_true rfl) dX5_digest_59 (fun H locs hw => ?_)
      refine W.eq (g2 := F0 m 62 ls [.int ((fX5_sizeOf (uI S 10 0 0 (0 : Int32)) (2 : Int32))), .int (nI i)]) rfl ?_
      refine k_topi (z := (fX5_sizeOf S (2 : Int32))) (by first | rfl | simp [fX5_sizeOf, uI, uL, uF]) ?_
      refine k_topi (z := nI (2 ^ P1)) (m_sz h_P1 h_P1b h_Q1 h_Q1b 2 (by decide)) ?_
      refine lv_icmp_ge (tgt := 92) hx hb dX5_digest_62 (by decide) (fun _ => ?_) (fun h9 => absurd z_8 h9)
      have hin : i = (2 ^ P1) := hin
      rw [hin] at hl
      exact kx H locs ls hw (lv_sub hl [0, 1, 2, 3] rfl)
    | succ n ih =>
      intro i a1 H locs ls hin hw hl kx
      have hi : i < (2 ^ P1) := by omega
      have hi31 : i < 2 ^ 31 := Nat.lt_trans hi (Nat.lt_of_le_of_lt (m_pw P1 (by omega)) (by decide))
      have z_9 : ¬ ((nI (2 ^ P1)) ≤ (nI i)) := (nI_ge (a := i) (b := 2 ^ P1) hi (Nat.lt_of_le_of_lt (m_pw P1 (by omega)) (by decide)))
      refine lv_iload hx hb dX5_digest_55 (lv_at hl 3 rfl) ?_
      refine lv_aload_n hx hb dX5_digest_57 rfl (lv_at hl 0 rfl) ?_
      refine lv_iload_n hx hb dX5_digest_58 rfl (lv_at hl 2 rfl) ?_
      refine k_callV (C := RX5) (n := 1) (rest := [.int (nI i)]) ⟨hx, hb, hml, hown, hts⟩ (cX5c_sizeOf l G Z (uI S 10 0 0 (0 : Int32)) (2 : Int32)) (cwV 1 hts gX5_digest_X5_sizeOf rfl rfl rfl (by decide +kernel) ⟨Nat.le_of_ble_eq_true rfl, Nat.le_of_ble_eq_true rfl⟩) (k_recv hK hw kM_10 rfl rfl) hK hN hZ hA hw (Nat.zero_le _) (Nat.zero_le _) rfl hl.1 rfl (Nat.le_of_ble_eq_true rfl) dX5_digest_59 (fun H locs hw => ?_)
      refine W.eq (g2 := F0 m 62 ls [.int ((fX5_sizeOf (uI S 10 0 0 (0 : Int32)) (2 : Int32))), .int (nI i)]) rfl ?_
      refine k_topi (z := (fX5_sizeOf S (2 : Int32))) (by first | rfl | simp [fX5_sizeOf, uI, uL, uF]) ?_
      refine k_topi (z := nI (2 ^ P1)) (m_sz h_P1 h_P1b h_Q1 h_Q1b 2 (by decide)) ?_
      refine lv_icmp_ge (tgt := 92) hx hb dX5_digest_62 (by decide) (fun h9 => absurd h9 z_9) (fun _ => ?_)
      refine lv_lload_n hx hb dX5_digest_65 rfl (lv_at hl 1 rfl) ?_
      refine lv_ldc2 (v := 31) hx hb hown (hts (.constantLong RX5 173 (31)) (by decide +kernel)) dX5_digest_66 ?_
      refine lv_lmul hx hb dX5_digest_69 ?_
      refine lv_aload_n hx hb dX5_digest_70 rfl (lv_at hl 0 rfl) ?_
      refine g_10_5 hx hb hts hiX5 hown hK hw kM_10 (hts (.fieldLink RX5 9 "BranchPredictorModel" "counters" "[I") (by decide +kernel)) dX5_digest_71 ?_
      refine lv_sipush (v := 256) hx hb dX5_digest_74 (by decide) ?_
      refine lv_iload_n hx hb dX5_digest_77 rfl (lv_at hl 2 rfl) ?_
      refine lv_imul hx hb dX5_digest_78 ?_
      refine k_topi (z := nI (256 * 2)) (pk_mul 256 2) ?_
      refine lv_iload hx hb dX5_digest_79 (lv_at hl 3 rfl) ?_
      refine lv_iadd hx hb dX5_digest_81 ?_
      refine k_topi (z := nI (256 * 2 + i)) (nI_add (256 * 2) i) ?_
      refine ld_11_0 hx hb hK hw kM_11_0 (vp_in_nI (by have h9 := m_pw P1 (by omega); omega) (by decide)) dX5_digest_82 ?_
      refine k_topi (z := (uI S 10 0 0 (0 : Int32)).1 11 0 (256 * 2 + i)) (by rw [nI_clamp (show 256 * 2 + i < 2 ^ 31 from by have h9 := m_pw P1 (by omega); omega)]) ?_
      refine k_topi (z := S.1 11 0 (256 * 2 + i)) (by simp [uI, uL, uF]) ?_
      refine lv_i2l (v := (S.1 11 0 (256 * 2 + i)).toInt64) hx hb dX5_digest_83 rfl ?_
      refine lv_ladd hx hb dX5_digest_84 ?_
      refine lv_lstore_n (lv' := [(1, .long ((a1 * (31 : Int64)) + ((S.1 11 0 (256 * 2 + i)).toInt64))), (0, .ref (G.2.2 (10, 0))), (3, .int ((2 : Int32))), (4, .int (nI i))]) hx hb dX5_digest_85 rfl hl (by decide) rfl (fun ls hl => ?_)
      refine lv_iinc (v := nI (i + 1)) (lv' := [(4, .int (nI (i + 1))), (1, .long ((a1 * (31 : Int64)) + ((S.1 11 0 (256 * 2 + i)).toInt64))), (0, .ref (G.2.2 (10, 0))), (3, .int ((2 : Int32)))]) hx hb dX5_digest_86 hl (k := 3) rfl (by rw [← nI_1]; rfl) (by decide) rfl (fun ls hl => ?_)
      refine lv_goto (tgt := 55) hx hb dX5_digest_89 (by decide) ?_
      exact ih (i + 1) ((a1 * (31 : Int64)) + ((S.1 11 0 (256 * 2 + i)).toInt64)) H locs ls (by omega) hw (lv_sub hl [2, 1, 3, 0] rfl) (by rw [(show (lX5_dg2 (n + 1) i a1 S) = (lX5_dg2 n (i + 1) ((a1 * (31 : Int64)) + ((S.1 11 0 (256 * 2 + i)).toInt64)) S) from by rw [lX5_dg2])] at kx; exact kx)
  refine hloop_lX5_dg2 (2 ^ P1) 0 (lX5_dg1 (2 ^ Q1) 0 (lX5_dg0 (2 ^ P1) 0 ((((((((2201 : Int64) + ((S.1 10 0 1).toInt64)) * (31 : Int64)) + ((S.1 10 0 2).toInt64)) * (31 : Int64)) + ((S.1 10 0 3).toInt64)) * (31 : Int64)) + ((S.1 10 0 4).toInt64)) S) S) H locs ls (by omega) hw (lv_sub hl [2, 3, 1, 0] rfl) (fun H locs ls hw hl => ?_)
  refine lv_iinc (v := (3 : Int32)) (lv' := [(3, .int ((3 : Int32))), (0, .ref (G.2.2 (10, 0))), (1, .long ((lX5_dg2 (2 ^ P1) 0 (lX5_dg1 (2 ^ Q1) 0 (lX5_dg0 (2 ^ P1) 0 ((((((((2201 : Int64) + ((S.1 10 0 1).toInt64)) * (31 : Int64)) + ((S.1 10 0 2).toInt64)) * (31 : Int64)) + ((S.1 10 0 3).toInt64)) * (31 : Int64)) + ((S.1 10 0 4).toInt64)) S) S) S))), (4, .int (nI (2 ^ P1)))]) hx hb dX5_digest_92 hl (k := 2) rfl (by decide) (by decide) rfl (fun ls hl => ?_)
  refine lv_goto (tgt := 47) hx hb dX5_digest_95 (by decide) ?_
  refine lv_iload_n hx hb dX5_digest_47 rfl (lv_at hl 0 rfl) ?_
  refine lv_iconst (v := 3) hx hb dX5_digest_48 (by decide) ?_
  have q_10 : (3 : Int32) ≤ (3 : Int32) := by decide
  refine lv_icmp_ge (tgt := 98) hx hb dX5_digest_49 (by decide) (fun _ => ?_) (fun h9 => absurd q_10 h9)
  refine lv_iconst (v := 0) hx hb dX5_digest_98 (by decide) ?_
  refine lv_istore_n (lv' := [(3, .int ((0 : Int32))), (0, .ref (G.2.2 (10, 0))), (1, .long ((lX5_dg2 (2 ^ P1) 0 (lX5_dg1 (2 ^ Q1) 0 (lX5_dg0 (2 ^ P1) 0 ((((((((2201 : Int64) + ((S.1 10 0 1).toInt64)) * (31 : Int64)) + ((S.1 10 0 2).toInt64)) * (31 : Int64)) + ((S.1 10 0 3).toInt64)) * (31 : Int64)) + ((S.1 10 0 4).toInt64)) S) S) S))), (4, .int (nI (2 ^ P1)))]) hx hb dX5_digest_99 rfl hl (by decide) rfl (fun ls hl => ?_)
  have hloop_lX5_dgL : ∀ (n i : Nat) (a1 : Int64) (H : Heap) (locs : List Loc) (ls : Array Slot), i + n = 8 → kS G kM (uI S 10 0 0 (0 : Int32)) Z A s.heap H locs → lv_has ls 5 [(0, .ref (G.2.2 (10, 0))), (1, .long (a1)), (3, .int (nI i))] → (∀ (H : Heap) (locs : List Loc) (ls : Array Slot), kS G kM (uI S 10 0 0 (0 : Int32)) Z A s.heap H locs → lv_has ls 5 [(0, .ref (G.2.2 (10, 0))), (1, .long ((lX5_dgL F1 n i a1 S))), (3, .int (nI 8))] → W p l e rmX5_digest s m [.ref (G.2.2 (10, 0))].toArray below meth c H locs 0 0 (MQ below (kQ G kM Z A (some (.long ((fX5_digest S P1 Q1 F1).1))) ((fX5_digest S P1 Q1 F1).2)) [.ref (G.2.2 (10, 0))].toArray s 0 0 A) (F0 m 142 ls [])) → W p l e rmX5_digest s m [.ref (G.2.2 (10, 0))].toArray below meth c H locs 0 0 (MQ below (kQ G kM Z A (some (.long ((fX5_digest S P1 Q1 F1).1))) ((fX5_digest S P1 Q1 F1).2)) [.ref (G.2.2 (10, 0))].toArray s 0 0 A) (F0 m 100 ls []) := by
    intro n
    induction n with
    | zero =>
      intro i a1 H locs ls hin hw hl kx
      have z_11 : (8 : Int32) ≤ (nI i) := (nI_le (a := 8) (b := i) (by omega) (by omega))
      refine lv_iload_n hx hb dX5_digest_100 rfl (lv_at hl 2 rfl) ?_
      refine lv_bipush (v := 8) hx hb dX5_digest_101 (by decide) ?_
      refine lv_icmp_ge (tgt := 142) hx hb dX5_digest_103 (by decide) (fun _ => ?_) (fun h9 => absurd z_11 h9)
      have hin : i = 8 := hin
      rw [hin] at hl
      exact kx H locs ls hw (lv_sub hl [0, 1, 2] rfl)
    | succ n ih =>
      intro i a1 H locs ls hin hw hl kx
      have hi : i < 8 := by omega
      have hi31 : i < 2 ^ 31 := Nat.lt_trans hi (by decide)
      have z_12 : ¬ ((8 : Int32) ≤ (nI i)) := (nI_ge (a := i) (b := 8) hi (by decide))
      refine lv_iload_n hx hb dX5_digest_100 rfl (lv_at hl 2 rfl) ?_
      refine lv_bipush (v := 8) hx hb dX5_digest_101 (by decide) ?_
      refine lv_icmp_ge (tgt := 142) hx hb dX5_digest_103 (by decide) (fun h9 => absurd h9 z_12) (fun _ => ?_)
      refine lv_iconst (v := 0) hx hb dX5_digest_106 (by decide) ?_
      refine lv_istore (lv' := [(4, .int ((0 : Int32))), (0, .ref (G.2.2 (10, 0))), (1, .long (a1)), (3, .int (nI i))]) hx hb dX5_digest_107 hl (by decide) rfl (fun ls hl => ?_)
      refine lv_iload hx hb dX5_digest_109 (lv_at hl 0 rfl) ?_
      refine lv_iconst (v := 4) hx hb dX5_digest_111 (by decide) ?_
      have q_13 : ¬ ((4 : Int32) ≤ (0 : Int32)) := by decide
      refine lv_icmp_ge (tgt := 136) hx hb dX5_digest_112 (by decide) (fun h9 => absurd h9 q_13) (fun _ => ?_)
      refine lv_lload_n hx hb dX5_digest_115 rfl (lv_at hl 2 rfl) ?_
      refine lv_ldc2 (v := 31) hx hb hown (hts (.constantLong RX5 173 (31)) (by decide +kernel)) dX5_digest_116 ?_
      refine lv_lmul hx hb dX5_digest_119 ?_
      refine lv_aload_n hx hb dX5_digest_120 rfl (lv_at hl 1 rfl) ?_
      refine lv_iload_n hx hb dX5_digest_121 rfl (lv_at hl 3 rfl) ?_
      refine lv_iload hx hb dX5_digest_122 (lv_at hl 0 rfl) ?_
      refine k_callV (C := RX5) (n := 2) (rest := [.long (a1 * (31 : Int64))]) ⟨hx, hb, hml, hown, hts⟩ (cX5c_ofLoop l G Z (uI S 10 0 0 (0 : Int32)) F1 h_F1 h_F1b i (by omega) (0 : Int32)) (cwV 2 hts gX5_digest_X5_ofLoop rfl rfl rfl (by decide +kernel) ⟨Nat.le_of_ble_eq_true rfl, Nat.le_of_ble_eq_true rfl⟩) (k_recv hK hw kM_10 rfl rfl) hK hN hZ hA hw (Nat.zero_le _) (Nat.zero_le _) rfl hl.1 rfl (Nat.le_of_ble_eq_true rfl) dX5_digest_124 (fun H locs hw => ?_)
      refine W.eq (g2 := F0 m 127 ls [.int ((fX5_ofLoop (uI S 10 0 0 (0 : Int32)) F1 i (0 : Int32))), .long (a1 * (31 : Int64))]) rfl ?_
      refine k_topi (z := (fX5_ofLoop S F1 i (0 : Int32))) (by rw [fX5_ofLoop_t]) ?_
      refine lv_i2l (v := ((fX5_ofLoop S F1 i (0 : Int32))).toInt64) hx hb dX5_digest_127 rfl ?_
      refine lv_ladd hx hb dX5_digest_128 ?_
      refine lv_lstore_n (lv' := [(1, .long ((a1 * (31 : Int64)) + (((fX5_ofLoop S F1 i (0 : Int32))).toInt64))), (4, .int ((0 : Int32))), (0, .ref (G.2.2 (10, 0))), (3, .int (nI i))]) hx hb dX5_digest_129 rfl hl (by decide) rfl (fun ls hl => ?_)
      refine lv_iinc (v := (1 : Int32)) (lv' := [(4, .int ((1 : Int32))), (1, .long ((a1 * (31 : Int64)) + (((fX5_ofLoop S F1 i (0 : Int32))).toInt64))), (0, .ref (G.2.2 (10, 0))), (3, .int (nI i))]) hx hb dX5_digest_130 hl (k := 1) rfl (by decide) (by decide) rfl (fun ls hl => ?_)
      refine lv_goto (tgt := 109) hx hb dX5_digest_133 (by decide) ?_
      refine lv_iload hx hb dX5_digest_109 (lv_at hl 0 rfl) ?_
      refine lv_iconst (v := 4) hx hb dX5_digest_111 (by decide) ?_
      have q_14 : ¬ ((4 : Int32) ≤ (1 : Int32)) := by decide
      refine lv_icmp_ge (tgt := 136) hx hb dX5_digest_112 (by decide) (fun h9 => absurd h9 q_14) (fun _ => ?_)
      refine lv_lload_n hx hb dX5_digest_115 rfl (lv_at hl 1 rfl) ?_
      refine lv_ldc2 (v := 31) hx hb hown (hts (.constantLong RX5 173 (31)) (by decide +kernel)) dX5_digest_116 ?_
      refine lv_lmul hx hb dX5_digest_119 ?_
      refine lv_aload_n hx hb dX5_digest_120 rfl (lv_at hl 2 rfl) ?_
      refine lv_iload_n hx hb dX5_digest_121 rfl (lv_at hl 3 rfl) ?_
      refine lv_iload hx hb dX5_digest_122 (lv_at hl 0 rfl) ?_
      refine k_callV (C := RX5) (n := 2) (rest := [.long (((a1 * (31 : Int64)) + (((fX5_ofLoop S F1 i (0 : Int32))).toInt64)) * (31 : Int64))]) ⟨hx, hb, hml, hown, hts⟩ (cX5c_ofLoop l G Z (uI S 10 0 0 (0 : Int32)) F1 h_F1 h_F1b i (by omega) (1 : Int32)) (cwV 2 hts gX5_digest_X5_ofLoop rfl rfl rfl (by decide +kernel) ⟨Nat.le_of_ble_eq_true rfl, Nat.le_of_ble_eq_true rfl⟩) (k_recv hK hw kM_10 rfl rfl) hK hN hZ hA hw (Nat.zero_le _) (Nat.zero_le _) rfl hl.1 rfl (Nat.le_of_ble_eq_true rfl) dX5_digest_124 (fun H locs hw => ?_)
      refine W.eq (g2 := F0 m 127 ls [.int ((fX5_ofLoop (uI S 10 0 0 (0 : Int32)) F1 i (1 : Int32))), .long (((a1 * (31 : Int64)) + (((fX5_ofLoop S F1 i (0 : Int32))).toInt64)) * (31 : Int64))]) rfl ?_
      refine k_topi (z := (fX5_ofLoop S F1 i (1 : Int32))) (by rw [fX5_ofLoop_t]) ?_
      refine lv_i2l (v := ((fX5_ofLoop S F1 i (1 : Int32))).toInt64) hx hb dX5_digest_127 rfl ?_
      refine lv_ladd hx hb dX5_digest_128 ?_
      refine lv_lstore_n (lv' := [(1, .long ((((a1 * (31 : Int64)) + (((fX5_ofLoop S F1 i (0 : Int32))).toInt64)) * (31 : Int64)) + (((fX5_ofLoop S F1 i (1 : Int32))).toInt64))), (4, .int ((1 : Int32))), (0, .ref (G.2.2 (10, 0))), (3, .int (nI i))]) hx hb dX5_digest_129 rfl hl (by decide) rfl (fun ls hl => ?_)
      refine lv_iinc (v := (2 : Int32)) (lv' := [(4, .int ((2 : Int32))), (1, .long ((((a1 * (31 : Int64)) + (((fX5_ofLoop S F1 i (0 : Int32))).toInt64)) * (31 : Int64)) + (((fX5_ofLoop S F1 i (1 : Int32))).toInt64))), (0, .ref (G.2.2 (10, 0))), (3, .int (nI i))]) hx hb dX5_digest_130 hl (k := 1) rfl (by decide) (by decide) rfl (fun ls hl => ?_)
      refine lv_goto (tgt := 109) hx hb dX5_digest_133 (by decide) ?_
      refine lv_iload hx hb dX5_digest_109 (lv_at hl 0 rfl) ?_
      refine lv_iconst (v := 4) hx hb dX5_digest_111 (by decide) ?_
      have q_15 : ¬ ((4 : Int32) ≤ (2 : Int32)) := by decide
      refine lv_icmp_ge (tgt := 136) hx hb dX5_digest_112 (by decide) (fun h9 => absurd h9 q_15) (fun _ => ?_)
      refine lv_lload_n hx hb dX5_digest_115 rfl (lv_at hl 1 rfl) ?_
      refine lv_ldc2 (v := 31) hx hb hown (hts (.constantLong RX5 173 (31)) (by decide +kernel)) dX5_digest_116 ?_
      refine lv_lmul hx hb dX5_digest_119 ?_
      refine lv_aload_n hx hb dX5_digest_120 rfl (lv_at hl 2 rfl) ?_
      refine lv_iload_n hx hb dX5_digest_121 rfl (lv_at hl 3 rfl) ?_
      refine lv_iload hx hb dX5_digest_122 (lv_at hl 0 rfl) ?_
      refine k_callV (C := RX5) (n := 2) (rest := [.long (((((a1 * (31 : Int64)) + (((fX5_ofLoop S F1 i (0 : Int32))).toInt64)) * (31 : Int64)) + (((fX5_ofLoop S F1 i (1 : Int32))).toInt64)) * (31 : Int64))]) ⟨hx, hb, hml, hown, hts⟩ (cX5c_ofLoop l G Z (uI S 10 0 0 (0 : Int32)) F1 h_F1 h_F1b i (by omega) (2 : Int32)) (cwV 2 hts gX5_digest_X5_ofLoop rfl rfl rfl (by decide +kernel) ⟨Nat.le_of_ble_eq_true rfl, Nat.le_of_ble_eq_true rfl⟩) (k_recv hK hw kM_10 rfl rfl) hK hN hZ hA hw (Nat.zero_le _) (Nat.zero_le _) rfl hl.1 rfl (Nat.le_of_ble_eq_true rfl) dX5_digest_124 (fun H locs hw => ?_)
      refine W.eq (g2 := F0 m 127 ls [.int ((fX5_ofLoop (uI S 10 0 0 (0 : Int32)) F1 i (2 : Int32))), .long (((((a1 * (31 : Int64)) + (((fX5_ofLoop S F1 i (0 : Int32))).toInt64)) * (31 : Int64)) + (((fX5_ofLoop S F1 i (1 : Int32))).toInt64)) * (31 : Int64))]) rfl ?_
      refine k_topi (z := (fX5_ofLoop S F1 i (2 : Int32))) (by rw [fX5_ofLoop_t]) ?_
      refine lv_i2l (v := ((fX5_ofLoop S F1 i (2 : Int32))).toInt64) hx hb dX5_digest_127 rfl ?_
      refine lv_ladd hx hb dX5_digest_128 ?_
      refine lv_lstore_n (lv' := [(1, .long ((((((a1 * (31 : Int64)) + (((fX5_ofLoop S F1 i (0 : Int32))).toInt64)) * (31 : Int64)) + (((fX5_ofLoop S F1 i (1 : Int32))).toInt64)) * (31 : Int64)) + (((fX5_ofLoop S F1 i (2 : Int32))).toInt64))), (4, .int ((2 : Int32))), (0, .ref (G.2.2 (10, 0))), (3, .int (nI i))]) hx hb dX5_digest_129 rfl hl (by decide) rfl (fun ls hl => ?_)
      refine lv_iinc (v := (3 : Int32)) (lv' := [(4, .int ((3 : Int32))), (1, .long ((((((a1 * (31 : Int64)) + (((fX5_ofLoop S F1 i (0 : Int32))).toInt64)) * (31 : Int64)) + (((fX5_ofLoop S F1 i (1 : Int32))).toInt64)) * (31 : Int64)) + (((fX5_ofLoop S F1 i (2 : Int32))).toInt64))), (0, .ref (G.2.2 (10, 0))), (3, .int (nI i))]) hx hb dX5_digest_130 hl (k := 1) rfl (by decide) (by decide) rfl (fun ls hl => ?_)
      refine lv_goto (tgt := 109) hx hb dX5_digest_133 (by decide) ?_
      refine lv_iload hx hb dX5_digest_109 (lv_at hl 0 rfl) ?_
      refine lv_iconst (v := 4) hx hb dX5_digest_111 (by decide) ?_
      have q_16 : ¬ ((4 : Int32) ≤ (3 : Int32)) := by decide
      refine lv_icmp_ge (tgt := 136) hx hb dX5_digest_112 (by decide) (fun h9 => absurd h9 q_16) (fun _ => ?_)
      refine lv_lload_n hx hb dX5_digest_115 rfl (lv_at hl 1 rfl) ?_
      refine lv_ldc2 (v := 31) hx hb hown (hts (.constantLong RX5 173 (31)) (by decide +kernel)) dX5_digest_116 ?_
      refine lv_lmul hx hb dX5_digest_119 ?_
      refine lv_aload_n hx hb dX5_digest_120 rfl (lv_at hl 2 rfl) ?_
      refine lv_iload_n hx hb dX5_digest_121 rfl (lv_at hl 3 rfl) ?_
      refine lv_iload hx hb dX5_digest_122 (lv_at hl 0 rfl) ?_
      refine k_callV (C := RX5) (n := 2) (rest := [.long (((((((a1 * (31 : Int64)) + (((fX5_ofLoop S F1 i (0 : Int32))).toInt64)) * (31 : Int64)) + (((fX5_ofLoop S F1 i (1 : Int32))).toInt64)) * (31 : Int64)) + (((fX5_ofLoop S F1 i (2 : Int32))).toInt64)) * (31 : Int64))]) ⟨hx, hb, hml, hown, hts⟩ (cX5c_ofLoop l G Z (uI S 10 0 0 (0 : Int32)) F1 h_F1 h_F1b i (by omega) (3 : Int32)) (cwV 2 hts gX5_digest_X5_ofLoop rfl rfl rfl (by decide +kernel) ⟨Nat.le_of_ble_eq_true rfl, Nat.le_of_ble_eq_true rfl⟩) (k_recv hK hw kM_10 rfl rfl) hK hN hZ hA hw (Nat.zero_le _) (Nat.zero_le _) rfl hl.1 rfl (Nat.le_of_ble_eq_true rfl) dX5_digest_124 (fun H locs hw => ?_)
      refine W.eq (g2 := F0 m 127 ls [.int ((fX5_ofLoop (uI S 10 0 0 (0 : Int32)) F1 i (3 : Int32))), .long (((((((a1 * (31 : Int64)) + (((fX5_ofLoop S F1 i (0 : Int32))).toInt64)) * (31 : Int64)) + (((fX5_ofLoop S F1 i (1 : Int32))).toInt64)) * (31 : Int64)) + (((fX5_ofLoop S F1 i (2 : Int32))).toInt64)) * (31 : Int64))]) rfl ?_
      refine k_topi (z := (fX5_ofLoop S F1 i (3 : Int32))) (by rw [fX5_ofLoop_t]) ?_
      refine lv_i2l (v := ((fX5_ofLoop S F1 i (3 : Int32))).toInt64) hx hb dX5_digest_127 rfl ?_
      refine lv_ladd hx hb dX5_digest_128 ?_
      refine lv_lstore_n (lv' := [(1, .long ((((((((a1 * (31 : Int64)) + (((fX5_ofLoop S F1 i (0 : Int32))).toInt64)) * (31 : Int64)) + (((fX5_ofLoop S F1 i (1 : Int32))).toInt64)) * (31 : Int64)) + (((fX5_ofLoop S F1 i (2 : Int32))).toInt64)) * (31 : Int64)) + (((fX5_ofLoop S F1 i (3 : Int32))).toInt64))), (4, .int ((3 : Int32))), (0, .ref (G.2.2 (10, 0))), (3, .int (nI i))]) hx hb dX5_digest_129 rfl hl (by decide) rfl (fun ls hl => ?_)
      refine lv_iinc (v := (4 : Int32)) (lv' := [(4, .int ((4 : Int32))), (1, .long ((((((((a1 * (31 : Int64)) + (((fX5_ofLoop S F1 i (0 : Int32))).toInt64)) * (31 : Int64)) + (((fX5_ofLoop S F1 i (1 : Int32))).toInt64)) * (31 : Int64)) + (((fX5_ofLoop S F1 i (2 : Int32))).toInt64)) * (31 : Int64)) + (((fX5_ofLoop S F1 i (3 : Int32))).toInt64))), (0, .ref (G.2.2 (10, 0))), (3, .int (nI i))]) hx hb dX5_digest_130 hl (k := 1) rfl (by decide) (by decide) rfl (fun ls hl => ?_)
      refine lv_goto (tgt := 109) hx hb dX5_digest_133 (by decide) ?_
      refine lv_iload hx hb dX5_digest_109 (lv_at hl 0 rfl) ?_
      refine lv_iconst (v := 4) hx hb dX5_digest_111 (by decide) ?_
      have q_17 : (4 : Int32) ≤ (4 : Int32) := by decide
      refine lv_icmp_ge (tgt := 136) hx hb dX5_digest_112 (by decide) (fun _ => ?_) (fun h9 => absurd q_17 h9)
      refine lv_iinc (v := nI (i + 1)) (lv' := [(3, .int (nI (i + 1))), (4, .int ((4 : Int32))), (1, .long ((((((((a1 * (31 : Int64)) + (((fX5_ofLoop S F1 i (0 : Int32))).toInt64)) * (31 : Int64)) + (((fX5_ofLoop S F1 i (1 : Int32))).toInt64)) * (31 : Int64)) + (((fX5_ofLoop S F1 i (2 : Int32))).toInt64)) * (31 : Int64)) + (((fX5_ofLoop S F1 i (3 : Int32))).toInt64))), (0, .ref (G.2.2 (10, 0)))]) hx hb dX5_digest_136 hl (k := 3) rfl (by rw [← nI_1]; rfl) (by decide) rfl (fun ls hl => ?_)
      refine lv_goto (tgt := 100) hx hb dX5_digest_139 (by decide) ?_
      exact ih (i + 1) ((((((((a1 * (31 : Int64)) + (((fX5_ofLoop S F1 i (0 : Int32))).toInt64)) * (31 : Int64)) + (((fX5_ofLoop S F1 i (1 : Int32))).toInt64)) * (31 : Int64)) + (((fX5_ofLoop S F1 i (2 : Int32))).toInt64)) * (31 : Int64)) + (((fX5_ofLoop S F1 i (3 : Int32))).toInt64)) H locs ls (by omega) hw (lv_sub hl [3, 2, 0] rfl) (by rw [(show (lX5_dgL F1 (n + 1) i a1 S) = (lX5_dgL F1 n (i + 1) ((((((((a1 * (31 : Int64)) + (((fX5_ofLoop S F1 i (0 : Int32))).toInt64)) * (31 : Int64)) + (((fX5_ofLoop S F1 i (1 : Int32))).toInt64)) * (31 : Int64)) + (((fX5_ofLoop S F1 i (2 : Int32))).toInt64)) * (31 : Int64)) + (((fX5_ofLoop S F1 i (3 : Int32))).toInt64)) S) from by rw [lX5_dgL])] at kx; exact kx)
  refine hloop_lX5_dgL 8 0 (lX5_dg2 (2 ^ P1) 0 (lX5_dg1 (2 ^ Q1) 0 (lX5_dg0 (2 ^ P1) 0 ((((((((2201 : Int64) + ((S.1 10 0 1).toInt64)) * (31 : Int64)) + ((S.1 10 0 2).toInt64)) * (31 : Int64)) + ((S.1 10 0 3).toInt64)) * (31 : Int64)) + ((S.1 10 0 4).toInt64)) S) S) S) H locs ls (by omega) hw (lv_sub hl [1, 2, 0] rfl) (fun H locs ls hw hl => ?_)
  refine lv_iconst (v := 0) hx hb dX5_digest_142 (by decide) ?_
  refine lv_istore_n (lv' := [(3, .int ((0 : Int32))), (0, .ref (G.2.2 (10, 0))), (1, .long ((lX5_dgL F1 8 0 (lX5_dg2 (2 ^ P1) 0 (lX5_dg1 (2 ^ Q1) 0 (lX5_dg0 (2 ^ P1) 0 ((((((((2201 : Int64) + ((S.1 10 0 1).toInt64)) * (31 : Int64)) + ((S.1 10 0 2).toInt64)) * (31 : Int64)) + ((S.1 10 0 3).toInt64)) * (31 : Int64)) + ((S.1 10 0 4).toInt64)) S) S) S) S)))]) hx hb dX5_digest_143 rfl hl (by decide) rfl (fun ls hl => ?_)
  have hloop_lX5_dgB : ∀ (n i : Nat) (a1 : Int64) (H : Heap) (locs : List Loc) (ls : Array Slot), i + n = F1 → kS G kM (uI S 10 0 0 (0 : Int32)) Z A s.heap H locs → lv_has ls 5 [(0, .ref (G.2.2 (10, 0))), (1, .long (a1)), (3, .int (nI i))] → (∀ (H : Heap) (locs : List Loc) (ls : Array Slot), kS G kM (uI S 10 0 0 (0 : Int32)) Z A s.heap H locs → lv_has ls 5 [(0, .ref (G.2.2 (10, 0))), (1, .long ((lX5_dgB n i a1 S))), (3, .int (nI F1))] → W p l e rmX5_digest s m [.ref (G.2.2 (10, 0))].toArray below meth c H locs 0 0 (MQ below (kQ G kM Z A (some (.long ((fX5_digest S P1 Q1 F1).1))) ((fX5_digest S P1 Q1 F1).2)) [.ref (G.2.2 (10, 0))].toArray s 0 0 A) (F0 m 183 ls [])) → W p l e rmX5_digest s m [.ref (G.2.2 (10, 0))].toArray below meth c H locs 0 0 (MQ below (kQ G kM Z A (some (.long ((fX5_digest S P1 Q1 F1).1))) ((fX5_digest S P1 Q1 F1).2)) [.ref (G.2.2 (10, 0))].toArray s 0 0 A) (F0 m 144 ls []) := by
    intro n
    induction n with
    | zero =>
      intro i a1 H locs ls hin hw hl kx
      have z_18 : (nI F1) ≤ (nI i) := (nI_le (a := F1) (b := i) (by omega) (by omega))
      refine lv_iload_n hx hb dX5_digest_144 rfl (lv_at hl 2 rfl) ?_
      refine lv_aload_n hx hb dX5_digest_145 rfl (lv_at hl 0 rfl) ?_
      refine g_10_7 hx hb hts hiX5 hown hK hw kM_10 (hts (.fieldLink RX5 74 "BranchPredictorModel" "flying" "I") (by decide +kernel)) dX5_digest_146 ?_
      refine k_topi (z := S.1 10 0 7) (by simp [uI, uL, uF]) ?_
      refine k_topi (z := nI F1) (h_F1) ?_
      refine lv_icmp_ge (tgt := 183) hx hb dX5_digest_149 (by decide) (fun _ => ?_) (fun h9 => absurd z_18 h9)
      have hin : i = F1 := hin
      rw [hin] at hl
      exact kx H locs ls hw (lv_sub hl [0, 1, 2] rfl)
    | succ n ih =>
      intro i a1 H locs ls hin hw hl kx
      have hi : i < F1 := by omega
      have hi31 : i < 2 ^ 31 := Nat.lt_trans hi (by omega)
      have z_19 : ¬ ((nI F1) ≤ (nI i)) := (nI_ge (a := i) (b := F1) hi (by omega))
      refine lv_iload_n hx hb dX5_digest_144 rfl (lv_at hl 2 rfl) ?_
      refine lv_aload_n hx hb dX5_digest_145 rfl (lv_at hl 0 rfl) ?_
      refine g_10_7 hx hb hts hiX5 hown hK hw kM_10 (hts (.fieldLink RX5 74 "BranchPredictorModel" "flying" "I") (by decide +kernel)) dX5_digest_146 ?_
      refine k_topi (z := S.1 10 0 7) (by simp [uI, uL, uF]) ?_
      refine k_topi (z := nI F1) (h_F1) ?_
      refine lv_icmp_ge (tgt := 183) hx hb dX5_digest_149 (by decide) (fun h9 => absurd h9 z_19) (fun _ => ?_)
      refine lv_lload_n hx hb dX5_digest_152 rfl (lv_at hl 1 rfl) ?_
      refine lv_ldc2 (v := 31) hx hb hown (hts (.constantLong RX5 173 (31)) (by decide +kernel)) dX5_digest_153 ?_
      refine lv_lmul hx hb dX5_digest_156 ?_
      refine lv_aload_n hx hb dX5_digest_157 rfl (lv_at hl 0 rfl) ?_
      refine g_10_8 hx hb hts hiX5 hown hK hw kM_10 (hts (.fieldLink RX5 16 "BranchPredictorModel" "places" "[I") (by decide +kernel)) dX5_digest_158 ?_
      refine lv_iload_n hx hb dX5_digest_161 rfl (lv_at hl 2 rfl) ?_
      refine ld_11_2 hx hb hK hw kM_11_2 (vp_in_nI (by first | omega | (split <;> omega)) (by decide)) dX5_digest_162 ?_
      refine k_topi (z := (uI S 10 0 0 (0 : Int32)).1 11 2 i) (by rw [nI_clamp hi31]) ?_
      refine k_topi (z := S.1 11 2 i) (by simp [uI, uL, uF]) ?_
      refine lv_i2l (v := (S.1 11 2 i).toInt64) hx hb dX5_digest_163 rfl ?_
      refine lv_ladd hx hb dX5_digest_164 ?_
      refine lv_ldc2 (v := 31) hx hb hown (hts (.constantLong RX5 173 (31)) (by decide +kernel)) dX5_digest_165 ?_
      refine lv_lmul hx hb dX5_digest_168 ?_
      refine lv_aload_n hx hb dX5_digest_169 rfl (lv_at hl 0 rfl) ?_
      refine lv_iload_n hx hb dX5_digest_170 rfl (lv_at hl 2 rfl) ?_
      refine k_callV (C := RX5) (n := 1) (rest := [.long (((a1 * (31 : Int64)) + ((S.1 11 2 i).toInt64)) * (31 : Int64))]) ⟨hx, hb, hml, hown, hts⟩ (cX5c_stateOf l G Z (uI S 10 0 0 (0 : Int32)) i (by omega)) (cwV 1 hts gX5_digest_X5_stateOf rfl rfl rfl (by decide +kernel) ⟨Nat.le_of_ble_eq_true rfl, Nat.le_of_ble_eq_true rfl⟩) (k_recv hK hw kM_10 rfl rfl) hK hN hZ hA hw (Nat.zero_le _) (Nat.zero_le _) rfl hl.1 rfl (Nat.le_of_ble_eq_true rfl) dX5_digest_171 (fun H locs hw => ?_)
      refine W.eq (g2 := F0 m 174 ls [.int ((fX5_stateOf (uI S 10 0 0 (0 : Int32)) i)), .long (((a1 * (31 : Int64)) + ((S.1 11 2 i).toInt64)) * (31 : Int64))]) rfl ?_
      refine k_topi (z := (fX5_stateOf S i)) (rfl) ?_
      refine lv_i2l (v := ((fX5_stateOf S i)).toInt64) hx hb dX5_digest_174 rfl ?_
      refine lv_ladd hx hb dX5_digest_175 ?_
      refine lv_lstore_n (lv' := [(1, .long ((((a1 * (31 : Int64)) + ((S.1 11 2 i).toInt64)) * (31 : Int64)) + (((fX5_stateOf S i)).toInt64))), (0, .ref (G.2.2 (10, 0))), (3, .int (nI i))]) hx hb dX5_digest_176 rfl hl (by decide) rfl (fun ls hl => ?_)
      refine lv_iinc (v := nI (i + 1)) (lv' := [(3, .int (nI (i + 1))), (1, .long ((((a1 * (31 : Int64)) + ((S.1 11 2 i).toInt64)) * (31 : Int64)) + (((fX5_stateOf S i)).toInt64))), (0, .ref (G.2.2 (10, 0)))]) hx hb dX5_digest_177 hl (k := 2) rfl (by rw [← nI_1]; rfl) (by decide) rfl (fun ls hl => ?_)
      refine lv_goto (tgt := 144) hx hb dX5_digest_180 (by decide) ?_
      exact ih (i + 1) ((((a1 * (31 : Int64)) + ((S.1 11 2 i).toInt64)) * (31 : Int64)) + (((fX5_stateOf S i)).toInt64)) H locs ls (by omega) hw (lv_sub hl [2, 1, 0] rfl) (by rw [(show (lX5_dgB (n + 1) i a1 S) = (lX5_dgB n (i + 1) ((((a1 * (31 : Int64)) + ((S.1 11 2 i).toInt64)) * (31 : Int64)) + (((fX5_stateOf S i)).toInt64)) S) from by rw [lX5_dgB])] at kx; exact kx)
  refine hloop_lX5_dgB F1 0 (lX5_dgL F1 8 0 (lX5_dg2 (2 ^ P1) 0 (lX5_dg1 (2 ^ Q1) 0 (lX5_dg0 (2 ^ P1) 0 ((((((((2201 : Int64) + ((S.1 10 0 1).toInt64)) * (31 : Int64)) + ((S.1 10 0 2).toInt64)) * (31 : Int64)) + ((S.1 10 0 3).toInt64)) * (31 : Int64)) + ((S.1 10 0 4).toInt64)) S) S) S) S) H locs ls (by omega) hw (lv_sub hl [1, 2, 0] rfl) (fun H locs ls hw hl => ?_)
  refine lv_lload_n hx hb dX5_digest_183 rfl (lv_at hl 1 rfl) ?_
  refine lv_ldc2 (v := 31) hx hb hown (hts (.constantLong RX5 173 (31)) (by decide +kernel)) dX5_digest_184 ?_
  refine lv_lmul hx hb dX5_digest_187 ?_
  refine lv_aload_n hx hb dX5_digest_188 rfl (lv_at hl 0 rfl) ?_
  refine g_10_18 hx hb hts hiX5 hown hK hw kM_10 (hts (.fieldLink RX5 77 "BranchPredictorModel" "commits" "J") (by decide +kernel)) dX5_digest_189 ?_
  refine k_topl (z := S.2.1 10 0 18) (by simp [uI, uL, uF]) ?_
  refine lv_ladd hx hb dX5_digest_192 ?_
  refine lv_ldc2 (v := 31) hx hb hown (hts (.constantLong RX5 173 (31)) (by decide +kernel)) dX5_digest_193 ?_
  refine lv_lmul hx hb dX5_digest_196 ?_
  refine lv_aload_n hx hb dX5_digest_197 rfl (lv_at hl 0 rfl) ?_
  refine g_10_19 hx hb hts hiX5 hown hK hw kM_10 (hts (.fieldLink RX5 81 "BranchPredictorModel" "drops" "J") (by decide +kernel)) dX5_digest_198 ?_
  refine k_topl (z := S.2.1 10 0 19) (by simp [uI, uL, uF]) ?_
  refine lv_ladd hx hb dX5_digest_201 ?_
  refine lv_ldc2 (v := 31) hx hb hown (hts (.constantLong RX5 173 (31)) (by decide +kernel)) dX5_digest_202 ?_
  refine lv_lmul hx hb dX5_digest_205 ?_
  refine lv_aload_n hx hb dX5_digest_206 rfl (lv_at hl 0 rfl) ?_
  refine g_10_21 hx hb hts hiX5 hown hK hw kM_10 (hts (.fieldLink RX5 51 "BranchPredictorModel" "meetings" "[J") (by decide +kernel)) dX5_digest_207 ?_
  refine lv_iconst (v := 0) hx hb dX5_digest_210 (by decide) ?_
  refine ld_13_1 hx hb hK hw kM_13_1 (by unfold vp_in; decide) dX5_digest_211 ?_
  refine k_topl (z := (uI S 10 0 0 (0 : Int32)).2.1 13 1 0) rfl ?_
  refine k_topl (z := S.2.1 13 1 0) (by simp [uI, uL, uF]) ?_
  refine lv_ladd hx hb dX5_digest_212 ?_
  refine lv_ldc2 (v := 31) hx hb hown (hts (.constantLong RX5 173 (31)) (by decide +kernel)) dX5_digest_213 ?_
  refine lv_lmul hx hb dX5_digest_216 ?_
  refine lv_aload_n hx hb dX5_digest_217 rfl (lv_at hl 0 rfl) ?_
  refine g_10_21 hx hb hts hiX5 hown hK hw kM_10 (hts (.fieldLink RX5 51 "BranchPredictorModel" "meetings" "[J") (by decide +kernel)) dX5_digest_218 ?_
  refine lv_iconst (v := 2) hx hb dX5_digest_221 (by decide) ?_
  refine ld_13_1 hx hb hK hw kM_13_1 (by unfold vp_in; decide) dX5_digest_222 ?_
  refine k_topl (z := (uI S 10 0 0 (0 : Int32)).2.1 13 1 2) rfl ?_
  refine k_topl (z := S.2.1 13 1 2) (by simp [uI, uL, uF]) ?_
  refine lv_ladd hx hb dX5_digest_223 ?_
  exact k_lret hx hb hr hlocks hK hw (congrArg (fun z : Int64 × uS => some (Value.long (z.1))) (show (fX5_digest S P1 Q1 F1) = (((((((((lX5_dgB F1 0 (lX5_dgL F1 8 0 (lX5_dg2 (2 ^ P1) 0 (lX5_dg1 (2 ^ Q1) 0 (lX5_dg0 (2 ^ P1) 0 ((((((((2201 : Int64) + ((S.1 10 0 1).toInt64)) * (31 : Int64)) + ((S.1 10 0 2).toInt64)) * (31 : Int64)) + ((S.1 10 0 3).toInt64)) * (31 : Int64)) + ((S.1 10 0 4).toInt64)) S) S) S) S) S) * (31 : Int64)) + (S.2.1 10 0 18)) * (31 : Int64)) + (S.2.1 10 0 19)) * (31 : Int64)) + (S.2.1 13 1 0)) * (31 : Int64)) + (S.2.1 13 1 2), (uI S 10 0 0 (0 : Int32))) from by unfold fX5_digest; rfl)) (congrArg (a₁ := (fX5_digest S P1 Q1 F1)) (a₂ := (((((((((lX5_dgB F1 0 (lX5_dgL F1 8 0 (lX5_dg2 (2 ^ P1) 0 (lX5_dg1 (2 ^ Q1) 0 (lX5_dg0 (2 ^ P1) 0 ((((((((2201 : Int64) + ((S.1 10 0 1).toInt64)) * (31 : Int64)) + ((S.1 10 0 2).toInt64)) * (31 : Int64)) + ((S.1 10 0 3).toInt64)) * (31 : Int64)) + ((S.1 10 0 4).toInt64)) S) S) S) S) S) * (31 : Int64)) + (S.2.1 10 0 18)) * (31 : Int64)) + (S.2.1 10 0 19)) * (31 : Int64)) + (S.2.1 13 1 0)) * (31 : Int64)) + (S.2.1 13 1 2), (uI S 10 0 0 (0 : Int32)))) (fun z : Int64 × uS => z.2) (show (fX5_digest S P1 Q1 F1) = (((((((((lX5_dgB F1 0 (lX5_dgL F1 8 0 (lX5_dg2 (2 ^ P1) 0 (lX5_dg1 (2 ^ Q1) 0 (lX5_dg0 (2 ^ P1) 0 ((((((((2201 : Int64) + ((S.1 10 0 1).toInt64)) * (31 : Int64)) + ((S.1 10 0 2).toInt64)) * (31 : Int64)) + ((S.1 10 0 3).toInt64)) * (31 : Int64)) + ((S.1 10 0 4).toInt64)) S) S) S) S) S) * (31 : Int64)) + (S.2.1 10 0 18)) * (31 : Int64)) + (S.2.1 10 0 19)) * (31 : Int64)) + (S.2.1 13 1 0)) * (31 : Int64)) + (S.2.1 13 1 2), (uI S 10 0 0 (0 : Int32))) from by unfold fX5_digest; rfl)) dX5_digest_224
