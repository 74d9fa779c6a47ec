def fX5_add (S : uS) (P1 : Nat) (Q1 : Nat) (H1 : Nat) (Y1 : Nat) (F1 : Nat) (X1 : Nat) : Bool × uS :=
  if (lX5_loopOf (nI X1) 8 0 S) = (-1 : Int32) then (if (fX5_says S (512 + (X1 % 2 ^ P1))) = false then (fX5_says S (X1 % 2 ^ P1)) else (fX5_says S (256 + ((X1 ^^^ Y1) % 2 ^ Q1))), (uI (uI (uF (uI (uI (uF (uF (uF (uF S 12 0 (4 * F1 + 0) (fX5_says S (X1 % 2 ^ P1))) 12 0 (4 * F1 + 1) (fX5_says S (256 + ((X1 ^^^ Y1) % 2 ^ Q1)))) 12 0 (4 * F1 + 2) (if (fX5_says S (512 + (X1 % 2 ^ P1))) = false then (fX5_says S (X1 % 2 ^ P1)) else (fX5_says S (256 + ((X1 ^^^ Y1) % 2 ^ Q1))))) 12 0 (4 * F1 + 3) (if (fX5_says S (512 + (X1 % 2 ^ P1))) = false then (fX5_says S (X1 % 2 ^ P1)) else (fX5_says S (256 + ((X1 ^^^ Y1) % 2 ^ Q1))))) 11 2 F1 (nI X1)) 11 3 F1 (nI Y1)) 12 1 F1 false) 10 0 4 (nI ((2 * Y1 + (if (if (fX5_says S (512 + (X1 % 2 ^ P1))) = false then (fX5_says S (X1 % 2 ^ P1)) else (fX5_says S (256 + ((X1 ^^^ Y1) % 2 ^ Q1)))) = false then 0 else 1)) % 2 ^ H1))) 10 0 7 (nI (F1 + 1))))
  else if (nI (if (S.1 11 7 ((lX5_loopOf (nI X1) 8 0 S).toNatClampNeg)) = (3 : Int32) then 1 else 0)) = (0 : Int32) then (if (fX5_says S (512 + (X1 % 2 ^ P1))) = false then (fX5_says S (X1 % 2 ^ P1)) else (fX5_says S (256 + ((X1 ^^^ Y1) % 2 ^ Q1))), (uI (uI (uF (uI (uI (uF (uF (uF (uF S 12 0 (4 * F1 + 0) (fX5_says S (X1 % 2 ^ P1))) 12 0 (4 * F1 + 1) (fX5_says S (256 + ((X1 ^^^ Y1) % 2 ^ Q1)))) 12 0 (4 * F1 + 2) (if (fX5_says S (512 + (X1 % 2 ^ P1))) = false then (fX5_says S (X1 % 2 ^ P1)) else (fX5_says S (256 + ((X1 ^^^ Y1) % 2 ^ Q1))))) 12 0 (4 * F1 + 3) (if (fX5_says S (512 + (X1 % 2 ^ P1))) = false then (fX5_says S (X1 % 2 ^ P1)) else (fX5_says S (256 + ((X1 ^^^ Y1) % 2 ^ Q1))))) 11 2 F1 (nI X1)) 11 3 F1 (nI Y1)) 12 1 F1 false) 10 0 4 (nI ((2 * Y1 + (if (if (fX5_says S (512 + (X1 % 2 ^ P1))) = false then (fX5_says S (X1 % 2 ^ P1)) else (fX5_says S (256 + ((X1 ^^^ Y1) % 2 ^ Q1)))) = false then 0 else 1)) % 2 ^ H1))) 10 0 7 (nI (F1 + 1))))
    else if (S.1 11 6 ((lX5_loopOf (nI X1) 8 0 S).toNatClampNeg)) ≤ (lX5_presumed ((lX5_loopOf (nI X1) 8 0 S).toNatClampNeg) F1 0 ((S.1 11 5 ((lX5_loopOf (nI X1) 8 0 S).toNatClampNeg))) (uF (uF (uF S 12 0 (4 * F1 + 0) (fX5_says S (X1 % 2 ^ P1))) 12 0 (4 * F1 + 1) (fX5_says S (256 + ((X1 ^^^ Y1) % 2 ^ Q1)))) 12 0 (4 * F1 + 2) (if (fX5_says S (512 + (X1 % 2 ^ P1))) = false then (fX5_says S (X1 % 2 ^ P1)) else (fX5_says S (256 + ((X1 ^^^ Y1) % 2 ^ Q1)))))) then (false, (uI (uI (uF (uI (uI (uF (uF (uF (uF S 12 0 (4 * F1 + 0) (fX5_says S (X1 % 2 ^ P1))) 12 0 (4 * F1 + 1) (fX5_says S (256 + ((X1 ^^^ Y1) % 2 ^ Q1)))) 12 0 (4 * F1 + 2) (if (fX5_says S (512 + (X1 % 2 ^ P1))) = false then (fX5_says S (X1 % 2 ^ P1)) else (fX5_says S (256 + ((X1 ^^^ Y1) % 2 ^ Q1))))) 12 0 (4 * F1 + 3) false) 11 2 F1 (nI X1)) 11 3 F1 (nI Y1)) 12 1 F1 false) 10 0 4 (nI ((2 * Y1 + (if false = false then 0 else 1)) % 2 ^ H1))) 10 0 7 (nI (F1 + 1))))
      else (true, (uI (uI (uF (uI (uI (uF (uF (uF (uF S 12 0 (4 * F1 + 0) (fX5_says S (X1 % 2 ^ P1))) 12 0 (4 * F1 + 1) (fX5_says S (256 + ((X1 ^^^ Y1) % 2 ^ Q1)))) 12 0 (4 * F1 + 2) (if (fX5_says S (512 + (X1 % 2 ^ P1))) = false then (fX5_says S (X1 % 2 ^ P1)) else (fX5_says S (256 + ((X1 ^^^ Y1) % 2 ^ Q1))))) 12 0 (4 * F1 + 3) true) 11 2 F1 (nI X1)) 11 3 F1 (nI Y1)) 12 1 F1 false) 10 0 4 (nI ((2 * Y1 + (if true = false then 0 else 1)) % 2 ^ H1))) 10 0 7 (nI (F1 + 1))))
abbrev rmX5_add : Room := { frames := 2, cells := 0, slots := 0, locals := 44 }
set_option maxHeartbeats 4000000 in
set_option maxRecDepth 100000 in
theorem cX5c_add (l : Launch) (G : gG) (Z : va_W) (S : uS) (P1 : Nat) (h_P1 : S.1 10 0 1 = nI P1) (h_P1b : P1 ≤ 8) (Q1 : Nat) (h_Q1 : S.1 10 0 2 = nI Q1) (h_Q1b : Q1 ≤ 8) (H1 : Nat) (h_H1 : S.1 10 0 3 = nI H1) (h_H1b : H1 ≤ 8) (Y1 : Nat) (h_Y1 : S.1 10 0 4 = nI Y1) (h_Y1b : Y1 < 256) (F1 : Nat) (h_F1 : S.1 10 0 7 = nI F1) (h_F1c : F1 < 16) (X1 : Nat) (h_X1b : X1 < 65536) : kMet l yX5_add wsX5_add rmX5_add G kM Z S [.ref (G.2.2 (10, 0)), .int (nI X1)] (some (.int (bI ((fX5_add S P1 Q1 H1 Y1 F1 X1).1)))) ((fX5_add S P1 Q1 H1 Y1 F1 X1).2) := by
  refine kMet_of (cc := cX5_add) (maxL := 5) (ret := (some .boolean)) (by decide) rfl (Nat.le_of_ble_eq_true rfl) ?_
  intro p e s m below meth c hx hb hr hml hlocks hts hown hK hN A hZ hA H locs hw ls hl
  have hl : lv_has ls 5 [(0, .ref (G.2.2 (10, 0))), (1, .int (nI X1))] := hl
  have hiX5 : ∀ w ∈ wsX50, w ∈ wsX5_add := by decide +kernel
  refine lv_iconst (v := 4) hx hb dX5_add_0 (by decide) ?_
  refine lv_aload_n hx hb dX5_add_1 rfl (lv_at hl 0 rfl) ?_
  refine g_10_7 hx hb hts hiX5 hown hK hw kM_10 (hts (.fieldLink RX5 74 "BranchPredictorModel" "flying" "I") (by decide +kernel)) dX5_add_2 ?_
  refine k_topi (z := nI F1) (h_F1) ?_
  refine lv_imul hx hb dX5_add_5 ?_
  refine k_topi (z := nI (4 * F1)) (pk_mul 4 F1) ?_
  refine lv_istore_n (lv' := [(2, .int (nI (4 * F1))), (0, .ref (G.2.2 (10, 0))), (1, .int (nI X1))]) hx hb dX5_add_6 rfl hl (by decide) rfl (fun ls hl => ?_)
  refine lv_aload_n hx hb dX5_add_7 rfl (lv_at hl 1 rfl) ?_
  refine g_10_10 hx hb hts hiX5 hown hK hw kM_10 (hts (.fieldLink RX5 22 "BranchPredictorModel" "predictions" "[Z") (by decide +kernel)) dX5_add_8 ?_
  refine lv_iload_n hx hb dX5_add_11 rfl (lv_at hl 0 rfl) ?_
  refine lv_iconst (v := 0) hx hb dX5_add_12 (by decide) ?_
  refine lv_iadd hx hb dX5_add_13 ?_
  refine k_topi (z := nI (4 * F1 + 0)) (nI_add (4 * F1) 0) ?_
  refine lv_aload_n hx hb dX5_add_14 rfl (lv_at hl 1 rfl) ?_
  refine lv_aload_n hx hb dX5_add_15 rfl (lv_at hl 1 rfl) ?_
  refine lv_iload_n hx hb dX5_add_16 rfl (lv_at hl 2 rfl) ?_
  refine k_callV (C := RX5) (n := 1) (rest := [.ref (G.2.2 (10, 0)), .int (nI (4 * F1 + 0)), .ref (G.2.2 (12, 0))]) ⟨hx, hb, hml, hown, hts⟩ (cX5c_plainIndex l G Z S P1 h_P1 h_P1b X1 h_X1b) (cwV 1 hts gX5_add_X5_plainIndex rfl rfl rfl (by decide +kernel) ⟨Nat.le_of_ble_eq_true rfl, Nat.le_of_ble_eq_true rfl⟩) (k_recv hK hw kM_10 rfl rfl) hK hN hZ hA hw (Nat.zero_le _) (Nat.zero_le _) rfl hl.1 rfl (Nat.le_of_ble_eq_true rfl) dX5_add_17 (fun H locs hw => ?_)
  refine W.eq (g2 := F0 m 20 ls [.int (nI (X1 % 2 ^ P1)), .ref (G.2.2 (10, 0)), .int (nI (4 * F1 + 0)), .ref (G.2.2 (12, 0))]) rfl ?_
  refine k_callV (C := RX5) (n := 1) (rest := [.int (nI (4 * F1 + 0)), .ref (G.2.2 (12, 0))]) ⟨hx, hb, hml, hown, hts⟩ (cX5c_says l G Z S (X1 % 2 ^ P1) (by have h8 := m_lt (X := X1) h_P1b; have h9 := m_lt (X := X1 ^^^ Y1) h_Q1b; omega)) (cwV 1 hts gX5_add_X5_says rfl rfl rfl (by decide +kernel) ⟨Nat.le_of_ble_eq_true rfl, Nat.le_of_ble_eq_true rfl⟩) (k_recv hK hw kM_10 rfl rfl) hK hN hZ hA hw (Nat.zero_le _) (Nat.zero_le _) rfl hl.1 rfl (Nat.le_of_ble_eq_true rfl) dX5_add_20 (fun H locs hw => ?_)
  refine W.eq (g2 := F0 m 23 ls [.int (bI ((fX5_says S (X1 % 2 ^ P1)))), .int (nI (4 * F1 + 0)), .ref (G.2.2 (12, 0))]) rfl ?_
  refine st_12_0 (x := (fX5_says S (X1 % 2 ^ P1))) hx hb hK hw kM_12_0 (vp_in_nI (by first | omega | (split <;> omega)) (by decide)) dX5_add_23 (fun H locs hw => ?_)
  rw [nI_clamp (show 4 * F1 + 0 < 2 ^ 31 from by first | omega | (split <;> omega))] at hw
  refine lv_aload_n hx hb dX5_add_24 rfl (lv_at hl 1 rfl) ?_
  refine g_10_10 hx hb hts hiX5 hown hK hw kM_10 (hts (.fieldLink RX5 22 "BranchPredictorModel" "predictions" "[Z") (by decide +kernel)) dX5_add_25 ?_
  refine lv_iload_n hx hb dX5_add_28 rfl (lv_at hl 0 rfl) ?_
  refine lv_iconst (v := 1) hx hb dX5_add_29 (by decide) ?_
  refine lv_iadd hx hb dX5_add_30 ?_
  refine k_topi (z := nI (4 * F1 + 1)) (nI_add (4 * F1) 1) ?_
  refine lv_aload_n hx hb dX5_add_31 rfl (lv_at hl 1 rfl) ?_
  refine lv_aload_n hx hb dX5_add_32 rfl (lv_at hl 1 rfl) ?_
  refine lv_iload_n hx hb dX5_add_33 rfl (lv_at hl 2 rfl) ?_
  refine lv_aload_n hx hb dX5_add_34 rfl (lv_at hl 1 rfl) ?_
  refine g_10_4 hx hb hts hiX5 hown hK hw kM_10 (hts (.fieldLink RX5 71 "BranchPredictorModel" "history" "I") (by decide +kernel)) dX5_add_35 ?_
  refine k_topi (z := S.1 10 0 4) (by simp [uI, uL, uF]) ?_
  refine k_topi (z := nI Y1) (h_Y1) ?_
  refine k_callV (C := RX5) (n := 2) (rest := [.ref (G.2.2 (10, 0)), .int (nI (4 * F1 + 1)), .ref (G.2.2 (12, 0))]) ⟨hx, hb, hml, hown, hts⟩ (cX5c_globalIndex l G Z (uF S 12 0 (4 * F1 + 0) (fX5_says S (X1 % 2 ^ P1))) Q1 h_Q1 h_Q1b X1 h_X1b Y1 h_Y1b) (cwV 2 hts gX5_add_X5_globalIndex rfl rfl rfl (by decide +kernel) ⟨Nat.le_of_ble_eq_true rfl, Nat.le_of_ble_eq_true rfl⟩) (k_recv hK hw kM_10 rfl rfl) hK hN hZ hA hw (Nat.zero_le _) (Nat.zero_le _) rfl hl.1 rfl (Nat.le_of_ble_eq_true rfl) dX5_add_38 (fun H locs hw => ?_)
  refine W.eq (g2 := F0 m 41 ls [.int (nI (256 + ((X1 ^^^ Y1) % 2 ^ Q1))), .ref (G.2.2 (10, 0)), .int (nI (4 * F1 + 1)), .ref (G.2.2 (12, 0))]) rfl ?_
  refine k_callV (C := RX5) (n := 1) (rest := [.int (nI (4 * F1 + 1)), .ref (G.2.2 (12, 0))]) ⟨hx, hb, hml, hown, hts⟩ (cX5c_says l G Z (uF S 12 0 (4 * F1 + 0) (fX5_says S (X1 % 2 ^ P1))) (256 + ((X1 ^^^ Y1) % 2 ^ Q1)) (by have h8 := m_lt (X := X1) h_P1b; have h9 := m_lt (X := X1 ^^^ Y1) h_Q1b; omega)) (cwV 1 hts gX5_add_X5_says rfl rfl rfl (by decide +kernel) ⟨Nat.le_of_ble_eq_true rfl, Nat.le_of_ble_eq_true rfl⟩) (k_recv hK hw kM_10 rfl rfl) hK hN hZ hA hw (Nat.zero_le _) (Nat.zero_le _) rfl hl.1 rfl (Nat.le_of_ble_eq_true rfl) dX5_add_41 (fun H locs hw => ?_)
  refine W.eq (g2 := F0 m 44 ls [.int (bI ((fX5_says (uF S 12 0 (4 * F1 + 0) (fX5_says S (X1 % 2 ^ P1))) (256 + ((X1 ^^^ Y1) % 2 ^ Q1))))), .int (nI (4 * F1 + 1)), .ref (G.2.2 (12, 0))]) rfl ?_
  refine k_topz (z := (fX5_says S (256 + ((X1 ^^^ Y1) % 2 ^ Q1)))) (by first | rfl | simp [uI, uL, uF, fX5_says]) ?_
  refine st_12_0 (x := (fX5_says S (256 + ((X1 ^^^ Y1) % 2 ^ Q1)))) hx hb hK hw kM_12_0 (vp_in_nI (by first | omega | (split <;> omega)) (by decide)) dX5_add_44 (fun H locs hw => ?_)
  rw [nI_clamp (show 4 * F1 + 1 < 2 ^ 31 from by first | omega | (split <;> omega))] at hw
  refine lv_aload_n hx hb dX5_add_45 rfl (lv_at hl 1 rfl) ?_
  refine g_10_10 hx hb hts hiX5 hown hK hw kM_10 (hts (.fieldLink RX5 22 "BranchPredictorModel" "predictions" "[Z") (by decide +kernel)) dX5_add_46 ?_
  refine lv_iload_n hx hb dX5_add_49 rfl (lv_at hl 0 rfl) ?_
  refine lv_iconst (v := 2) hx hb dX5_add_50 (by decide) ?_
  refine lv_iadd hx hb dX5_add_51 ?_
  refine k_topi (z := nI (4 * F1 + 2)) (nI_add (4 * F1) 2) ?_
  refine lv_aload_n hx hb dX5_add_52 rfl (lv_at hl 1 rfl) ?_
  refine g_10_10 hx hb hts hiX5 hown hK hw kM_10 (hts (.fieldLink RX5 22 "BranchPredictorModel" "predictions" "[Z") (by decide +kernel)) dX5_add_53 ?_
  refine lv_iload_n hx hb dX5_add_56 rfl (lv_at hl 0 rfl) ?_
  refine lv_aload_n hx hb dX5_add_57 rfl (lv_at hl 1 rfl) ?_
  refine lv_aload_n hx hb dX5_add_58 rfl (lv_at hl 1 rfl) ?_
  refine lv_iload_n hx hb dX5_add_59 rfl (lv_at hl 2 rfl) ?_
  refine k_callV (C := RX5) (n := 1) (rest := [.ref (G.2.2 (10, 0)), .int (nI (4 * F1)), .ref (G.2.2 (12, 0)), .int (nI (4 * F1 + 2)), .ref (G.2.2 (12, 0))]) ⟨hx, hb, hml, hown, hts⟩ (cX5c_choiceIndex l G Z (uF (uF S 12 0 (4 * F1 + 0) (fX5_says S (X1 % 2 ^ P1))) 12 0 (4 * F1 + 1) (fX5_says S (256 + ((X1 ^^^ Y1) % 2 ^ Q1)))) P1 h_P1 h_P1b X1 h_X1b) (cwV 1 hts gX5_add_X5_choiceIndex rfl rfl rfl (by decide +kernel) ⟨Nat.le_of_ble_eq_true rfl, Nat.le_of_ble_eq_true rfl⟩) (k_recv hK hw kM_10 rfl rfl) hK hN hZ hA hw (Nat.zero_le _) (Nat.zero_le _) rfl hl.1 rfl (Nat.le_of_ble_eq_true rfl) dX5_add_60 (fun H locs hw => ?_)
  refine W.eq (g2 := F0 m 63 ls [.int (nI (512 + (X1 % 2 ^ P1))), .ref (G.2.2 (10, 0)), .int (nI (4 * F1)), .ref (G.2.2 (12, 0)), .int (nI (4 * F1 + 2)), .ref (G.2.2 (12, 0))]) rfl ?_
  refine k_callV (C := RX5) (n := 1) (rest := [.int (nI (4 * F1)), .ref (G.2.2 (12, 0)), .int (nI (4 * F1 + 2)), .ref (G.2.2 (12, 0))]) ⟨hx, hb, hml, hown, hts⟩ (cX5c_says l G Z (uF (uF S 12 0 (4 * F1 + 0) (fX5_says S (X1 % 2 ^ P1))) 12 0 (4 * F1 + 1) (fX5_says S (256 + ((X1 ^^^ Y1) % 2 ^ Q1)))) (512 + (X1 % 2 ^ P1)) (by have h8 := m_lt (X := X1) h_P1b; have h9 := m_lt (X := X1 ^^^ Y1) h_Q1b; omega)) (cwV 1 hts gX5_add_X5_says rfl rfl rfl (by decide +kernel) ⟨Nat.le_of_ble_eq_true rfl, Nat.le_of_ble_eq_true rfl⟩) (k_recv hK hw kM_10 rfl rfl) hK hN hZ hA hw (Nat.zero_le _) (Nat.zero_le _) rfl hl.1 rfl (Nat.le_of_ble_eq_true rfl) dX5_add_63 (fun H locs hw => ?_)
  refine W.eq (g2 := F0 m 66 ls [.int (bI ((fX5_says (uF (uF S 12 0 (4 * F1 + 0) (fX5_says S (X1 % 2 ^ P1))) 12 0 (4 * F1 + 1) (fX5_says S (256 + ((X1 ^^^ Y1) % 2 ^ Q1)))) (512 + (X1 % 2 ^ P1))))), .int (nI (4 * F1)), .ref (G.2.2 (12, 0)), .int (nI (4 * F1 + 2)), .ref (G.2.2 (12, 0))]) rfl ?_
  refine k_topz (z := (fX5_says S (512 + (X1 % 2 ^ P1)))) (by first | rfl | simp [uI, uL, uF, fX5_says]) ?_
  refine k_join (P := fun x9 : Int32 => W p l e rmX5_add s m [.ref (G.2.2 (10, 0)), .int (nI X1)].toArray below meth c H locs 0 0 (MQ below (kQ G kM Z A (some (.int (bI ((fX5_add S P1 Q1 H1 Y1 F1 X1).1)))) ((fX5_add S P1 Q1 H1 Y1 F1 X1).2)) [.ref (G.2.2 (10, 0)), .int (nI X1)].toArray s 0 0 A) (F0 m 74 ls [.int (x9), .int (nI (4 * F1)), .ref (G.2.2 (12, 0)), .int (nI (4 * F1 + 2)), .ref (G.2.2 (12, 0))])) (C := (fX5_says S (512 + (X1 % 2 ^ P1))) = false) (a := (0 : Int32)) (b := (1 : Int32)) ?_ (fun ka kb => ?_)
  rotate_left
  · refine k_if_eq (b := (fX5_says S (512 + (X1 % 2 ^ P1)))) (tgt := 73) hx hb dX5_add_66 (by decide) (fun c_1 => ?_) (fun c_1 => ?_)
    · skip
      refine lv_iconst (v := 0) hx hb dX5_add_73 (by decide) ?_
      exact ka c_1
    · skip
      refine lv_iconst (v := 1) hx hb dX5_add_69 (by decide) ?_
      refine lv_goto (tgt := 74) hx hb dX5_add_70 (by decide) ?_
      exact kb c_1
  show W p l e rmX5_add s m [.ref (G.2.2 (10, 0)), .int (nI X1)].toArray below meth c H locs 0 0 (MQ below (kQ G kM Z A (some (.int (bI ((fX5_add S P1 Q1 H1 Y1 F1 X1).1)))) ((fX5_add S P1 Q1 H1 Y1 F1 X1).2)) [.ref (G.2.2 (10, 0)), .int (nI X1)].toArray s 0 0 A) (F0 m 74 ls [.int (if (fX5_says S (512 + (X1 % 2 ^ P1))) = false then (0 : Int32) else (1 : Int32)), .int (nI (4 * F1)), .ref (G.2.2 (12, 0)), .int (nI (4 * F1 + 2)), .ref (G.2.2 (12, 0))])
  refine k_topi (z := nI (if (fX5_says S (512 + (X1 % 2 ^ P1))) = false then 0 else 1)) (by split <;> rfl) ?_
  refine lv_iadd hx hb dX5_add_74 ?_
  refine k_topi (z := nI (4 * F1 + (if (fX5_says S (512 + (X1 % 2 ^ P1))) = false then 0 else 1))) (nI_add (4 * F1) (if (fX5_says S (512 + (X1 % 2 ^ P1))) = false then 0 else 1)) ?_
  refine ld_12_0 hx hb hK hw kM_12_0 (vp_in_nI (by first | omega | (split <;> omega)) (by decide)) dX5_add_75 ?_
  refine k_topz (z := (uF (uF S 12 0 (4 * F1 + 0) (fX5_says S (X1 % 2 ^ P1))) 12 0 (4 * F1 + 1) (fX5_says S (256 + ((X1 ^^^ Y1) % 2 ^ Q1)))).2.2 12 0 (4 * F1 + (if (fX5_says S (512 + (X1 % 2 ^ P1))) = false then 0 else 1))) (by rw [nI_clamp (show 4 * F1 + (if (fX5_says S (512 + (X1 % 2 ^ P1))) = false then 0 else 1) < 2 ^ 31 from by first | omega | (split <;> omega))]) ?_
  refine k_topz (z := if (fX5_says S (512 + (X1 % 2 ^ P1))) = false then (fX5_says S (X1 % 2 ^ P1)) else (fX5_says S (256 + ((X1 ^^^ Y1) % 2 ^ Q1)))) (by split <;> simp [uF]) ?_
  refine st_12_0 (x := if (fX5_says S (512 + (X1 % 2 ^ P1))) = false then (fX5_says S (X1 % 2 ^ P1)) else (fX5_says S (256 + ((X1 ^^^ Y1) % 2 ^ Q1)))) hx hb hK hw kM_12_0 (vp_in_nI (by first | omega | (split <;> omega)) (by decide)) dX5_add_76 (fun H locs hw => ?_)
  rw [nI_clamp (show 4 * F1 + 2 < 2 ^ 31 from by first | omega | (split <;> omega))] at hw
  refine lv_aload_n hx hb dX5_add_77 rfl (lv_at hl 1 rfl) ?_
  refine lv_iload_n hx hb dX5_add_78 rfl (lv_at hl 2 rfl) ?_
  refine k_callV (C := RX5) (n := 1) (rest := []) ⟨hx, hb, hml, hown, hts⟩ (cX5c_loopOf l G Z (uF (uF (uF S 12 0 (4 * F1 + 0) (fX5_says S (X1 % 2 ^ P1))) 12 0 (4 * F1 + 1) (fX5_says S (256 + ((X1 ^^^ Y1) % 2 ^ Q1)))) 12 0 (4 * F1 + 2) (if (fX5_says S (512 + (X1 % 2 ^ P1))) = false then (fX5_says S (X1 % 2 ^ P1)) else (fX5_says S (256 + ((X1 ^^^ Y1) % 2 ^ Q1))))) (nI X1)) (cwV 1 hts gX5_add_X5_loopOf rfl rfl rfl (by decide +kernel) ⟨Nat.le_of_ble_eq_true rfl, Nat.le_of_ble_eq_true rfl⟩) (k_recv hK hw kM_10 rfl rfl) hK hN hZ hA hw (Nat.zero_le _) (Nat.zero_le _) rfl hl.1 rfl (Nat.le_of_ble_eq_true rfl) dX5_add_79 (fun H locs hw => ?_)
  refine W.eq (g2 := F0 m 82 ls [.int ((lX5_loopOf (nI X1) 8 0 (uF (uF (uF S 12 0 (4 * F1 + 0) (fX5_says S (X1 % 2 ^ P1))) 12 0 (4 * F1 + 1) (fX5_says S (256 + ((X1 ^^^ Y1) % 2 ^ Q1)))) 12 0 (4 * F1 + 2) (if (fX5_says S (512 + (X1 % 2 ^ P1))) = false then (fX5_says S (X1 % 2 ^ P1)) else (fX5_says S (256 + ((X1 ^^^ Y1) % 2 ^ Q1)))))))]) rfl ?_
  refine k_topi (z := (lX5_loopOf (nI X1) 8 0 S)) (lX5_loopOf_c _ _ _ (fun i => by simp [uI, uL, uF]) (fun i => by simp [uI, uL, uF])) ?_
  refine lv_istore_n (lv' := [(3, .int ((lX5_loopOf (nI X1) 8 0 S))), (2, .int (nI (4 * F1))), (0, .ref (G.2.2 (10, 0))), (1, .int (nI X1))]) hx hb dX5_add_82 rfl hl (by decide) rfl (fun ls hl => ?_)
  refine lv_iload_n hx hb dX5_add_83 rfl (lv_at hl 0 rfl) ?_
  refine lv_iconst (v := -1) hx hb dX5_add_84 (by decide) ?_
  refine lv_icmp_eq (tgt := 102) hx hb dX5_add_85 (by decide) (fun c_2 => ?_) (fun c_2 => ?_)
  · skip
    refine lv_iconst (v := 0) hx hb dX5_add_102 (by decide) ?_
    refine lv_istore (lv' := [(4, .int ((0 : Int32))), (3, .int ((lX5_loopOf (nI X1) 8 0 S))), (2, .int (nI (4 * F1))), (0, .ref (G.2.2 (10, 0))), (1, .int (nI X1))]) hx hb dX5_add_103 hl (by decide) rfl (fun ls hl => ?_)
    refine lv_aload_n hx hb dX5_add_105 rfl (lv_at hl 3 rfl) ?_
    refine g_10_10 hx hb hts hiX5 hown hK hw kM_10 (hts (.fieldLink RX5 22 "BranchPredictorModel" "predictions" "[Z") (by decide +kernel)) dX5_add_106 ?_
    refine lv_iload_n hx hb dX5_add_109 rfl (lv_at hl 2 rfl) ?_
    refine lv_iconst (v := 3) hx hb dX5_add_110 (by decide) ?_
    refine lv_iadd hx hb dX5_add_111 ?_
    refine k_topi (z := nI (4 * F1 + 3)) (nI_add (4 * F1) 3) ?_
    refine lv_iload hx hb dX5_add_112 (lv_at hl 0 rfl) ?_
    have q_3 : (0 : Int32) = (0 : Int32) := by decide
    refine lv_if_eq (x := (0 : Int32)) (tgt := 139) hx hb dX5_add_114 (by decide) (fun _ => ?_) (fun h9 => absurd q_3 h9)
    refine lv_aload_n hx hb dX5_add_139 rfl (lv_at hl 3 rfl) ?_
    refine g_10_10 hx hb hts hiX5 hown hK hw kM_10 (hts (.fieldLink RX5 22 "BranchPredictorModel" "predictions" "[Z") (by decide +kernel)) dX5_add_140 ?_
    refine lv_iload_n hx hb dX5_add_143 rfl (lv_at hl 2 rfl) ?_
    refine lv_iconst (v := 2) hx hb dX5_add_144 (by decide) ?_
    refine lv_iadd hx hb dX5_add_145 ?_
    refine k_topi (z := nI (4 * F1 + 2)) (nI_add (4 * F1) 2) ?_
    refine ld_12_0 hx hb hK hw kM_12_0 (vp_in_nI (by first | omega | (split <;> omega)) (by decide)) dX5_add_146 ?_
    refine k_topz (z := (uF (uF (uF S 12 0 (4 * F1 + 0) (fX5_says S (X1 % 2 ^ P1))) 12 0 (4 * F1 + 1) (fX5_says S (256 + ((X1 ^^^ Y1) % 2 ^ Q1)))) 12 0 (4 * F1 + 2) (if (fX5_says S (512 + (X1 % 2 ^ P1))) = false then (fX5_says S (X1 % 2 ^ P1)) else (fX5_says S (256 + ((X1 ^^^ Y1) % 2 ^ Q1))))).2.2 12 0 (4 * F1 + 2)) (by rw [nI_clamp (show 4 * F1 + 2 < 2 ^ 31 from by first | omega | (split <;> omega))]) ?_
    refine k_topz (z := if (fX5_says S (512 + (X1 % 2 ^ P1))) = false then (fX5_says S (X1 % 2 ^ P1)) else (fX5_says S (256 + ((X1 ^^^ Y1) % 2 ^ Q1)))) (by simp [uI, uL, uF]) ?_
    refine st_12_0 (x := if (fX5_says S (512 + (X1 % 2 ^ P1))) = false then (fX5_says S (X1 % 2 ^ P1)) else (fX5_says S (256 + ((X1 ^^^ Y1) % 2 ^ Q1)))) hx hb hK hw kM_12_0 (vp_in_nI (by first | omega | (split <;> omega)) (by decide)) dX5_add_147 (fun H locs hw => ?_)
    rw [nI_clamp (show 4 * F1 + 3 < 2 ^ 31 from by first | omega | (split <;> omega))] at hw
    refine lv_aload_n hx hb dX5_add_148 rfl (lv_at hl 3 rfl) ?_
    refine g_10_8 hx hb hts hiX5 hown hK hw kM_10 (hts (.fieldLink RX5 16 "BranchPredictorModel" "places" "[I") (by decide +kernel)) dX5_add_149 ?_
    refine lv_aload_n hx hb dX5_add_152 rfl (lv_at hl 3 rfl) ?_
    refine g_10_7 hx hb hts hiX5 hown hK hw kM_10 (hts (.fieldLink RX5 74 "BranchPredictorModel" "flying" "I") (by decide +kernel)) dX5_add_153 ?_
    refine k_topi (z := S.1 10 0 7) (by simp [uI, uL, uF]) ?_
    refine k_topi (z := nI F1) (h_F1) ?_
    refine lv_iload_n hx hb dX5_add_156 rfl (lv_at hl 4 rfl) ?_
    refine st_11_2 (x := nI X1) hx hb hK hw kM_11_2 (vp_in_nI (by first | omega | (split <;> omega)) (by decide)) dX5_add_157 (fun H locs hw => ?_)
    rw [nI_clamp (show F1 < 2 ^ 31 from by first | omega | (split <;> omega))] at hw
    refine lv_aload_n hx hb dX5_add_158 rfl (lv_at hl 3 rfl) ?_
    refine g_10_9 hx hb hts hiX5 hown hK hw kM_10 (hts (.fieldLink RX5 19 "BranchPredictorModel" "histories" "[I") (by decide +kernel)) dX5_add_159 ?_
    refine lv_aload_n hx hb dX5_add_162 rfl (lv_at hl 3 rfl) ?_
    refine g_10_7 hx hb hts hiX5 hown hK hw kM_10 (hts (.fieldLink RX5 74 "BranchPredictorModel" "flying" "I") (by decide +kernel)) dX5_add_163 ?_
    refine k_topi (z := S.1 10 0 7) (by simp [uI, uL, uF]) ?_
    refine k_topi (z := nI F1) (h_F1) ?_
    refine lv_aload_n hx hb dX5_add_166 rfl (lv_at hl 3 rfl) ?_
    refine g_10_4 hx hb hts hiX5 hown hK hw kM_10 (hts (.fieldLink RX5 71 "BranchPredictorModel" "history" "I") (by decide +kernel)) dX5_add_167 ?_
    refine k_topi (z := S.1 10 0 4) (by simp [uI, uL, uF]) ?_
    refine k_topi (z := nI Y1) (h_Y1) ?_
    refine st_11_3 (x := nI Y1) hx hb hK hw kM_11_3 (vp_in_nI (by first | omega | (split <;> omega)) (by decide)) dX5_add_170 (fun H locs hw => ?_)
    rw [nI_clamp (show F1 < 2 ^ 31 from by first | omega | (split <;> omega))] at hw
    refine lv_aload_n hx hb dX5_add_171 rfl (lv_at hl 3 rfl) ?_
    refine g_10_11 hx hb hts hiX5 hown hK hw kM_10 (hts (.fieldLink RX5 26 "BranchPredictorModel" "areResolved" "[Z") (by decide +kernel)) dX5_add_172 ?_
    refine lv_aload_n hx hb dX5_add_175 rfl (lv_at hl 3 rfl) ?_
    refine g_10_7 hx hb hts hiX5 hown hK hw kM_10 (hts (.fieldLink RX5 74 "BranchPredictorModel" "flying" "I") (by decide +kernel)) dX5_add_176 ?_
    refine k_topi (z := S.1 10 0 7) (by simp [uI, uL, uF]) ?_
    refine k_topi (z := nI F1) (h_F1) ?_
    refine lv_iconst (v := 0) hx hb dX5_add_179 (by decide) ?_
    refine st_12_1 (x := false) hx hb hK hw kM_12_1 (vp_in_nI (by first | omega | (split <;> omega)) (by decide)) dX5_add_180 (fun H locs hw => ?_)
    rw [nI_clamp (show F1 < 2 ^ 31 from by first | omega | (split <;> omega))] at hw
    refine lv_aload_n hx hb dX5_add_181 rfl (lv_at hl 3 rfl) ?_
    refine lv_aload_n hx hb dX5_add_182 rfl (lv_at hl 3 rfl) ?_
    refine lv_aload_n hx hb dX5_add_183 rfl (lv_at hl 3 rfl) ?_
    refine g_10_4 hx hb hts hiX5 hown hK hw kM_10 (hts (.fieldLink RX5 71 "BranchPredictorModel" "history" "I") (by decide +kernel)) dX5_add_184 ?_
    refine k_topi (z := S.1 10 0 4) (by simp [uI, uL, uF]) ?_
    refine k_topi (z := nI Y1) (h_Y1) ?_
    refine lv_aload_n hx hb dX5_add_187 rfl (lv_at hl 3 rfl) ?_
    refine g_10_10 hx hb hts hiX5 hown hK hw kM_10 (hts (.fieldLink RX5 22 "BranchPredictorModel" "predictions" "[Z") (by decide +kernel)) dX5_add_188 ?_
    refine lv_iload_n hx hb dX5_add_191 rfl (lv_at hl 2 rfl) ?_
    refine lv_iconst (v := 3) hx hb dX5_add_192 (by decide) ?_
    refine lv_iadd hx hb dX5_add_193 ?_
    refine k_topi (z := nI (4 * F1 + 3)) (nI_add (4 * F1) 3) ?_
    refine ld_12_0 hx hb hK hw kM_12_0 (vp_in_nI (by first | omega | (split <;> omega)) (by decide)) dX5_add_194 ?_
    refine k_topz (z := (uF (uI (uI (uF (uF (uF (uF S 12 0 (4 * F1 + 0) (fX5_says S (X1 % 2 ^ P1))) 12 0 (4 * F1 + 1) (fX5_says S (256 + ((X1 ^^^ Y1) % 2 ^ Q1)))) 12 0 (4 * F1 + 2) (if (fX5_says S (512 + (X1 % 2 ^ P1))) = false then (fX5_says S (X1 % 2 ^ P1)) else (fX5_says S (256 + ((X1 ^^^ Y1) % 2 ^ Q1))))) 12 0 (4 * F1 + 3) (if (fX5_says S (512 + (X1 % 2 ^ P1))) = false then (fX5_says S (X1 % 2 ^ P1)) else (fX5_says S (256 + ((X1 ^^^ Y1) % 2 ^ Q1))))) 11 2 F1 (nI X1)) 11 3 F1 (nI Y1)) 12 1 F1 false).2.2 12 0 (4 * F1 + 3)) (by rw [nI_clamp (show 4 * F1 + 3 < 2 ^ 31 from by first | omega | (split <;> omega))]) ?_
    refine k_topz (z := if (fX5_says S (512 + (X1 % 2 ^ P1))) = false then (fX5_says S (X1 % 2 ^ P1)) else (fX5_says S (256 + ((X1 ^^^ Y1) % 2 ^ Q1)))) (by simp [uI, uL, uF]) ?_
    refine k_callV (C := RX5) (n := 2) (rest := [.ref (G.2.2 (10, 0))]) ⟨hx, hb, hml, hown, hts⟩ (cX5c_appended l G Z (uF (uI (uI (uF (uF (uF (uF S 12 0 (4 * F1 + 0) (fX5_says S (X1 % 2 ^ P1))) 12 0 (4 * F1 + 1) (fX5_says S (256 + ((X1 ^^^ Y1) % 2 ^ Q1)))) 12 0 (4 * F1 + 2) (if (fX5_says S (512 + (X1 % 2 ^ P1))) = false then (fX5_says S (X1 % 2 ^ P1)) else (fX5_says S (256 + ((X1 ^^^ Y1) % 2 ^ Q1))))) 12 0 (4 * F1 + 3) (if (fX5_says S (512 + (X1 % 2 ^ P1))) = false then (fX5_says S (X1 % 2 ^ P1)) else (fX5_says S (256 + ((X1 ^^^ Y1) % 2 ^ Q1))))) 11 2 F1 (nI X1)) 11 3 F1 (nI Y1)) 12 1 F1 false) H1 h_H1 h_H1b Y1 h_Y1b (if (fX5_says S (512 + (X1 % 2 ^ P1))) = false then (fX5_says S (X1 % 2 ^ P1)) else (fX5_says S (256 + ((X1 ^^^ Y1) % 2 ^ Q1))))) (cwV 2 hts gX5_add_X5_appended rfl rfl rfl (by decide +kernel) ⟨Nat.le_of_ble_eq_true rfl, Nat.le_of_ble_eq_true rfl⟩) (k_recv hK hw kM_10 rfl rfl) hK hN hZ hA hw (Nat.zero_le _) (Nat.zero_le _) rfl hl.1 rfl (Nat.le_of_ble_eq_true rfl) dX5_add_195 (fun H locs hw => ?_)
    refine W.eq (g2 := F0 m 198 ls [.int (nI ((2 * Y1 + (if (if (fX5_says S (512 + (X1 % 2 ^ P1))) = false then (fX5_says S (X1 % 2 ^ P1)) else (fX5_says S (256 + ((X1 ^^^ Y1) % 2 ^ Q1)))) = false then 0 else 1)) % 2 ^ H1)), .ref (G.2.2 (10, 0))]) rfl ?_
    refine p_10_4 (v := nI ((2 * Y1 + (if (if (fX5_says S (512 + (X1 % 2 ^ P1))) = false then (fX5_says S (X1 % 2 ^ P1)) else (fX5_says S (256 + ((X1 ^^^ Y1) % 2 ^ Q1)))) = false then 0 else 1)) % 2 ^ H1)) hx hb hts hiX5 hown hK hw kM_10 (hts (.fieldLink RX5 71 "BranchPredictorModel" "history" "I") (by decide +kernel)) dX5_add_198 (fun H locs hw => ?_)
    refine lv_aload_n hx hb dX5_add_201 rfl (lv_at hl 3 rfl) ?_
    refine lv_dup hx hb dX5_add_202 rfl ?_
    refine g_10_7 hx hb hts hiX5 hown hK hw kM_10 (hts (.fieldLink RX5 74 "BranchPredictorModel" "flying" "I") (by decide +kernel)) dX5_add_203 ?_
    refine k_topi (z := S.1 10 0 7) (by simp [uI, uL, uF]) ?_
    refine k_topi (z := nI F1) (h_F1) ?_
    refine lv_iconst (v := 1) hx hb dX5_add_206 (by decide) ?_
    refine lv_iadd hx hb dX5_add_207 ?_
    refine k_topi (z := nI (F1 + 1)) (nI_add F1 1) ?_
    refine p_10_7 (v := nI (F1 + 1)) hx hb hts hiX5 hown hK hw kM_10 (hts (.fieldLink RX5 74 "BranchPredictorModel" "flying" "I") (by decide +kernel)) dX5_add_208 (fun H locs hw => ?_)
    refine lv_aload_n hx hb dX5_add_211 rfl (lv_at hl 3 rfl) ?_
    refine g_10_10 hx hb hts hiX5 hown hK hw kM_10 (hts (.fieldLink RX5 22 "BranchPredictorModel" "predictions" "[Z") (by decide +kernel)) dX5_add_212 ?_
    refine lv_iload_n hx hb dX5_add_215 rfl (lv_at hl 2 rfl) ?_
    refine lv_iconst (v := 3) hx hb dX5_add_216 (by decide) ?_
    refine lv_iadd hx hb dX5_add_217 ?_
    refine k_topi (z := nI (4 * F1 + 3)) (nI_add (4 * F1) 3) ?_
    refine ld_12_0 hx hb hK hw kM_12_0 (vp_in_nI (by first | omega | (split <;> omega)) (by decide)) dX5_add_218 ?_
    refine k_topz (z := (uI (uI (uF (uI (uI (uF (uF (uF (uF S 12 0 (4 * F1 + 0) (fX5_says S (X1 % 2 ^ P1))) 12 0 (4 * F1 + 1) (fX5_says S (256 + ((X1 ^^^ Y1) % 2 ^ Q1)))) 12 0 (4 * F1 + 2) (if (fX5_says S (512 + (X1 % 2 ^ P1))) = false then (fX5_says S (X1 % 2 ^ P1)) else (fX5_says S (256 + ((X1 ^^^ Y1) % 2 ^ Q1))))) 12 0 (4 * F1 + 3) (if (fX5_says S (512 + (X1 % 2 ^ P1))) = false then (fX5_says S (X1 % 2 ^ P1)) else (fX5_says S (256 + ((X1 ^^^ Y1) % 2 ^ Q1))))) 11 2 F1 (nI X1)) 11 3 F1 (nI Y1)) 12 1 F1 false) 10 0 4 (nI ((2 * Y1 + (if (if (fX5_says S (512 + (X1 % 2 ^ P1))) = false then (fX5_says S (X1 % 2 ^ P1)) else (fX5_says S (256 + ((X1 ^^^ Y1) % 2 ^ Q1)))) = false then 0 else 1)) % 2 ^ H1))) 10 0 7 (nI (F1 + 1))).2.2 12 0 (4 * F1 + 3)) (by rw [nI_clamp (show 4 * F1 + 3 < 2 ^ 31 from by first | omega | (split <;> omega))]) ?_
    refine k_topz (z := if (fX5_says S (512 + (X1 % 2 ^ P1))) = false then (fX5_says S (X1 % 2 ^ P1)) else (fX5_says S (256 + ((X1 ^^^ Y1) % 2 ^ Q1)))) (by simp [uI, uL, uF]) ?_
    exact k_zret (r := if (fX5_says S (512 + (X1 % 2 ^ P1))) = false then (fX5_says S (X1 % 2 ^ P1)) else (fX5_says S (256 + ((X1 ^^^ Y1) % 2 ^ Q1)))) hx hb hr hlocks hK hw (congrArg (fun z : Bool × uS => some (Value.int (bI (z.1)))) (show (fX5_add S P1 Q1 H1 Y1 F1 X1) = (if (fX5_says S (512 + (X1 % 2 ^ P1))) = false then (fX5_says S (X1 % 2 ^ P1)) else (fX5_says S (256 + ((X1 ^^^ Y1) % 2 ^ Q1))), (uI (uI (uF (uI (uI (uF (uF (uF (uF S 12 0 (4 * F1 + 0) (fX5_says S (X1 % 2 ^ P1))) 12 0 (4 * F1 + 1) (fX5_says S (256 + ((X1 ^^^ Y1) % 2 ^ Q1)))) 12 0 (4 * F1 + 2) (if (fX5_says S (512 + (X1 % 2 ^ P1))) = false then (fX5_says S (X1 % 2 ^ P1)) else (fX5_says S (256 + ((X1 ^^^ Y1) % 2 ^ Q1))))) 12 0 (4 * F1 + 3) (if (fX5_says S (512 + (X1 % 2 ^ P1))) = false then (fX5_says S (X1 % 2 ^ P1)) else (fX5_says S (256 + ((X1 ^^^ Y1) % 2 ^ Q1))))) 11 2 F1 (nI X1)) 11 3 F1 (nI Y1)) 12 1 F1 false) 10 0 4 (nI ((2 * Y1 + (if (if (fX5_says S (512 + (X1 % 2 ^ P1))) = false then (fX5_says S (X1 % 2 ^ P1)) else (fX5_says S (256 + ((X1 ^^^ Y1) % 2 ^ Q1)))) = false then 0 else 1)) % 2 ^ H1))) 10 0 7 (nI (F1 + 1)))) from by unfold fX5_add; rw [if_pos c_2])) (congrArg (a₁ := (fX5_add S P1 Q1 H1 Y1 F1 X1)) (a₂ := (if (fX5_says S (512 + (X1 % 2 ^ P1))) = false then (fX5_says S (X1 % 2 ^ P1)) else (fX5_says S (256 + ((X1 ^^^ Y1) % 2 ^ Q1))), (uI (uI (uF (uI (uI (uF (uF (uF (uF S 12 0 (4 * F1 + 0) (fX5_says S (X1 % 2 ^ P1))) 12 0 (4 * F1 + 1) (fX5_says S (256 + ((X1 ^^^ Y1) % 2 ^ Q1)))) 12 0 (4 * F1 + 2) (if (fX5_says S (512 + (X1 % 2 ^ P1))) = false then (fX5_says S (X1 % 2 ^ P1)) else (fX5_says S (256 + ((X1 ^^^ Y1) % 2 ^ Q1))))) 12 0 (4 * F1 + 3) (if (fX5_says S (512 + (X1 % 2 ^ P1))) = false then (fX5_says S (X1 % 2 ^ P1)) else (fX5_says S (256 + ((X1 ^^^ Y1) % 2 ^ Q1))))) 11 2 F1 (nI X1)) 11 3 F1 (nI Y1)) 12 1 F1 false) 10 0 4 (nI ((2 * Y1 + (if (if (fX5_says S (512 + (X1 % 2 ^ P1))) = false then (fX5_says S (X1 % 2 ^ P1)) else (fX5_says S (256 + ((X1 ^^^ Y1) % 2 ^ Q1)))) = false then 0 else 1)) % 2 ^ H1))) 10 0 7 (nI (F1 + 1))))) (fun z : Bool × uS => z.2) (show (fX5_add S P1 Q1 H1 Y1 F1 X1) = (if (fX5_says S (512 + (X1 % 2 ^ P1))) = false then (fX5_says S (X1 % 2 ^ P1)) else (fX5_says S (256 + ((X1 ^^^ Y1) % 2 ^ Q1))), (uI (uI (uF (uI (uI (uF (uF (uF (uF S 12 0 (4 * F1 + 0) (fX5_says S (X1 % 2 ^ P1))) 12 0 (4 * F1 + 1) (fX5_says S (256 + ((X1 ^^^ Y1) % 2 ^ Q1)))) 12 0 (4 * F1 + 2) (if (fX5_says S (512 + (X1 % 2 ^ P1))) = false then (fX5_says S (X1 % 2 ^ P1)) else (fX5_says S (256 + ((X1 ^^^ Y1) % 2 ^ Q1))))) 12 0 (4 * F1 + 3) (if (fX5_says S (512 + (X1 % 2 ^ P1))) = false then (fX5_says S (X1 % 2 ^ P1)) else (fX5_says S (256 + ((X1 ^^^ Y1) % 2 ^ Q1))))) 11 2 F1 (nI X1)) 11 3 F1 (nI Y1)) 12 1 F1 false) 10 0 4 (nI ((2 * Y1 + (if (if (fX5_says S (512 + (X1 % 2 ^ P1))) = false then (fX5_says S (X1 % 2 ^ P1)) else (fX5_says S (256 + ((X1 ^^^ Y1) % 2 ^ Q1)))) = false then 0 else 1)) % 2 ^ H1))) 10 0 7 (nI (F1 + 1)))) from by unfold fX5_add; rw [if_pos c_2])) dX5_add_219
  · skip
    refine lv_aload_n hx hb dX5_add_88 rfl (lv_at hl 2 rfl) ?_
    refine g_10_17 hx hb hts hiX5 hown hK hw kM_10 (hts (.fieldLink RX5 44 "BranchPredictorModel" "trusts" "[I") (by decide +kernel)) dX5_add_89 ?_
    refine lv_iload_n hx hb dX5_add_92 rfl (lv_at hl 0 rfl) ?_
    refine ld_11_7 hx hb hK hw kM_11_7 (lO_in c_2) dX5_add_93 ?_
    refine k_topi (z := S.1 11 7 ((lX5_loopOf (nI X1) 8 0 S).toNatClampNeg)) (by simp [uI, uL, uF]) ?_
    refine lv_iconst (v := 3) hx hb dX5_add_94 (by decide) ?_
    refine k_join (P := fun x9 : Int32 => W p l e rmX5_add s m [.ref (G.2.2 (10, 0)), .int (nI X1)].toArray below meth c H locs 0 0 (MQ below (kQ G kM Z A (some (.int (bI ((fX5_add S P1 Q1 H1 Y1 F1 X1).1)))) ((fX5_add S P1 Q1 H1 Y1 F1 X1).2)) [.ref (G.2.2 (10, 0)), .int (nI X1)].toArray s 0 0 A) (F0 m 103 ls [.int (x9)])) (C := (S.1 11 7 ((lX5_loopOf (nI X1) 8 0 S).toNatClampNeg)) = (3 : Int32)) (a := (1 : Int32)) (b := (0 : Int32)) ?_ (fun ka kb => ?_)
    rotate_left
    · refine lv_icmp_ne (tgt := 102) hx hb dX5_add_95 (by decide) (fun c_4 => ?_) (fun c_4 => ?_)
      · skip
        refine lv_iconst (v := 0) hx hb dX5_add_102 (by decide) ?_
        exact kb c_4
      · skip
        refine lv_iconst (v := 1) hx hb dX5_add_98 (by decide) ?_
        refine lv_goto (tgt := 103) hx hb dX5_add_99 (by decide) ?_
        exact ka c_4
    show W p l e rmX5_add s m [.ref (G.2.2 (10, 0)), .int (nI X1)].toArray below meth c H locs 0 0 (MQ below (kQ G kM Z A (some (.int (bI ((fX5_add S P1 Q1 H1 Y1 F1 X1).1)))) ((fX5_add S P1 Q1 H1 Y1 F1 X1).2)) [.ref (G.2.2 (10, 0)), .int (nI X1)].toArray s 0 0 A) (F0 m 103 ls [.int (if (S.1 11 7 ((lX5_loopOf (nI X1) 8 0 S).toNatClampNeg)) = (3 : Int32) then (1 : Int32) else (0 : Int32))])
    refine k_topi (z := nI (if (S.1 11 7 ((lX5_loopOf (nI X1) 8 0 S).toNatClampNeg)) = (3 : Int32) then 1 else 0)) (by split <;> rfl) ?_
    refine lv_istore (lv' := [(4, .int (nI (if (S.1 11 7 ((lX5_loopOf (nI X1) 8 0 S).toNatClampNeg)) = (3 : Int32) then 1 else 0))), (3, .int ((lX5_loopOf (nI X1) 8 0 S))), (2, .int (nI (4 * F1))), (0, .ref (G.2.2 (10, 0))), (1, .int (nI X1))]) hx hb dX5_add_103 hl (by decide) rfl (fun ls hl => ?_)
    refine lv_aload_n hx hb dX5_add_105 rfl (lv_at hl 3 rfl) ?_
    refine g_10_10 hx hb hts hiX5 hown hK hw kM_10 (hts (.fieldLink RX5 22 "BranchPredictorModel" "predictions" "[Z") (by decide +kernel)) dX5_add_106 ?_
    refine lv_iload_n hx hb dX5_add_109 rfl (lv_at hl 2 rfl) ?_
    refine lv_iconst (v := 3) hx hb dX5_add_110 (by decide) ?_
    refine lv_iadd hx hb dX5_add_111 ?_
    refine k_topi (z := nI (4 * F1 + 3)) (nI_add (4 * F1) 3) ?_
    refine lv_iload hx hb dX5_add_112 (lv_at hl 0 rfl) ?_
    refine lv_if_eq (x := nI (if (S.1 11 7 ((lX5_loopOf (nI X1) 8 0 S).toNatClampNeg)) = (3 : Int32) then 1 else 0)) (tgt := 139) hx hb dX5_add_114 (by decide) (fun c_5 => ?_) (fun c_5 => ?_)
    · skip
      refine lv_aload_n hx hb dX5_add_139 rfl (lv_at hl 3 rfl) ?_
      refine g_10_10 hx hb hts hiX5 hown hK hw kM_10 (hts (.fieldLink RX5 22 "BranchPredictorModel" "predictions" "[Z") (by decide +kernel)) dX5_add_140 ?_
      refine lv_iload_n hx hb dX5_add_143 rfl (lv_at hl 2 rfl) ?_
      refine lv_iconst (v := 2) hx hb dX5_add_144 (by decide) ?_
      refine lv_iadd hx hb dX5_add_145 ?_
      refine k_topi (z := nI (4 * F1 + 2)) (nI_add (4 * F1) 2) ?_
      refine ld_12_0 hx hb hK hw kM_12_0 (vp_in_nI (by first | omega | (split <;> omega)) (by decide)) dX5_add_146 ?_
      refine k_topz (z := (uF (uF (uF S 12 0 (4 * F1 + 0) (fX5_says S (X1 % 2 ^ P1))) 12 0 (4 * F1 + 1) (fX5_says S (256 + ((X1 ^^^ Y1) % 2 ^ Q1)))) 12 0 (4 * F1 + 2) (if (fX5_says S (512 + (X1 % 2 ^ P1))) = false then (fX5_says S (X1 % 2 ^ P1)) else (fX5_says S (256 + ((X1 ^^^ Y1) % 2 ^ Q1))))).2.2 12 0 (4 * F1 + 2)) (by rw [nI_clamp (show 4 * F1 + 2 < 2 ^ 31 from by first | omega | (split <;> omega))]) ?_
      refine k_topz (z := if (fX5_says S (512 + (X1 % 2 ^ P1))) = false then (fX5_says S (X1 % 2 ^ P1)) else (fX5_says S (256 + ((X1 ^^^ Y1) % 2 ^ Q1)))) (by simp [uI, uL, uF]) ?_
      refine st_12_0 (x := if (fX5_says S (512 + (X1 % 2 ^ P1))) = false then (fX5_says S (X1 % 2 ^ P1)) else (fX5_says S (256 + ((X1 ^^^ Y1) % 2 ^ Q1)))) hx hb hK hw kM_12_0 (vp_in_nI (by first | omega | (split <;> omega)) (by decide)) dX5_add_147 (fun H locs hw => ?_)
      rw [nI_clamp (show 4 * F1 + 3 < 2 ^ 31 from by first | omega | (split <;> omega))] at hw
      refine lv_aload_n hx hb dX5_add_148 rfl (lv_at hl 3 rfl) ?_
      refine g_10_8 hx hb hts hiX5 hown hK hw kM_10 (hts (.fieldLink RX5 16 "BranchPredictorModel" "places" "[I") (by decide +kernel)) dX5_add_149 ?_
      refine lv_aload_n hx hb dX5_add_152 rfl (lv_at hl 3 rfl) ?_
      refine g_10_7 hx hb hts hiX5 hown hK hw kM_10 (hts (.fieldLink RX5 74 "BranchPredictorModel" "flying" "I") (by decide +kernel)) dX5_add_153 ?_
      refine k_topi (z := S.1 10 0 7) (by simp [uI, uL, uF]) ?_
      refine k_topi (z := nI F1) (h_F1) ?_
      refine lv_iload_n hx hb dX5_add_156 rfl (lv_at hl 4 rfl) ?_
      refine st_11_2 (x := nI X1) hx hb hK hw kM_11_2 (vp_in_nI (by first | omega | (split <;> omega)) (by decide)) dX5_add_157 (fun H locs hw => ?_)
      rw [nI_clamp (show F1 < 2 ^ 31 from by first | omega | (split <;> omega))] at hw
      refine lv_aload_n hx hb dX5_add_158 rfl (lv_at hl 3 rfl) ?_
      refine g_10_9 hx hb hts hiX5 hown hK hw kM_10 (hts (.fieldLink RX5 19 "BranchPredictorModel" "histories" "[I") (by decide +kernel)) dX5_add_159 ?_
      refine lv_aload_n hx hb dX5_add_162 rfl (lv_at hl 3 rfl) ?_
      refine g_10_7 hx hb hts hiX5 hown hK hw kM_10 (hts (.fieldLink RX5 74 "BranchPredictorModel" "flying" "I") (by decide +kernel)) dX5_add_163 ?_
      refine k_topi (z := S.1 10 0 7) (by simp [uI, uL, uF]) ?_
      refine k_topi (z := nI F1) (h_F1) ?_
      refine lv_aload_n hx hb dX5_add_166 rfl (lv_at hl 3 rfl) ?_
      refine g_10_4 hx hb hts hiX5 hown hK hw kM_10 (hts (.fieldLink RX5 71 "BranchPredictorModel" "history" "I") (by decide +kernel)) dX5_add_167 ?_
      refine k_topi (z := S.1 10 0 4) (by simp [uI, uL, uF]) ?_
      refine k_topi (z := nI Y1) (h_Y1) ?_
      refine st_11_3 (x := nI Y1) hx hb hK hw kM_11_3 (vp_in_nI (by first | omega | (split <;> omega)) (by decide)) dX5_add_170 (fun H locs hw => ?_)
      rw [nI_clamp (show F1 < 2 ^ 31 from by first | omega | (split <;> omega))] at hw
      refine lv_aload_n hx hb dX5_add_171 rfl (lv_at hl 3 rfl) ?_
      refine g_10_11 hx hb hts hiX5 hown hK hw kM_10 (hts (.fieldLink RX5 26 "BranchPredictorModel" "areResolved" "[Z") (by decide +kernel)) dX5_add_172 ?_
      refine lv_aload_n hx hb dX5_add_175 rfl (lv_at hl 3 rfl) ?_
      refine g_10_7 hx hb hts hiX5 hown hK hw kM_10 (hts (.fieldLink RX5 74 "BranchPredictorModel" "flying" "I") (by decide +kernel)) dX5_add_176 ?_
      refine k_topi (z := S.1 10 0 7) (by simp [uI, uL, uF]) ?_
      refine k_topi (z := nI F1) (h_F1) ?_
      refine lv_iconst (v := 0) hx hb dX5_add_179 (by decide) ?_
      refine st_12_1 (x := false) hx hb hK hw kM_12_1 (vp_in_nI (by first | omega | (split <;> omega)) (by decide)) dX5_add_180 (fun H locs hw => ?_)
      rw [nI_clamp (show F1 < 2 ^ 31 from by first | omega | (split <;> omega))] at hw
      refine lv_aload_n hx hb dX5_add_181 rfl (lv_at hl 3 rfl) ?_
      refine lv_aload_n hx hb dX5_add_182 rfl (lv_at hl 3 rfl) ?_
      refine lv_aload_n hx hb dX5_add_183 rfl (lv_at hl 3 rfl) ?_
      refine g_10_4 hx hb hts hiX5 hown hK hw kM_10 (hts (.fieldLink RX5 71 "BranchPredictorModel" "history" "I") (by decide +kernel)) dX5_add_184 ?_
      refine k_topi (z := S.1 10 0 4) (by simp [uI, uL, uF]) ?_
      refine k_topi (z := nI Y1) (h_Y1) ?_
      refine lv_aload_n hx hb dX5_add_187 rfl (lv_at hl 3 rfl) ?_
      refine g_10_10 hx hb hts hiX5 hown hK hw kM_10 (hts (.fieldLink RX5 22 "BranchPredictorModel" "predictions" "[Z") (by decide +kernel)) dX5_add_188 ?_
      refine lv_iload_n hx hb dX5_add_191 rfl (lv_at hl 2 rfl) ?_
      refine lv_iconst (v := 3) hx hb dX5_add_192 (by decide) ?_
      refine lv_iadd hx hb dX5_add_193 ?_
      refine k_topi (z := nI (4 * F1 + 3)) (nI_add (4 * F1) 3) ?_
      refine ld_12_0 hx hb hK hw kM_12_0 (vp_in_nI (by first | omega | (split <;> omega)) (by decide)) dX5_add_194 ?_
      refine k_topz (z := (uF (uI (uI (uF (uF (uF (uF S 12 0 (4 * F1 + 0) (fX5_says S (X1 % 2 ^ P1))) 12 0 (4 * F1 + 1) (fX5_says S (256 + ((X1 ^^^ Y1) % 2 ^ Q1)))) 12 0 (4 * F1 + 2) (if (fX5_says S (512 + (X1 % 2 ^ P1))) = false then (fX5_says S (X1 % 2 ^ P1)) else (fX5_says S (256 + ((X1 ^^^ Y1) % 2 ^ Q1))))) 12 0 (4 * F1 + 3) (if (fX5_says S (512 + (X1 % 2 ^ P1))) = false then (fX5_says S (X1 % 2 ^ P1)) else (fX5_says S (256 + ((X1 ^^^ Y1) % 2 ^ Q1))))) 11 2 F1 (nI X1)) 11 3 F1 (nI Y1)) 12 1 F1 false).2.2 12 0 (4 * F1 + 3)) (by rw [nI_clamp (show 4 * F1 + 3 < 2 ^ 31 from by first | omega | (split <;> omega))]) ?_
      refine k_topz (z := if (fX5_says S (512 + (X1 % 2 ^ P1))) = false then (fX5_says S (X1 % 2 ^ P1)) else (fX5_says S (256 + ((X1 ^^^ Y1) % 2 ^ Q1)))) (by simp [uI, uL, uF]) ?_
      refine k_callV (C := RX5) (n := 2) (rest := [.ref (G.2.2 (10, 0))]) ⟨hx, hb, hml, hown, hts⟩ (cX5c_appended l G Z (uF (uI (uI (uF (uF (uF (uF S 12 0 (4 * F1 + 0) (fX5_says S (X1 % 2 ^ P1))) 12 0 (4 * F1 + 1) (fX5_says S (256 + ((X1 ^^^ Y1) % 2 ^ Q1)))) 12 0 (4 * F1 + 2) (if (fX5_says S (512 + (X1 % 2 ^ P1))) = false then (fX5_says S (X1 % 2 ^ P1)) else (fX5_says S (256 + ((X1 ^^^ Y1) % 2 ^ Q1))))) 12 0 (4 * F1 + 3) (if (fX5_says S (512 + (X1 % 2 ^ P1))) = false then (fX5_says S (X1 % 2 ^ P1)) else (fX5_says S (256 + ((X1 ^^^ Y1) % 2 ^ Q1))))) 11 2 F1 (nI X1)) 11 3 F1 (nI Y1)) 12 1 F1 false) H1 h_H1 h_H1b Y1 h_Y1b (if (fX5_says S (512 + (X1 % 2 ^ P1))) = false then (fX5_says S (X1 % 2 ^ P1)) else (fX5_says S (256 + ((X1 ^^^ Y1) % 2 ^ Q1))))) (cwV 2 hts gX5_add_X5_appended rfl rfl rfl (by decide +kernel) ⟨Nat.le_of_ble_eq_true rfl, Nat.le_of_ble_eq_true rfl⟩) (k_recv hK hw kM_10 rfl rfl) hK hN hZ hA hw (Nat.zero_le _) (Nat.zero_le _) rfl hl.1 rfl (Nat.le_of_ble_eq_true rfl) dX5_add_195 (fun H locs hw => ?_)
      refine W.eq (g2 := F0 m 198 ls [.int (nI ((2 * Y1 + (if (if (fX5_says S (512 + (X1 % 2 ^ P1))) = false then (fX5_says S (X1 % 2 ^ P1)) else (fX5_says S (256 + ((X1 ^^^ Y1) % 2 ^ Q1)))) = false then 0 else 1)) % 2 ^ H1)), .ref (G.2.2 (10, 0))]) rfl ?_
      refine p_10_4 (v := nI ((2 * Y1 + (if (if (fX5_says S (512 + (X1 % 2 ^ P1))) = false then (fX5_says S (X1 % 2 ^ P1)) else (fX5_says S (256 + ((X1 ^^^ Y1) % 2 ^ Q1)))) = false then 0 else 1)) % 2 ^ H1)) hx hb hts hiX5 hown hK hw kM_10 (hts (.fieldLink RX5 71 "BranchPredictorModel" "history" "I") (by decide +kernel)) dX5_add_198 (fun H locs hw => ?_)
      refine lv_aload_n hx hb dX5_add_201 rfl (lv_at hl 3 rfl) ?_
      refine lv_dup hx hb dX5_add_202 rfl ?_
      refine g_10_7 hx hb hts hiX5 hown hK hw kM_10 (hts (.fieldLink RX5 74 "BranchPredictorModel" "flying" "I") (by decide +kernel)) dX5_add_203 ?_
      refine k_topi (z := S.1 10 0 7) (by simp [uI, uL, uF]) ?_
      refine k_topi (z := nI F1) (h_F1) ?_
      refine lv_iconst (v := 1) hx hb dX5_add_206 (by decide) ?_
      refine lv_iadd hx hb dX5_add_207 ?_
      refine k_topi (z := nI (F1 + 1)) (nI_add F1 1) ?_
      refine p_10_7 (v := nI (F1 + 1)) hx hb hts hiX5 hown hK hw kM_10 (hts (.fieldLink RX5 74 "BranchPredictorModel" "flying" "I") (by decide +kernel)) dX5_add_208 (fun H locs hw => ?_)
      refine lv_aload_n hx hb dX5_add_211 rfl (lv_at hl 3 rfl) ?_
      refine g_10_10 hx hb hts hiX5 hown hK hw kM_10 (hts (.fieldLink RX5 22 "BranchPredictorModel" "predictions" "[Z") (by decide +kernel)) dX5_add_212 ?_
      refine lv_iload_n hx hb dX5_add_215 rfl (lv_at hl 2 rfl) ?_
      refine lv_iconst (v := 3) hx hb dX5_add_216 (by decide) ?_
      refine lv_iadd hx hb dX5_add_217 ?_
      refine k_topi (z := nI (4 * F1 + 3)) (nI_add (4 * F1) 3) ?_
      refine ld_12_0 hx hb hK hw kM_12_0 (vp_in_nI (by first | omega | (split <;> omega)) (by decide)) dX5_add_218 ?_
      refine k_topz (z := (uI (uI (uF (uI (uI (uF (uF (uF (uF S 12 0 (4 * F1 + 0) (fX5_says S (X1 % 2 ^ P1))) 12 0 (4 * F1 + 1) (fX5_says S (256 + ((X1 ^^^ Y1) % 2 ^ Q1)))) 12 0 (4 * F1 + 2) (if (fX5_says S (512 + (X1 % 2 ^ P1))) = false then (fX5_says S (X1 % 2 ^ P1)) else (fX5_says S (256 + ((X1 ^^^ Y1) % 2 ^ Q1))))) 12 0 (4 * F1 + 3) (if (fX5_says S (512 + (X1 % 2 ^ P1))) = false then (fX5_says S (X1 % 2 ^ P1)) else (fX5_says S (256 + ((X1 ^^^ Y1) % 2 ^ Q1))))) 11 2 F1 (nI X1)) 11 3 F1 (nI Y1)) 12 1 F1 false) 10 0 4 (nI ((2 * Y1 + (if (if (fX5_says S (512 + (X1 % 2 ^ P1))) = false then (fX5_says S (X1 % 2 ^ P1)) else (fX5_says S (256 + ((X1 ^^^ Y1) % 2 ^ Q1)))) = false then 0 else 1)) % 2 ^ H1))) 10 0 7 (nI (F1 + 1))).2.2 12 0 (4 * F1 + 3)) (by rw [nI_clamp (show 4 * F1 + 3 < 2 ^ 31 from by first | omega | (split <;> omega))]) ?_
      refine k_topz (z := if (fX5_says S (512 + (X1 % 2 ^ P1))) = false then (fX5_says S (X1 % 2 ^ P1)) else (fX5_says S (256 + ((X1 ^^^ Y1) % 2 ^ Q1)))) (by simp [uI, uL, uF]) ?_
      exact k_zret (r := if (fX5_says S (512 + (X1 % 2 ^ P1))) = false then (fX5_says S (X1 % 2 ^ P1)) else (fX5_says S (256 + ((X1 ^^^ Y1) % 2 ^ Q1)))) hx hb hr hlocks hK hw (congrArg (fun z : Bool × uS => some (Value.int (bI (z.1)))) (show (fX5_add S P1 Q1 H1 Y1 F1 X1) = (if (fX5_says S (512 + (X1 % 2 ^ P1))) = false then (fX5_says S (X1 % 2 ^ P1)) else (fX5_says S (256 + ((X1 ^^^ Y1) % 2 ^ Q1))), (uI (uI (uF (uI (uI (uF (uF (uF (uF S 12 0 (4 * F1 + 0) (fX5_says S (X1 % 2 ^ P1))) 12 0 (4 * F1 + 1) (fX5_says S (256 + ((X1 ^^^ Y1) % 2 ^ Q1)))) 12 0 (4 * F1 + 2) (if (fX5_says S (512 + (X1 % 2 ^ P1))) = false then (fX5_says S (X1 % 2 ^ P1)) else (fX5_says S (256 + ((X1 ^^^ Y1) % 2 ^ Q1))))) 12 0 (4 * F1 + 3) (if (fX5_says S (512 + (X1 % 2 ^ P1))) = false then (fX5_says S (X1 % 2 ^ P1)) else (fX5_says S (256 + ((X1 ^^^ Y1) % 2 ^ Q1))))) 11 2 F1 (nI X1)) 11 3 F1 (nI Y1)) 12 1 F1 false) 10 0 4 (nI ((2 * Y1 + (if (if (fX5_says S (512 + (X1 % 2 ^ P1))) = false then (fX5_says S (X1 % 2 ^ P1)) else (fX5_says S (256 + ((X1 ^^^ Y1) % 2 ^ Q1)))) = false then 0 else 1)) % 2 ^ H1))) 10 0 7 (nI (F1 + 1)))) from by unfold fX5_add; rw [if_neg c_2, if_pos c_5])) (congrArg (a₁ := (fX5_add S P1 Q1 H1 Y1 F1 X1)) (a₂ := (if (fX5_says S (512 + (X1 % 2 ^ P1))) = false then (fX5_says S (X1 % 2 ^ P1)) else (fX5_says S (256 + ((X1 ^^^ Y1) % 2 ^ Q1))), (uI (uI (uF (uI (uI (uF (uF (uF (uF S 12 0 (4 * F1 + 0) (fX5_says S (X1 % 2 ^ P1))) 12 0 (4 * F1 + 1) (fX5_says S (256 + ((X1 ^^^ Y1) % 2 ^ Q1)))) 12 0 (4 * F1 + 2) (if (fX5_says S (512 + (X1 % 2 ^ P1))) = false then (fX5_says S (X1 % 2 ^ P1)) else (fX5_says S (256 + ((X1 ^^^ Y1) % 2 ^ Q1))))) 12 0 (4 * F1 + 3) (if (fX5_says S (512 + (X1 % 2 ^ P1))) = false then (fX5_says S (X1 % 2 ^ P1)) else (fX5_says S (256 + ((X1 ^^^ Y1) % 2 ^ Q1))))) 11 2 F1 (nI X1)) 11 3 F1 (nI Y1)) 12 1 F1 false) 10 0 4 (nI ((2 * Y1 + (if (if (fX5_says S (512 + (X1 % 2 ^ P1))) = false then (fX5_says S (X1 % 2 ^ P1)) else (fX5_says S (256 + ((X1 ^^^ Y1) % 2 ^ Q1)))) = false then 0 else 1)) % 2 ^ H1))) 10 0 7 (nI (F1 + 1))))) (fun z : Bool × uS => z.2) (show (fX5_add S P1 Q1 H1 Y1 F1 X1) = (if (fX5_says S (512 + (X1 % 2 ^ P1))) = false then (fX5_says S (X1 % 2 ^ P1)) else (fX5_says S (256 + ((X1 ^^^ Y1) % 2 ^ Q1))), (uI (uI (uF (uI (uI (uF (uF (uF (uF S 12 0 (4 * F1 + 0) (fX5_says S (X1 % 2 ^ P1))) 12 0 (4 * F1 + 1) (fX5_says S (256 + ((X1 ^^^ Y1) % 2 ^ Q1)))) 12 0 (4 * F1 + 2) (if (fX5_says S (512 + (X1 % 2 ^ P1))) = false then (fX5_says S (X1 % 2 ^ P1)) else (fX5_says S (256 + ((X1 ^^^ Y1) % 2 ^ Q1))))) 12 0 (4 * F1 + 3) (if (fX5_says S (512 + (X1 % 2 ^ P1))) = false then (fX5_says S (X1 % 2 ^ P1)) else (fX5_says S (256 + ((X1 ^^^ Y1) % 2 ^ Q1))))) 11 2 F1 (nI X1)) 11 3 F1 (nI Y1)) 12 1 F1 false) 10 0 4 (nI ((2 * Y1 + (if (if (fX5_says S (512 + (X1 % 2 ^ P1))) = false then (fX5_says S (X1 % 2 ^ P1)) else (fX5_says S (256 + ((X1 ^^^ Y1) % 2 ^ Q1)))) = false then 0 else 1)) % 2 ^ H1))) 10 0 7 (nI (F1 + 1)))) from by unfold fX5_add; rw [if_neg c_2, if_pos c_5])) dX5_add_219
    · skip
      refine lv_aload_n hx hb dX5_add_117 rfl (lv_at hl 3 rfl) ?_
      refine lv_iload_n hx hb dX5_add_118 rfl (lv_at hl 1 rfl) ?_
      refine k_topi (z := nI ((lX5_loopOf (nI X1) 8 0 S).toNatClampNeg)) (lO_nI c_2) ?_
      refine k_callV (C := RX5) (n := 1) (rest := [.int (nI (4 * F1 + 3)), .ref (G.2.2 (12, 0))]) ⟨hx, hb, hml, hown, hts⟩ (cX5c_presumed l G Z (uF (uF (uF S 12 0 (4 * F1 + 0) (fX5_says S (X1 % 2 ^ P1))) 12 0 (4 * F1 + 1) (fX5_says S (256 + ((X1 ^^^ Y1) % 2 ^ Q1)))) 12 0 (4 * F1 + 2) (if (fX5_says S (512 + (X1 % 2 ^ P1))) = false then (fX5_says S (X1 % 2 ^ P1)) else (fX5_says S (256 + ((X1 ^^^ Y1) % 2 ^ Q1))))) F1 h_F1 (by omega) ((lX5_loopOf (nI X1) 8 0 S).toNatClampNeg) (vp_lt (lO_in c_2))) (cwV 1 hts gX5_add_X5_presumed rfl rfl rfl (by decide +kernel) ⟨Nat.le_of_ble_eq_true rfl, Nat.le_of_ble_eq_true rfl⟩) (k_recv hK hw kM_10 rfl rfl) hK hN hZ hA hw (Nat.zero_le _) (Nat.zero_le _) rfl hl.1 rfl (Nat.le_of_ble_eq_true rfl) dX5_add_119 (fun H locs hw => ?_)
      refine W.eq (g2 := F0 m 122 ls [.int ((lX5_presumed ((lX5_loopOf (nI X1) 8 0 S).toNatClampNeg) F1 0 ((uF (uF (uF S 12 0 (4 * F1 + 0) (fX5_says S (X1 % 2 ^ P1))) 12 0 (4 * F1 + 1) (fX5_says S (256 + ((X1 ^^^ Y1) % 2 ^ Q1)))) 12 0 (4 * F1 + 2) (if (fX5_says S (512 + (X1 % 2 ^ P1))) = false then (fX5_says S (X1 % 2 ^ P1)) else (fX5_says S (256 + ((X1 ^^^ Y1) % 2 ^ Q1))))).1 11 5 ((lX5_loopOf (nI X1) 8 0 S).toNatClampNeg)) (uF (uF (uF S 12 0 (4 * F1 + 0) (fX5_says S (X1 % 2 ^ P1))) 12 0 (4 * F1 + 1) (fX5_says S (256 + ((X1 ^^^ Y1) % 2 ^ Q1)))) 12 0 (4 * F1 + 2) (if (fX5_says S (512 + (X1 % 2 ^ P1))) = false then (fX5_says S (X1 % 2 ^ P1)) else (fX5_says S (256 + ((X1 ^^^ Y1) % 2 ^ Q1))))))), .int (nI (4 * F1 + 3)), .ref (G.2.2 (12, 0))]) rfl ?_
      refine k_topi (z := (lX5_presumed ((lX5_loopOf (nI X1) 8 0 S).toNatClampNeg) F1 0 ((S.1 11 5 ((lX5_loopOf (nI X1) 8 0 S).toNatClampNeg))) (uF (uF (uF S 12 0 (4 * F1 + 0) (fX5_says S (X1 % 2 ^ P1))) 12 0 (4 * F1 + 1) (fX5_says S (256 + ((X1 ^^^ Y1) % 2 ^ Q1)))) 12 0 (4 * F1 + 2) (if (fX5_says S (512 + (X1 % 2 ^ P1))) = false then (fX5_says S (X1 % 2 ^ P1)) else (fX5_says S (256 + ((X1 ^^^ Y1) % 2 ^ Q1))))))) (by first | rfl | simp [uI, uL, uF]) ?_
      refine lv_aload_n hx hb dX5_add_122 rfl (lv_at hl 3 rfl) ?_
      refine g_10_16 hx hb hts hiX5 hown hK hw kM_10 (hts (.fieldLink RX5 41 "BranchPredictorModel" "trips" "[I") (by decide +kernel)) dX5_add_123 ?_
      refine lv_iload_n hx hb dX5_add_126 rfl (lv_at hl 1 rfl) ?_
      refine ld_11_6 hx hb hK hw kM_11_6 (lO_in c_2) dX5_add_127 ?_
      refine k_topi (z := S.1 11 6 ((lX5_loopOf (nI X1) 8 0 S).toNatClampNeg)) (by simp [uI, uL, uF]) ?_
      refine lv_icmp_ge (tgt := 135) hx hb dX5_add_128 (by decide) (fun c_6 => ?_) (fun c_6 => ?_)
      · skip
        refine lv_iconst (v := 0) hx hb dX5_add_135 (by decide) ?_
        refine lv_goto (tgt := 147) hx hb dX5_add_136 (by decide) ?_
        refine st_12_0 (x := false) hx hb hK hw kM_12_0 (vp_in_nI (by first | omega | (split <;> omega)) (by decide)) dX5_add_147 (fun H locs hw => ?_)
        rw [nI_clamp (show 4 * F1 + 3 < 2 ^ 31 from by first | omega | (split <;> omega))] at hw
        refine lv_aload_n hx hb dX5_add_148 rfl (lv_at hl 3 rfl) ?_
        refine g_10_8 hx hb hts hiX5 hown hK hw kM_10 (hts (.fieldLink RX5 16 "BranchPredictorModel" "places" "[I") (by decide +kernel)) dX5_add_149 ?_
        refine lv_aload_n hx hb dX5_add_152 rfl (lv_at hl 3 rfl) ?_
        refine g_10_7 hx hb hts hiX5 hown hK hw kM_10 (hts (.fieldLink RX5 74 "BranchPredictorModel" "flying" "I") (by decide +kernel)) dX5_add_153 ?_
        refine k_topi (z := S.1 10 0 7) (by simp [uI, uL, uF]) ?_
        refine k_topi (z := nI F1) (h_F1) ?_
        refine lv_iload_n hx hb dX5_add_156 rfl (lv_at hl 4 rfl) ?_
        refine st_11_2 (x := nI X1) hx hb hK hw kM_11_2 (vp_in_nI (by first | omega | (split <;> omega)) (by decide)) dX5_add_157 (fun H locs hw => ?_)
        rw [nI_clamp (show F1 < 2 ^ 31 from by first | omega | (split <;> omega))] at hw
        refine lv_aload_n hx hb dX5_add_158 rfl (lv_at hl 3 rfl) ?_
        refine g_10_9 hx hb hts hiX5 hown hK hw kM_10 (hts (.fieldLink RX5 19 "BranchPredictorModel" "histories" "[I") (by decide +kernel)) dX5_add_159 ?_
        refine lv_aload_n hx hb dX5_add_162 rfl (lv_at hl 3 rfl) ?_
        refine g_10_7 hx hb hts hiX5 hown hK hw kM_10 (hts (.fieldLink RX5 74 "BranchPredictorModel" "flying" "I") (by decide +kernel)) dX5_add_163 ?_
        refine k_topi (z := S.1 10 0 7) (by simp [uI, uL, uF]) ?_
        refine k_topi (z := nI F1) (h_F1) ?_
        refine lv_aload_n hx hb dX5_add_166 rfl (lv_at hl 3 rfl) ?_
        refine g_10_4 hx hb hts hiX5 hown hK hw kM_10 (hts (.fieldLink RX5 71 "BranchPredictorModel" "history" "I") (by decide +kernel)) dX5_add_167 ?_
        refine k_topi (z := S.1 10 0 4) (by simp [uI, uL, uF]) ?_
        refine k_topi (z := nI Y1) (h_Y1) ?_
        refine st_11_3 (x := nI Y1) hx hb hK hw kM_11_3 (vp_in_nI (by first | omega | (split <;> omega)) (by decide)) dX5_add_170 (fun H locs hw => ?_)
        rw [nI_clamp (show F1 < 2 ^ 31 from by first | omega | (split <;> omega))] at hw
        refine lv_aload_n hx hb dX5_add_171 rfl (lv_at hl 3 rfl) ?_
        refine g_10_11 hx hb hts hiX5 hown hK hw kM_10 (hts (.fieldLink RX5 26 "BranchPredictorModel" "areResolved" "[Z") (by decide +kernel)) dX5_add_172 ?_
        refine lv_aload_n hx hb dX5_add_175 rfl (lv_at hl 3 rfl) ?_
        refine g_10_7 hx hb hts hiX5 hown hK hw kM_10 (hts (.fieldLink RX5 74 "BranchPredictorModel" "flying" "I") (by decide +kernel)) dX5_add_176 ?_
        refine k_topi (z := S.1 10 0 7) (by simp [uI, uL, uF]) ?_
        refine k_topi (z := nI F1) (h_F1) ?_
        refine lv_iconst (v := 0) hx hb dX5_add_179 (by decide) ?_
        refine st_12_1 (x := false) hx hb hK hw kM_12_1 (vp_in_nI (by first | omega | (split <;> omega)) (by decide)) dX5_add_180 (fun H locs hw => ?_)
        rw [nI_clamp (show F1 < 2 ^ 31 from by first | omega | (split <;> omega))] at hw
        refine lv_aload_n hx hb dX5_add_181 rfl (lv_at hl 3 rfl) ?_
        refine lv_aload_n hx hb dX5_add_182 rfl (lv_at hl 3 rfl) ?_
        refine lv_aload_n hx hb dX5_add_183 rfl (lv_at hl 3 rfl) ?_
        refine g_10_4 hx hb hts hiX5 hown hK hw kM_10 (hts (.fieldLink RX5 71 "BranchPredictorModel" "history" "I") (by decide +kernel)) dX5_add_184 ?_
        refine k_topi (z := S.1 10 0 4) (by simp [uI, uL, uF]) ?_
        refine k_topi (z := nI Y1) (h_Y1) ?_
        refine lv_aload_n hx hb dX5_add_187 rfl (lv_at hl 3 rfl) ?_
        refine g_10_10 hx hb hts hiX5 hown hK hw kM_10 (hts (.fieldLink RX5 22 "BranchPredictorModel" "predictions" "[Z") (by decide +kernel)) dX5_add_188 ?_
        refine lv_iload_n hx hb dX5_add_191 rfl (lv_at hl 2 rfl) ?_
        refine lv_iconst (v := 3) hx hb dX5_add_192 (by decide) ?_
        refine lv_iadd hx hb dX5_add_193 ?_
        refine k_topi (z := nI (4 * F1 + 3)) (nI_add (4 * F1) 3) ?_
        refine ld_12_0 hx hb hK hw kM_12_0 (vp_in_nI (by first | omega | (split <;> omega)) (by decide)) dX5_add_194 ?_
        refine k_topz (z := (uF (uI (uI (uF (uF (uF (uF S 12 0 (4 * F1 + 0) (fX5_says S (X1 % 2 ^ P1))) 12 0 (4 * F1 + 1) (fX5_says S (256 + ((X1 ^^^ Y1) % 2 ^ Q1)))) 12 0 (4 * F1 + 2) (if (fX5_says S (512 + (X1 % 2 ^ P1))) = false then (fX5_says S (X1 % 2 ^ P1)) else (fX5_says S (256 + ((X1 ^^^ Y1) % 2 ^ Q1))))) 12 0 (4 * F1 + 3) false) 11 2 F1 (nI X1)) 11 3 F1 (nI Y1)) 12 1 F1 false).2.2 12 0 (4 * F1 + 3)) (by rw [nI_clamp (show 4 * F1 + 3 < 2 ^ 31 from by first | omega | (split <;> omega))]) ?_
        refine k_topz (z := false) (by simp [uI, uL, uF]) ?_
        refine k_callV (C := RX5) (n := 2) (rest := [.ref (G.2.2 (10, 0))]) ⟨hx, hb, hml, hown, hts⟩ (cX5c_appended l G Z (uF (uI (uI (uF (uF (uF (uF S 12 0 (4 * F1 + 0) (fX5_says S (X1 % 2 ^ P1))) 12 0 (4 * F1 + 1) (fX5_says S (256 + ((X1 ^^^ Y1) % 2 ^ Q1)))) 12 0 (4 * F1 + 2) (if (fX5_says S (512 + (X1 % 2 ^ P1))) = false then (fX5_says S (X1 % 2 ^ P1)) else (fX5_says S (256 + ((X1 ^^^ Y1) % 2 ^ Q1))))) 12 0 (4 * F1 + 3) false) 11 2 F1 (nI X1)) 11 3 F1 (nI Y1)) 12 1 F1 false) H1 h_H1 h_H1b Y1 h_Y1b false) (cwV 2 hts gX5_add_X5_appended rfl rfl rfl (by decide +kernel) ⟨Nat.le_of_ble_eq_true rfl, Nat.le_of_ble_eq_true rfl⟩) (k_recv hK hw kM_10 rfl rfl) hK hN hZ hA hw (Nat.zero_le _) (Nat.zero_le _) rfl hl.1 rfl (Nat.le_of_ble_eq_true rfl) dX5_add_195 (fun H locs hw => ?_)
        refine W.eq (g2 := F0 m 198 ls [.int (nI ((2 * Y1 + (if false = false then 0 else 1)) % 2 ^ H1)), .ref (G.2.2 (10, 0))]) rfl ?_
        refine p_10_4 (v := nI ((2 * Y1 + (if false = false then 0 else 1)) % 2 ^ H1)) hx hb hts hiX5 hown hK hw kM_10 (hts (.fieldLink RX5 71 "BranchPredictorModel" "history" "I") (by decide +kernel)) dX5_add_198 (fun H locs hw => ?_)
        refine lv_aload_n hx hb dX5_add_201 rfl (lv_at hl 3 rfl) ?_
        refine lv_dup hx hb dX5_add_202 rfl ?_
        refine g_10_7 hx hb hts hiX5 hown hK hw kM_10 (hts (.fieldLink RX5 74 "BranchPredictorModel" "flying" "I") (by decide +kernel)) dX5_add_203 ?_
        refine k_topi (z := S.1 10 0 7) (by simp [uI, uL, uF]) ?_
        refine k_topi (z := nI F1) (h_F1) ?_
        refine lv_iconst (v := 1) hx hb dX5_add_206 (by decide) ?_
        refine lv_iadd hx hb dX5_add_207 ?_
        refine k_topi (z := nI (F1 + 1)) (nI_add F1 1) ?_
        refine p_10_7 (v := nI (F1 + 1)) hx hb hts hiX5 hown hK hw kM_10 (hts (.fieldLink RX5 74 "BranchPredictorModel" "flying" "I") (by decide +kernel)) dX5_add_208 (fun H locs hw => ?_)
        refine lv_aload_n hx hb dX5_add_211 rfl (lv_at hl 3 rfl) ?_
        refine g_10_10 hx hb hts hiX5 hown hK hw kM_10 (hts (.fieldLink RX5 22 "BranchPredictorModel" "predictions" "[Z") (by decide +kernel)) dX5_add_212 ?_
        refine lv_iload_n hx hb dX5_add_215 rfl (lv_at hl 2 rfl) ?_
        refine lv_iconst (v := 3) hx hb dX5_add_216 (by decide) ?_
        refine lv_iadd hx hb dX5_add_217 ?_
        refine k_topi (z := nI (4 * F1 + 3)) (nI_add (4 * F1) 3) ?_
        refine ld_12_0 hx hb hK hw kM_12_0 (vp_in_nI (by first | omega | (split <;> omega)) (by decide)) dX5_add_218 ?_
        refine k_topz (z := (uI (uI (uF (uI (uI (uF (uF (uF (uF S 12 0 (4 * F1 + 0) (fX5_says S (X1 % 2 ^ P1))) 12 0 (4 * F1 + 1) (fX5_says S (256 + ((X1 ^^^ Y1) % 2 ^ Q1)))) 12 0 (4 * F1 + 2) (if (fX5_says S (512 + (X1 % 2 ^ P1))) = false then (fX5_says S (X1 % 2 ^ P1)) else (fX5_says S (256 + ((X1 ^^^ Y1) % 2 ^ Q1))))) 12 0 (4 * F1 + 3) false) 11 2 F1 (nI X1)) 11 3 F1 (nI Y1)) 12 1 F1 false) 10 0 4 (nI ((2 * Y1 + (if false = false then 0 else 1)) % 2 ^ H1))) 10 0 7 (nI (F1 + 1))).2.2 12 0 (4 * F1 + 3)) (by rw [nI_clamp (show 4 * F1 + 3 < 2 ^ 31 from by first | omega | (split <;> omega))]) ?_
        refine k_topz (z := false) (by simp [uI, uL, uF]) ?_
        exact k_zret (r := false) hx hb hr hlocks hK hw (congrArg (fun z : Bool × uS => some (Value.int (bI (z.1)))) (show (fX5_add S P1 Q1 H1 Y1 F1 X1) = (false, (uI (uI (uF (uI (uI (uF (uF (uF (uF S 12 0 (4 * F1 + 0) (fX5_says S (X1 % 2 ^ P1))) 12 0 (4 * F1 + 1) (fX5_says S (256 + ((X1 ^^^ Y1) % 2 ^ Q1)))) 12 0 (4 * F1 + 2) (if (fX5_says S (512 + (X1 % 2 ^ P1))) = false then (fX5_says S (X1 % 2 ^ P1)) else (fX5_says S (256 + ((X1 ^^^ Y1) % 2 ^ Q1))))) 12 0 (4 * F1 + 3) false) 11 2 F1 (nI X1)) 11 3 F1 (nI Y1)) 12 1 F1 false) 10 0 4 (nI ((2 * Y1 + (if false = false then 0 else 1)) % 2 ^ H1))) 10 0 7 (nI (F1 + 1)))) from by unfold fX5_add; rw [if_neg c_2, if_neg c_5, if_pos c_6])) (congrArg (a₁ := (fX5_add S P1 Q1 H1 Y1 F1 X1)) (a₂ := (false, (uI (uI (uF (uI (uI (uF (uF (uF (uF S 12 0 (4 * F1 + 0) (fX5_says S (X1 % 2 ^ P1))) 12 0 (4 * F1 + 1) (fX5_says S (256 + ((X1 ^^^ Y1) % 2 ^ Q1)))) 12 0 (4 * F1 + 2) (if (fX5_says S (512 + (X1 % 2 ^ P1))) = false then (fX5_says S (X1 % 2 ^ P1)) else (fX5_says S (256 + ((X1 ^^^ Y1) % 2 ^ Q1))))) 12 0 (4 * F1 + 3) false) 11 2 F1 (nI X1)) 11 3 F1 (nI Y1)) 12 1 F1 false) 10 0 4 (nI ((2 * Y1 + (if false = false then 0 else 1)) % 2 ^ H1))) 10 0 7 (nI (F1 + 1))))) (fun z : Bool × uS => z.2) (show (fX5_add S P1 Q1 H1 Y1 F1 X1) = (false, (uI (uI (uF (uI (uI (uF (uF (uF (uF S 12 0 (4 * F1 + 0) (fX5_says S (X1 % 2 ^ P1))) 12 0 (4 * F1 + 1) (fX5_says S (256 + ((X1 ^^^ Y1) % 2 ^ Q1)))) 12 0 (4 * F1 + 2) (if (fX5_says S (512 + (X1 % 2 ^ P1))) = false then (fX5_says S (X1 % 2 ^ P1)) else (fX5_says S (256 + ((X1 ^^^ Y1) % 2 ^ Q1))))) 12 0 (4 * F1 + 3) false) 11 2 F1 (nI X1)) 11 3 F1 (nI Y1)) 12 1 F1 false) 10 0 4 (nI ((2 * Y1 + (if false = false then 0 else 1)) % 2 ^ H1))) 10 0 7 (nI (F1 + 1)))) from by unfold fX5_add; rw [if_neg c_2, if_neg c_5, if_pos c_6])) dX5_add_219
      · skip
        refine lv_iconst (v := 1) hx hb dX5_add_131 (by decide) ?_
        refine lv_goto (tgt := 147) hx hb dX5_add_132 (by decide) ?_
        refine st_12_0 (x := true) hx hb hK hw kM_12_0 (vp_in_nI (by first | omega | (split <;> omega)) (by decide)) dX5_add_147 (fun H locs hw => ?_)
        rw [nI_clamp (show 4 * F1 + 3 < 2 ^ 31 from by first | omega | (split <;> omega))] at hw
        refine lv_aload_n hx hb dX5_add_148 rfl (lv_at hl 3 rfl) ?_
        refine g_10_8 hx hb hts hiX5 hown hK hw kM_10 (hts (.fieldLink RX5 16 "BranchPredictorModel" "places" "[I") (by decide +kernel)) dX5_add_149 ?_
        refine lv_aload_n hx hb dX5_add_152 rfl (lv_at hl 3 rfl) ?_
        refine g_10_7 hx hb hts hiX5 hown hK hw kM_10 (hts (.fieldLink RX5 74 "BranchPredictorModel" "flying" "I") (by decide +kernel)) dX5_add_153 ?_
        refine k_topi (z := S.1 10 0 7) (by simp [uI, uL, uF]) ?_
        refine k_topi (z := nI F1) (h_F1) ?_
        refine lv_iload_n hx hb dX5_add_156 rfl (lv_at hl 4 rfl) ?_
        refine st_11_2 (x := nI X1) hx hb hK hw kM_11_2 (vp_in_nI (by first | omega | (split <;> omega)) (by decide)) dX5_add_157 (fun H locs hw => ?_)
        rw [nI_clamp (show F1 < 2 ^ 31 from by first | omega | (split <;> omega))] at hw
        refine lv_aload_n hx hb dX5_add_158 rfl (lv_at hl 3 rfl) ?_
        refine g_10_9 hx hb hts hiX5 hown hK hw kM_10 (hts (.fieldLink RX5 19 "BranchPredictorModel" "histories" "[I") (by decide +kernel)) dX5_add_159 ?_
        refine lv_aload_n hx hb dX5_add_162 rfl (lv_at hl 3 rfl) ?_
        refine g_10_7 hx hb hts hiX5 hown hK hw kM_10 (hts (.fieldLink RX5 74 "BranchPredictorModel" "flying" "I") (by decide +kernel)) dX5_add_163 ?_
        refine k_topi (z := S.1 10 0 7) (by simp [uI, uL, uF]) ?_
        refine k_topi (z := nI F1) (h_F1) ?_
        refine lv_aload_n hx hb dX5_add_166 rfl (lv_at hl 3 rfl) ?_
        refine g_10_4 hx hb hts hiX5 hown hK hw kM_10 (hts (.fieldLink RX5 71 "BranchPredictorModel" "history" "I") (by decide +kernel)) dX5_add_167 ?_
        refine k_topi (z := S.1 10 0 4) (by simp [uI, uL, uF]) ?_
        refine k_topi (z := nI Y1) (h_Y1) ?_
        refine st_11_3 (x := nI Y1) hx hb hK hw kM_11_3 (vp_in_nI (by first | omega | (split <;> omega)) (by decide)) dX5_add_170 (fun H locs hw => ?_)
        rw [nI_clamp (show F1 < 2 ^ 31 from by first | omega | (split <;> omega))] at hw
        refine lv_aload_n hx hb dX5_add_171 rfl (lv_at hl 3 rfl) ?_
        refine g_10_11 hx hb hts hiX5 hown hK hw kM_10 (hts (.fieldLink RX5 26 "BranchPredictorModel" "areResolved" "[Z") (by decide +kernel)) dX5_add_172 ?_
        refine lv_aload_n hx hb dX5_add_175 rfl (lv_at hl 3 rfl) ?_
        refine g_10_7 hx hb hts hiX5 hown hK hw kM_10 (hts (.fieldLink RX5 74 "BranchPredictorModel" "flying" "I") (by decide +kernel)) dX5_add_176 ?_
        refine k_topi (z := S.1 10 0 7) (by simp [uI, uL, uF]) ?_
        refine k_topi (z := nI F1) (h_F1) ?_
        refine lv_iconst (v := 0) hx hb dX5_add_179 (by decide) ?_
        refine st_12_1 (x := false) hx hb hK hw kM_12_1 (vp_in_nI (by first | omega | (split <;> omega)) (by decide)) dX5_add_180 (fun H locs hw => ?_)
        rw [nI_clamp (show F1 < 2 ^ 31 from by first | omega | (split <;> omega))] at hw
        refine lv_aload_n hx hb dX5_add_181 rfl (lv_at hl 3 rfl) ?_
        refine lv_aload_n hx hb dX5_add_182 rfl (lv_at hl 3 rfl) ?_
        refine lv_aload_n hx hb dX5_add_183 rfl (lv_at hl 3 rfl) ?_
        refine g_10_4 hx hb hts hiX5 hown hK hw kM_10 (hts (.fieldLink RX5 71 "BranchPredictorModel" "history" "I") (by decide +kernel)) dX5_add_184 ?_
        refine k_topi (z := S.1 10 0 4) (by simp [uI, uL, uF]) ?_
        refine k_topi (z := nI Y1) (h_Y1) ?_
        refine lv_aload_n hx hb dX5_add_187 rfl (lv_at hl 3 rfl) ?_
        refine g_10_10 hx hb hts hiX5 hown hK hw kM_10 (hts (.fieldLink RX5 22 "BranchPredictorModel" "predictions" "[Z") (by decide +kernel)) dX5_add_188 ?_
        refine lv_iload_n hx hb dX5_add_191 rfl (lv_at hl 2 rfl) ?_
        refine lv_iconst (v := 3) hx hb dX5_add_192 (by decide) ?_
        refine lv_iadd hx hb dX5_add_193 ?_
        refine k_topi (z := nI (4 * F1 + 3)) (nI_add (4 * F1) 3) ?_
        refine ld_12_0 hx hb hK hw kM_12_0 (vp_in_nI (by first | omega | (split <;> omega)) (by decide)) dX5_add_194 ?_
        refine k_topz (z := (uF (uI (uI (uF (uF (uF (uF S 12 0 (4 * F1 + 0) (fX5_says S (X1 % 2 ^ P1))) 12 0 (4 * F1 + 1) (fX5_says S (256 + ((X1 ^^^ Y1) % 2 ^ Q1)))) 12 0 (4 * F1 + 2) (if (fX5_says S (512 + (X1 % 2 ^ P1))) = false then (fX5_says S (X1 % 2 ^ P1)) else (fX5_says S (256 + ((X1 ^^^ Y1) % 2 ^ Q1))))) 12 0 (4 * F1 + 3) true) 11 2 F1 (nI X1)) 11 3 F1 (nI Y1)) 12 1 F1 false).2.2 12 0 (4 * F1 + 3)) (by rw [nI_clamp (show 4 * F1 + 3 < 2 ^ 31 from by first | omega | (split <;> omega))]) ?_
        refine k_topz (z := true) (by simp [uI, uL, uF]) ?_
        refine k_callV (C := RX5) (n := 2) (rest := [.ref (G.2.2 (10, 0))]) ⟨hx, hb, hml, hown, hts⟩ (cX5c_appended l G Z (uF (uI (uI (uF (uF (uF (uF S 12 0 (4 * F1 + 0) (fX5_says S (X1 % 2 ^ P1))) 12 0 (4 * F1 + 1) (fX5_says S (256 + ((X1 ^^^ Y1) % 2 ^ Q1)))) 12 0 (4 * F1 + 2) (if (fX5_says S (512 + (X1 % 2 ^ P1))) = false then (fX5_says S (X1 % 2 ^ P1)) else (fX5_says S (256 + ((X1 ^^^ Y1) % 2 ^ Q1))))) 12 0 (4 * F1 + 3) true) 11 2 F1 (nI X1)) 11 3 F1 (nI Y1)) 12 1 F1 false) H1 h_H1 h_H1b Y1 h_Y1b true) (cwV 2 hts gX5_add_X5_appended rfl rfl rfl (by decide +kernel) ⟨Nat.le_of_ble_eq_true rfl, Nat.le_of_ble_eq_true rfl⟩) (k_recv hK hw kM_10 rfl rfl) hK hN hZ hA hw (Nat.zero_le _) (Nat.zero_le _) rfl hl.1 rfl (Nat.le_of_ble_eq_true rfl) dX5_add_195 (fun H locs hw => ?_)
        refine W.eq (g2 := F0 m 198 ls [.int (nI ((2 * Y1 + (if true = false then 0 else 1)) % 2 ^ H1)), .ref (G.2.2 (10, 0))]) rfl ?_
        refine p_10_4 (v := nI ((2 * Y1 + (if true = false then 0 else 1)) % 2 ^ H1)) hx hb hts hiX5 hown hK hw kM_10 (hts (.fieldLink RX5 71 "BranchPredictorModel" "history" "I") (by decide +kernel)) dX5_add_198 (fun H locs hw => ?_)
        refine lv_aload_n hx hb dX5_add_201 rfl (lv_at hl 3 rfl) ?_
        refine lv_dup hx hb dX5_add_202 rfl ?_
        refine g_10_7 hx hb hts hiX5 hown hK hw kM_10 (hts (.fieldLink RX5 74 "BranchPredictorModel" "flying" "I") (by decide +kernel)) dX5_add_203 ?_
        refine k_topi (z := S.1 10 0 7) (by simp [uI, uL, uF]) ?_
        refine k_topi (z := nI F1) (h_F1) ?_
        refine lv_iconst (v := 1) hx hb dX5_add_206 (by decide) ?_
        refine lv_iadd hx hb dX5_add_207 ?_
        refine k_topi (z := nI (F1 + 1)) (nI_add F1 1) ?_
        refine p_10_7 (v := nI (F1 + 1)) hx hb hts hiX5 hown hK hw kM_10 (hts (.fieldLink RX5 74 "BranchPredictorModel" "flying" "I") (by decide +kernel)) dX5_add_208 (fun H locs hw => ?_)
        refine lv_aload_n hx hb dX5_add_211 rfl (lv_at hl 3 rfl) ?_
        refine g_10_10 hx hb hts hiX5 hown hK hw kM_10 (hts (.fieldLink RX5 22 "BranchPredictorModel" "predictions" "[Z") (by decide +kernel)) dX5_add_212 ?_
        refine lv_iload_n hx hb dX5_add_215 rfl (lv_at hl 2 rfl) ?_
        refine lv_iconst (v := 3) hx hb dX5_add_216 (by decide) ?_
        refine lv_iadd hx hb dX5_add_217 ?_
        refine k_topi (z := nI (4 * F1 + 3)) (nI_add (4 * F1) 3) ?_
        refine ld_12_0 hx hb hK hw kM_12_0 (vp_in_nI (by first | omega | (split <;> omega)) (by decide)) dX5_add_218 ?_
        refine k_topz (z := (uI (uI (uF (uI (uI (uF (uF (uF (uF S 12 0 (4 * F1 + 0) (fX5_says S (X1 % 2 ^ P1))) 12 0 (4 * F1 + 1) (fX5_says S (256 + ((X1 ^^^ Y1) % 2 ^ Q1)))) 12 0 (4 * F1 + 2) (if (fX5_says S (512 + (X1 % 2 ^ P1))) = false then (fX5_says S (X1 % 2 ^ P1)) else (fX5_says S (256 + ((X1 ^^^ Y1) % 2 ^ Q1))))) 12 0 (4 * F1 + 3) true) 11 2 F1 (nI X1)) 11 3 F1 (nI Y1)) 12 1 F1 false) 10 0 4 (nI ((2 * Y1 + (if true = false then 0 else 1)) % 2 ^ H1))) 10 0 7 (nI (F1 + 1))).2.2 12 0 (4 * F1 + 3)) (by rw [nI_clamp (show 4 * F1 + 3 < 2 ^ 31 from by first | omega | (split <;> omega))]) ?_
        refine k_topz (z := true) (by simp [uI, uL, uF]) ?_
        exact k_zret (r := true) hx hb hr hlocks hK hw (congrArg (fun z : Bool × uS => some (Value.int (bI (z.1)))) (show (fX5_add S P1 Q1 H1 Y1 F1 X1) = (true, (uI (uI (uF (uI (uI (uF (uF (uF (uF S 12 0 (4 * F1 + 0) (fX5_says S (X1 % 2 ^ P1))) 12 0 (4 * F1 + 1) (fX5_says S (256 + ((X1 ^^^ Y1) % 2 ^ Q1)))) 12 0 (4 * F1 + 2) (if (fX5_says S (512 + (X1 % 2 ^ P1))) = false then (fX5_says S (X1 % 2 ^ P1)) else (fX5_says S (256 + ((X1 ^^^ Y1) % 2 ^ Q1))))) 12 0 (4 * F1 + 3) true) 11 2 F1 (nI X1)) 11 3 F1 (nI Y1)) 12 1 F1 false) 10 0 4 (nI ((2 * Y1 + (if true = false then 0 else 1)) % 2 ^ H1))) 10 0 7 (nI (F1 + 1)))) from by unfold fX5_add; rw [if_neg c_2, if_neg c_5, if_neg c_6])) (congrArg (a₁ := (fX5_add S P1 Q1 H1 Y1 F1 X1)) (a₂ := (true, (uI (uI (uF (uI (uI (uF (uF (uF (uF S 12 0 (4 * F1 + 0) (fX5_says S (X1 % 2 ^ P1))) 12 0 (4 * F1 + 1) (fX5_says S (256 + ((X1 ^^^ Y1) % 2 ^ Q1)))) 12 0 (4 * F1 + 2) (if (fX5_says S (512 + (X1 % 2 ^ P1))) = false then (fX5_says S (X1 % 2 ^ P1)) else (fX5_says S (256 + ((X1 ^^^ Y1) % 2 ^ Q1))))) 12 0 (4 * F1 + 3) true) 11 2 F1 (nI X1)) 11 3 F1 (nI Y1)) 12 1 F1 false) 10 0 4 (nI ((2 * Y1 + (if true = false then 0 else 1)) % 2 ^ H1))) 10 0 7 (nI (F1 + 1))))) (fun z : Bool × uS => z.2) (show (fX5_add S P1 Q1 H1 Y1 F1 X1) = (true, (uI (uI (uF (uI (uI (uF (uF (uF (uF S 12 0 (4 * F1 + 0) (fX5_says S (X1 % 2 ^ P1))) 12 0 (4 * F1 + 1) (fX5_says S (256 + ((X1 ^^^ Y1) % 2 ^ Q1)))) 12 0 (4 * F1 + 2) (if (fX5_says S (512 + (X1 % 2 ^ P1))) = false then (fX5_says S (X1 % 2 ^ P1)) else (fX5_says S (256 + ((X1 ^^^ Y1) % 2 ^ Q1))))) 12 0 (4 * F1 + 3) true) 11 2 F1 (nI X1)) 11 3 F1 (nI Y1)) 12 1 F1 false) 10 0 4 (nI ((2 * Y1 + (if true = false then 0 else 1)) % 2 ^ H1))) 10 0 7 (nI (F1 + 1)))) from by unfold fX5_add; rw [if_neg c_2, if_neg c_5, if_neg c_6])) dX5_add_219
def fX5_settle (S : uS) (F1 : Nat) (H1 : Nat) (J1 : Nat) (W1 : Nat) (b1 : Bool) : Int32 × uS :=
  if (fX5_isWrong (uF (uF S 12 1 J1 true) 12 2 J1 b1) J1) = false then ((-1 : Int32), (uF (uF S 12 1 J1 true) 12 2 J1 b1))
  else (((nI F1) - (nI J1)) - (1 : Int32), (uI (uL (uI (uF (uF S 12 1 J1 true) 12 2 J1 b1) 10 0 7 (nI (J1 + 1))) 10 0 19 ((S.2.1 10 0 19) + ((((nI F1) - (nI J1)) - (1 : Int32)).toInt64))) 10 0 4 (nI ((2 * W1 + (if b1 = false then 0 else 1)) % 2 ^ H1))))
abbrev rmX5_settle : Room := { frames := 1, cells := 0, slots := 0, locals := 22 }
set_option maxHeartbeats 4000000 in
set_option maxRecDepth 100000 in
theorem cX5c_settle (l : Launch) (G : gG) (Z : va_W) (S : uS) (F1 : Nat) (h_F1 : S.1 10 0 7 = nI F1) (h_F1b : F1 ≤ 16) (H1 : Nat) (h_H1 : S.1 10 0 3 = nI H1) (h_H1b : H1 ≤ 8) (J1 : Nat) (h_J1b : J1 < 16) (W1 : Nat) (h_W1 : S.1 11 3 J1 = nI W1) (h_W1b : W1 < 256) (b1 : Bool) : kMet l yX5_settle wsX5_settle rmX5_settle G kM Z S [.ref (G.2.2 (10, 0)), .int (nI J1), .int (bI (b1))] (some (.int ((fX5_settle S F1 H1 J1 W1 b1).1))) ((fX5_settle S F1 H1 J1 W1 b1).2) := by
  refine kMet_of (cc := cX5_settle) (maxL := 4) (ret := (some .int)) (by decide) rfl (Nat.le_of_ble_eq_true rfl) ?_
  intro p e s m below meth c hx hb hr hml hlocks hts hown hK hN A hZ hA H locs hw ls hl
  have hl : lv_has ls 4 [(0, .ref (G.2.2 (10, 0))), (1, .int (nI J1)), (2, .int (bI (b1)))] := hl
  have hiX5 : ∀ w ∈ wsX50, w ∈ wsX5_settle := by decide +kernel
  refine lv_aload_n hx hb dX5_settle_0 rfl (lv_at hl 0 rfl) ?_
  refine g_10_11 hx hb hts hiX5 hown hK hw kM_10 (hts (.fieldLink RX5 26 "BranchPredictorModel" "areResolved" "[Z") (by decide +kernel)) dX5_settle_1 ?_
  refine lv_iload_n hx hb dX5_settle_4 rfl (lv_at hl 1 rfl) ?_
  refine lv_iconst (v := 1) hx hb dX5_settle_5 (by decide) ?_
  refine st_12_1 (x := true) hx hb hK hw kM_12_1 (vp_in_nI (by first | omega | (split <;> omega)) (by decide)) dX5_settle_6 (fun H locs hw => ?_)
  rw [nI_clamp (show J1 < 2 ^ 31 from by first | omega | (split <;> omega))] at hw
  refine lv_aload_n hx hb dX5_settle_7 rfl (lv_at hl 0 rfl) ?_
  refine g_10_12 hx hb hts hiX5 hown hK hw kM_10 (hts (.fieldLink RX5 29 "BranchPredictorModel" "outcomes" "[Z") (by decide +kernel)) dX5_settle_8 ?_
  refine lv_iload_n hx hb dX5_settle_11 rfl (lv_at hl 1 rfl) ?_
  refine lv_iload_n hx hb dX5_settle_12 rfl (lv_at hl 2 rfl) ?_
  refine st_12_2 (x := b1) hx hb hK hw kM_12_2 (vp_in_nI (by first | omega | (split <;> omega)) (by decide)) dX5_settle_13 (fun H locs hw => ?_)
  rw [nI_clamp (show J1 < 2 ^ 31 from by first | omega | (split <;> omega))] at hw
  refine lv_aload_n hx hb dX5_settle_14 rfl (lv_at hl 0 rfl) ?_
  refine lv_iload_n hx hb dX5_settle_15 rfl (lv_at hl 1 rfl) ?_
  refine k_callV (C := RX5) (n := 1) (rest := []) ⟨hx, hb, hml, hown, hts⟩ (cX5c_isWrong l G Z (uF (uF S 12 1 J1 true) 12 2 J1 b1) J1 h_J1b) (cwV 1 hts gX5_settle_X5_isWrong rfl rfl rfl (by decide +kernel) ⟨Nat.le_of_ble_eq_true rfl, Nat.le_of_ble_eq_true rfl⟩) (k_recv hK hw kM_10 rfl rfl) hK hN hZ hA hw (Nat.zero_le _) (Nat.zero_le _) rfl hl.1 rfl (Nat.le_of_ble_eq_true rfl) dX5_settle_16 (fun H locs hw => ?_)
  refine W.eq (g2 := F0 m 19 ls [.int (bI ((fX5_isWrong (uF (uF S 12 1 J1 true) 12 2 J1 b1) J1)))]) rfl ?_
  refine k_if_ne (b := (fX5_isWrong (uF (uF S 12 1 J1 true) 12 2 J1 b1) J1)) (tgt := 24) hx hb dX5_settle_19 (by decide) (fun c_1 => ?_) (fun c_1 => ?_)
  · skip
    refine lv_aload_n hx hb dX5_settle_24 rfl (lv_at hl 0 rfl) ?_
    refine g_10_7 hx hb hts hiX5 hown hK hw kM_10 (hts (.fieldLink RX5 74 "BranchPredictorModel" "flying" "I") (by decide +kernel)) dX5_settle_25 ?_
    refine k_topi (z := S.1 10 0 7) (by simp [uI, uL, uF]) ?_
    refine k_topi (z := nI F1) (h_F1) ?_
    refine lv_iload_n hx hb dX5_settle_28 rfl (lv_at hl 1 rfl) ?_
    refine lv_isub hx hb dX5_settle_29 ?_
    refine lv_iconst (v := 1) hx hb dX5_settle_30 (by decide) ?_
    refine lv_isub hx hb dX5_settle_31 ?_
    refine lv_istore_n (lv' := [(3, .int (((nI F1) - (nI J1)) - (1 : Int32))), (0, .ref (G.2.2 (10, 0))), (1, .int (nI J1)), (2, .int (bI (b1)))]) hx hb dX5_settle_32 rfl hl (by decide) rfl (fun ls hl => ?_)
    refine lv_aload_n hx hb dX5_settle_33 rfl (lv_at hl 1 rfl) ?_
    refine lv_iload_n hx hb dX5_settle_34 rfl (lv_at hl 2 rfl) ?_
    refine lv_iconst (v := 1) hx hb dX5_settle_35 (by decide) ?_
    refine lv_iadd hx hb dX5_settle_36 ?_
    refine k_topi (z := nI (J1 + 1)) (nI_add J1 1) ?_
    refine p_10_7 (v := nI (J1 + 1)) hx hb hts hiX5 hown hK hw kM_10 (hts (.fieldLink RX5 74 "BranchPredictorModel" "flying" "I") (by decide +kernel)) dX5_settle_37 (fun H locs hw => ?_)
    refine lv_aload_n hx hb dX5_settle_40 rfl (lv_at hl 1 rfl) ?_
    refine lv_dup hx hb dX5_settle_41 rfl ?_
    refine g_10_19 hx hb hts hiX5 hown hK hw kM_10 (hts (.fieldLink RX5 81 "BranchPredictorModel" "drops" "J") (by decide +kernel)) dX5_settle_42 ?_
    refine k_topl (z := S.2.1 10 0 19) (by simp [uI, uL, uF]) ?_
    refine lv_iload_n hx hb dX5_settle_45 rfl (lv_at hl 0 rfl) ?_
    refine lv_i2l (v := (((nI F1) - (nI J1)) - (1 : Int32)).toInt64) hx hb dX5_settle_46 rfl ?_
    refine lv_ladd hx hb dX5_settle_47 ?_
    refine p_10_19 (v := (S.2.1 10 0 19) + ((((nI F1) - (nI J1)) - (1 : Int32)).toInt64)) hx hb hts hiX5 hown hK hw kM_10 (hts (.fieldLink RX5 81 "BranchPredictorModel" "drops" "J") (by decide +kernel)) dX5_settle_48 (fun H locs hw => ?_)
    refine lv_aload_n hx hb dX5_settle_51 rfl (lv_at hl 1 rfl) ?_
    refine lv_aload_n hx hb dX5_settle_52 rfl (lv_at hl 1 rfl) ?_
    refine lv_aload_n hx hb dX5_settle_53 rfl (lv_at hl 1 rfl) ?_
    refine g_10_9 hx hb hts hiX5 hown hK hw kM_10 (hts (.fieldLink RX5 19 "BranchPredictorModel" "histories" "[I") (by decide +kernel)) dX5_settle_54 ?_
    refine lv_iload_n hx hb dX5_settle_57 rfl (lv_at hl 2 rfl) ?_
    refine ld_11_3 hx hb hK hw kM_11_3 (vp_in_nI (by first | omega | (split <;> omega)) (by decide)) dX5_settle_58 ?_
    refine k_topi (z := (uL (uI (uF (uF S 12 1 J1 true) 12 2 J1 b1) 10 0 7 (nI (J1 + 1))) 10 0 19 ((S.2.1 10 0 19) + ((((nI F1) - (nI J1)) - (1 : Int32)).toInt64))).1 11 3 J1) (by rw [nI_clamp (show J1 < 2 ^ 31 from by first | omega | (split <;> omega))]) ?_
    refine k_topi (z := S.1 11 3 J1) (by simp [uI, uL, uF]) ?_
    refine k_topi (z := nI W1) (h_W1) ?_
    refine lv_iload_n hx hb dX5_settle_59 rfl (lv_at hl 3 rfl) ?_
    refine k_callV (C := RX5) (n := 2) (rest := [.ref (G.2.2 (10, 0))]) ⟨hx, hb, hml, hown, hts⟩ (cX5c_appended l G Z (uL (uI (uF (uF S 12 1 J1 true) 12 2 J1 b1) 10 0 7 (nI (J1 + 1))) 10 0 19 ((S.2.1 10 0 19) + ((((nI F1) - (nI J1)) - (1 : Int32)).toInt64))) H1 h_H1 h_H1b W1 h_W1b b1) (cwV 2 hts gX5_settle_X5_appended rfl rfl rfl (by decide +kernel) ⟨Nat.le_of_ble_eq_true rfl, Nat.le_of_ble_eq_true rfl⟩) (k_recv hK hw kM_10 rfl rfl) hK hN hZ hA hw (Nat.zero_le _) (Nat.zero_le _) rfl hl.1 rfl (Nat.le_of_ble_eq_true rfl) dX5_settle_60 (fun H locs hw => ?_)
    refine W.eq (g2 := F0 m 63 ls [.int (nI ((2 * W1 + (if b1 = false then 0 else 1)) % 2 ^ H1)), .ref (G.2.2 (10, 0))]) rfl ?_
    refine p_10_4 (v := nI ((2 * W1 + (if b1 = false then 0 else 1)) % 2 ^ H1)) hx hb hts hiX5 hown hK hw kM_10 (hts (.fieldLink RX5 71 "BranchPredictorModel" "history" "I") (by decide +kernel)) dX5_settle_63 (fun H locs hw => ?_)
    refine lv_iload_n hx hb dX5_settle_66 rfl (lv_at hl 0 rfl) ?_
    exact k_iret hx hb hr hlocks hK hw (congrArg (fun z : Int32 × uS => some (Value.int (z.1))) (show (fX5_settle S F1 H1 J1 W1 b1) = (((nI F1) - (nI J1)) - (1 : Int32), (uI (uL (uI (uF (uF S 12 1 J1 true) 12 2 J1 b1) 10 0 7 (nI (J1 + 1))) 10 0 19 ((S.2.1 10 0 19) + ((((nI F1) - (nI J1)) - (1 : Int32)).toInt64))) 10 0 4 (nI ((2 * W1 + (if b1 = false then 0 else 1)) % 2 ^ H1)))) from by unfold fX5_settle; rw [if_neg c_1])) (congrArg (a₁ := (fX5_settle S F1 H1 J1 W1 b1)) (a₂ := (((nI F1) - (nI J1)) - (1 : Int32), (uI (uL (uI (uF (uF S 12 1 J1 true) 12 2 J1 b1) 10 0 7 (nI (J1 + 1))) 10 0 19 ((S.2.1 10 0 19) + ((((nI F1) - (nI J1)) - (1 : Int32)).toInt64))) 10 0 4 (nI ((2 * W1 + (if b1 = false then 0 else 1)) % 2 ^ H1))))) (fun z : Int32 × uS => z.2) (show (fX5_settle S F1 H1 J1 W1 b1) = (((nI F1) - (nI J1)) - (1 : Int32), (uI (uL (uI (uF (uF S 12 1 J1 true) 12 2 J1 b1) 10 0 7 (nI (J1 + 1))) 10 0 19 ((S.2.1 10 0 19) + ((((nI F1) - (nI J1)) - (1 : Int32)).toInt64))) 10 0 4 (nI ((2 * W1 + (if b1 = false then 0 else 1)) % 2 ^ H1)))) from by unfold fX5_settle; rw [if_neg c_1])) dX5_settle_67
  · skip
    refine lv_iconst (v := -1) hx hb dX5_settle_22 (by decide) ?_
    exact k_iret hx hb hr hlocks hK hw (congrArg (fun z : Int32 × uS => some (Value.int (z.1))) (show (fX5_settle S F1 H1 J1 W1 b1) = ((-1 : Int32), (uF (uF S 12 1 J1 true) 12 2 J1 b1)) from by unfold fX5_settle; rw [if_pos c_1])) (congrArg (a₁ := (fX5_settle S F1 H1 J1 W1 b1)) (a₂ := ((-1 : Int32), (uF (uF S 12 1 J1 true) 12 2 J1 b1))) (fun z : Int32 × uS => z.2) (show (fX5_settle S F1 H1 J1 W1 b1) = ((-1 : Int32), (uF (uF S 12 1 J1 true) 12 2 J1 b1)) from by unfold fX5_settle; rw [if_pos c_1])) dX5_settle_23
def fX5_change (S : uS) (I1 : Nat) (b1 : Bool) : uS :=
  (uI S 11 0 I1 (if (0 : Int32) < (if ((S.1 11 0 I1) + (if b1 = false then (-1 : Int32) else (1 : Int32))) < (3 : Int32) then ((S.1 11 0 I1) + (if b1 = false then (-1 : Int32) else (1 : Int32))) else (3 : Int32)) then (if ((S.1 11 0 I1) + (if b1 = false then (-1 : Int32) else (1 : Int32))) < (3 : Int32) then ((S.1 11 0 I1) + (if b1 = false then (-1 : Int32) else (1 : Int32))) else (3 : Int32)) else (0 : Int32)))
abbrev rmX5_change : Room := { frames := 1, cells := 0, slots := 0, locals := 16 }
set_option maxHeartbeats 4000000 in
set_option maxRecDepth 100000 in
theorem cX5c_change (l : Launch) (G : gG) (Z : va_W) (S : uS) (I1 : Nat) (h_I1b : I1 < 768) (b1 : Bool) : kMet l yX5_change wsX5_change rmX5_change G kM Z S [.ref (G.2.2 (10, 0)), .int (nI I1), .int (bI (b1))] none (fX5_change S I1 b1) := by
  refine kMet_of (cc := cX5_change) (maxL := 3) (ret := none) (by decide) rfl (Nat.le_of_ble_eq_true rfl) ?_
  intro p e s m below meth c hx hb hr hml hlocks hts hown hK hN A hZ hA H locs hw ls hl
  have hl : lv_has ls 3 [(0, .ref (G.2.2 (10, 0))), (1, .int (nI I1)), (2, .int (bI (b1)))] := hl
  have hiX5 : ∀ w ∈ wsX50, w ∈ wsX5_change := by decide +kernel
  refine lv_aload_n hx hb dX5_change_0 rfl (lv_at hl 0 rfl) ?_
  refine g_10_5 hx hb hts hiX5 hown hK hw kM_10 (hts (.fieldLink RX5 9 "BranchPredictorModel" "counters" "[I") (by decide +kernel)) dX5_change_1 ?_
  refine lv_iload_n hx hb dX5_change_4 rfl (lv_at hl 1 rfl) ?_
  refine lv_iconst (v := 0) hx hb dX5_change_5 (by decide) ?_
  refine lv_iconst (v := 3) hx hb dX5_change_6 (by decide) ?_
  refine lv_aload_n hx hb dX5_change_7 rfl (lv_at hl 0 rfl) ?_
  refine g_10_5 hx hb hts hiX5 hown hK hw kM_10 (hts (.fieldLink RX5 9 "BranchPredictorModel" "counters" "[I") (by decide +kernel)) dX5_change_8 ?_
  refine lv_iload_n hx hb dX5_change_11 rfl (lv_at hl 1 rfl) ?_
  refine ld_11_0 hx hb hK hw kM_11_0 (vp_in_nI (by first | omega | (split <;> omega)) (by decide)) dX5_change_12 ?_
  refine k_topi (z := S.1 11 0 I1) (by rw [nI_clamp (show I1 < 2 ^ 31 from by first | omega | (split <;> omega))]) ?_
  refine lv_iload_n hx hb dX5_change_13 rfl (lv_at hl 2 rfl) ?_
  refine k_join (P := fun x9 : Int32 => W p l e rmX5_change s m [.ref (G.2.2 (10, 0)), .int (nI I1), .int (bI (b1))].toArray below meth c H locs 0 0 (MQ below (kQ G kM Z A none (fX5_change S I1 b1)) [.ref (G.2.2 (10, 0)), .int (nI I1), .int (bI (b1))].toArray s 0 0 A) (F0 m 22 ls [.int (x9), .int (S.1 11 0 I1), .int ((3 : Int32)), .int ((0 : Int32)), .int (nI I1), .ref (G.2.2 (11, 0))])) (C := b1 = false) (a := (-1 : Int32)) (b := (1 : Int32)) ?_ (fun ka kb => ?_)
  rotate_left
  · refine k_if_eq (b := b1) (tgt := 21) hx hb dX5_change_14 (by decide) (fun c_1 => ?_) (fun c_1 => ?_)
    · skip
      refine lv_iconst (v := -1) hx hb dX5_change_21 (by decide) ?_
      exact ka c_1
    · skip
      refine lv_iconst (v := 1) hx hb dX5_change_17 (by decide) ?_
      refine lv_goto (tgt := 22) hx hb dX5_change_18 (by decide) ?_
      exact kb c_1
  show W p l e rmX5_change s m [.ref (G.2.2 (10, 0)), .int (nI I1), .int (bI (b1))].toArray below meth c H locs 0 0 (MQ below (kQ G kM Z A none (fX5_change S I1 b1)) [.ref (G.2.2 (10, 0)), .int (nI I1), .int (bI (b1))].toArray s 0 0 A) (F0 m 22 ls [.int (if b1 = false then (-1 : Int32) else (1 : Int32)), .int (S.1 11 0 I1), .int ((3 : Int32)), .int ((0 : Int32)), .int (nI I1), .ref (G.2.2 (11, 0))])
  refine lv_iadd hx hb dX5_change_22 ?_
  refine va_mmin hx hb (hml.trans hl.1.symm) hown (hts (.methodLink RX5 131 Lib.Math.min.name) (by decide +kernel)) (hts (.static Lib.Math.min.name) (by decide +kernel)) (hts (.initialized "java/lang/Math") (by decide +kernel)) (hts (.code Lib.Math.min.name Lib.Math.min.code 2 (some .int)) (by decide +kernel)) (Nat.le_of_ble_eq_true rfl) (Nat.le_of_ble_eq_true rfl) (Nat.zero_le _) (Nat.zero_le _) dX5_change_23 ?_
  refine va_mmax hx hb (hml.trans hl.1.symm) hown (hts (.methodLink RX5 136 Lib.Math.max.name) (by decide +kernel)) (hts (.static Lib.Math.max.name) (by decide +kernel)) (hts (.initialized "java/lang/Math") (by decide +kernel)) (hts (.code Lib.Math.max.name Lib.Math.max.code 2 (some .int)) (by decide +kernel)) (Nat.le_of_ble_eq_true rfl) (Nat.le_of_ble_eq_true rfl) (Nat.zero_le _) (Nat.zero_le _) dX5_change_26 ?_
  refine st_11_0 (x := if (0 : Int32) < (if ((S.1 11 0 I1) + (if b1 = false then (-1 : Int32) else (1 : Int32))) < (3 : Int32) then ((S.1 11 0 I1) + (if b1 = false then (-1 : Int32) else (1 : Int32))) else (3 : Int32)) then (if ((S.1 11 0 I1) + (if b1 = false then (-1 : Int32) else (1 : Int32))) < (3 : Int32) then ((S.1 11 0 I1) + (if b1 = false then (-1 : Int32) else (1 : Int32))) else (3 : Int32)) else (0 : Int32)) hx hb hK hw kM_11_0 (vp_in_nI (by first | omega | (split <;> omega)) (by decide)) dX5_change_29 (fun H locs hw => ?_)
  rw [nI_clamp (show I1 < 2 ^ 31 from by first | omega | (split <;> omega))] at hw
  exact k_vret hx hb hr hlocks hK hw rfl (by unfold fX5_change; rfl) dX5_change_30
def fX5_audit (S : uS) (T1 : Nat) (I2 : Nat) (x3 : Int32) (b1 : Bool) : uS :=
  if (S.1 11 1 I2) = (-1 : Int32) then (uI S 11 1 I2 x3)
  else if (S.1 11 1 I2) = x3 then (uI S 11 1 I2 x3)
    else (uI (uL (uL S 13 1 (2 * T1) ((S.2.1 13 1 (2 * T1)) + (1 : Int64))) 13 1 (2 * T1 + 1) ((S.2.1 13 1 (2 * T1 + 1)) + (if (fX5_says S I2) = b1 then (0 : Int64) else (1 : Int64)))) 11 1 I2 x3)
abbrev rmX5_audit : Room := { frames := 1, cells := 0, slots := 0, locals := 21 }
set_option maxHeartbeats 4000000 in
set_option maxRecDepth 100000 in
theorem cX5c_audit (l : Launch) (G : gG) (Z : va_W) (S : uS) (T1 : Nat) (h_T1b : T1 < 2) (I2 : Nat) (h_I2b : I2 < 512) (x3 : Int32) (b1 : Bool) : kMet l yX5_audit wsX5_audit rmX5_audit G kM Z S [.ref (G.2.2 (10, 0)), .int (nI T1), .int (nI I2), .int (x3), .int (bI (b1))] none (fX5_audit S T1 I2 x3 b1) := by
  refine kMet_of (cc := cX5_audit) (maxL := 5) (ret := none) (by decide) rfl (Nat.le_of_ble_eq_true rfl) ?_
  intro p e s m below meth c hx hb hr hml hlocks hts hown hK hN A hZ hA H locs hw ls hl
  have hl : lv_has ls 5 [(0, .ref (G.2.2 (10, 0))), (1, .int (nI T1)), (2, .int (nI I2)), (3, .int (x3)), (4, .int (bI (b1)))] := hl
  have hiX5 : ∀ w ∈ wsX50, w ∈ wsX5_audit := by decide +kernel
  refine lv_aload_n hx hb dX5_audit_0 rfl (lv_at hl 0 rfl) ?_
  refine g_10_6 hx hb hts hiX5 hown hK hw kM_10 (hts (.fieldLink RX5 13 "BranchPredictorModel" "latestPlaces" "[I") (by decide +kernel)) dX5_audit_1 ?_
  refine lv_iload_n hx hb dX5_audit_4 rfl (lv_at hl 2 rfl) ?_
  refine ld_11_1 hx hb hK hw kM_11_1 (vp_in_nI (by first | omega | (split <;> omega)) (by decide)) dX5_audit_5 ?_
  refine k_topi (z := S.1 11 1 I2) (by rw [nI_clamp (show I2 < 2 ^ 31 from by first | omega | (split <;> omega))]) ?_
  refine lv_iconst (v := -1) hx hb dX5_audit_6 (by decide) ?_
  refine lv_icmp_eq (tgt := 60) hx hb dX5_audit_7 (by decide) (fun c_1 => ?_) (fun c_1 => ?_)
  · skip
    refine lv_aload_n hx hb dX5_audit_60 rfl (lv_at hl 0 rfl) ?_
    refine g_10_6 hx hb hts hiX5 hown hK hw kM_10 (hts (.fieldLink RX5 13 "BranchPredictorModel" "latestPlaces" "[I") (by decide +kernel)) dX5_audit_61 ?_
    refine lv_iload_n hx hb dX5_audit_64 rfl (lv_at hl 2 rfl) ?_
    refine lv_iload_n hx hb dX5_audit_65 rfl (lv_at hl 3 rfl) ?_
    refine st_11_1 (x := x3) hx hb hK hw kM_11_1 (vp_in_nI (by first | omega | (split <;> omega)) (by decide)) dX5_audit_66 (fun H locs hw => ?_)
    rw [nI_clamp (show I2 < 2 ^ 31 from by first | omega | (split <;> omega))] at hw
    exact k_vret hx hb hr hlocks hK hw rfl (by unfold fX5_audit; rw [if_pos c_1]) dX5_audit_67
  · skip
    refine lv_aload_n hx hb dX5_audit_10 rfl (lv_at hl 0 rfl) ?_
    refine g_10_6 hx hb hts hiX5 hown hK hw kM_10 (hts (.fieldLink RX5 13 "BranchPredictorModel" "latestPlaces" "[I") (by decide +kernel)) dX5_audit_11 ?_
    refine lv_iload_n hx hb dX5_audit_14 rfl (lv_at hl 2 rfl) ?_
    refine ld_11_1 hx hb hK hw kM_11_1 (vp_in_nI (by first | omega | (split <;> omega)) (by decide)) dX5_audit_15 ?_
    refine k_topi (z := S.1 11 1 I2) (by rw [nI_clamp (show I2 < 2 ^ 31 from by first | omega | (split <;> omega))]) ?_
    refine lv_iload_n hx hb dX5_audit_16 rfl (lv_at hl 3 rfl) ?_
    refine lv_icmp_eq (tgt := 60) hx hb dX5_audit_17 (by decide) (fun c_2 => ?_) (fun c_2 => ?_)
    · skip
      refine lv_aload_n hx hb dX5_audit_60 rfl (lv_at hl 0 rfl) ?_
      refine g_10_6 hx hb hts hiX5 hown hK hw kM_10 (hts (.fieldLink RX5 13 "BranchPredictorModel" "latestPlaces" "[I") (by decide +kernel)) dX5_audit_61 ?_
      refine lv_iload_n hx hb dX5_audit_64 rfl (lv_at hl 2 rfl) ?_
      refine lv_iload_n hx hb dX5_audit_65 rfl (lv_at hl 3 rfl) ?_
      refine st_11_1 (x := x3) hx hb hK hw kM_11_1 (vp_in_nI (by first | omega | (split <;> omega)) (by decide)) dX5_audit_66 (fun H locs hw => ?_)
      rw [nI_clamp (show I2 < 2 ^ 31 from by first | omega | (split <;> omega))] at hw
      exact k_vret hx hb hr hlocks hK hw rfl (by unfold fX5_audit; rw [if_neg c_1, if_pos c_2]) dX5_audit_67
    · skip
      refine lv_aload_n hx hb dX5_audit_20 rfl (lv_at hl 0 rfl) ?_
      refine g_10_21 hx hb hts hiX5 hown hK hw kM_10 (hts (.fieldLink RX5 51 "BranchPredictorModel" "meetings" "[J") (by decide +kernel)) dX5_audit_21 ?_
      refine lv_iconst (v := 2) hx hb dX5_audit_24 (by decide) ?_
      refine lv_iload_n hx hb dX5_audit_25 rfl (lv_at hl 1 rfl) ?_
      refine lv_imul hx hb dX5_audit_26 ?_
      refine k_topi (z := nI (2 * T1)) (pk_mul 2 T1) ?_
      refine lv_dup2_11 hx hb dX5_audit_27 rfl rfl ?_
      refine ld_13_1 hx hb hK hw kM_13_1 (vp_in_nI (by first | omega | (split <;> omega)) (by decide)) dX5_audit_28 ?_
      refine k_topl (z := S.2.1 13 1 (2 * T1)) (by rw [nI_clamp (show 2 * T1 < 2 ^ 31 from by first | omega | (split <;> omega))]) ?_
      refine lv_lconst (v := 1) hx hb dX5_audit_29 (by decide) ?_
      refine lv_ladd hx hb dX5_audit_30 ?_
      refine st_13_1 (x := (S.2.1 13 1 (2 * T1)) + (1 : Int64)) hx hb hK hw kM_13_1 (vp_in_nI (by first | omega | (split <;> omega)) (by decide)) dX5_audit_31 (fun H locs hw => ?_)
      rw [nI_clamp (show 2 * T1 < 2 ^ 31 from by first | omega | (split <;> omega))] at hw
      refine lv_aload_n hx hb dX5_audit_32 rfl (lv_at hl 0 rfl) ?_
      refine g_10_21 hx hb hts hiX5 hown hK hw kM_10 (hts (.fieldLink RX5 51 "BranchPredictorModel" "meetings" "[J") (by decide +kernel)) dX5_audit_33 ?_
      refine lv_iconst (v := 2) hx hb dX5_audit_36 (by decide) ?_
      refine lv_iload_n hx hb dX5_audit_37 rfl (lv_at hl 1 rfl) ?_
      refine lv_imul hx hb dX5_audit_38 ?_
      refine k_topi (z := nI (2 * T1)) (pk_mul 2 T1) ?_
      refine lv_iconst (v := 1) hx hb dX5_audit_39 (by decide) ?_
      refine lv_iadd hx hb dX5_audit_40 ?_
      refine k_topi (z := nI (2 * T1 + 1)) (nI_add (2 * T1) 1) ?_
      refine lv_dup2_11 hx hb dX5_audit_41 rfl rfl ?_
      refine ld_13_1 hx hb hK hw kM_13_1 (vp_in_nI (by first | omega | (split <;> omega)) (by decide)) dX5_audit_42 ?_
      refine k_topl (z := (uL S 13 1 (2 * T1) ((S.2.1 13 1 (2 * T1)) + (1 : Int64))).2.1 13 1 (2 * T1 + 1)) (by rw [nI_clamp (show 2 * T1 + 1 < 2 ^ 31 from by first | omega | (split <;> omega))]) ?_
      refine k_topl (z := S.2.1 13 1 (2 * T1 + 1)) (by simp [uI, uL, uF]) ?_
      refine lv_aload_n hx hb dX5_audit_43 rfl (lv_at hl 0 rfl) ?_
      refine lv_iload_n hx hb dX5_audit_44 rfl (lv_at hl 2 rfl) ?_
      refine k_callV (C := RX5) (n := 1) (rest := [.long (S.2.1 13 1 (2 * T1 + 1)), .int (nI (2 * T1 + 1)), .ref (G.2.2 (13, 1))]) ⟨hx, hb, hml, hown, hts⟩ (cX5c_says l G Z (uL S 13 1 (2 * T1) ((S.2.1 13 1 (2 * T1)) + (1 : Int64))) I2 (by omega)) (cwV 1 hts gX5_audit_X5_says rfl rfl rfl (by decide +kernel) ⟨Nat.le_of_ble_eq_true rfl, Nat.le_of_ble_eq_true rfl⟩) (k_recv hK hw kM_10 rfl rfl) hK hN hZ hA hw (Nat.zero_le _) (Nat.zero_le _) rfl hl.1 rfl (Nat.le_of_ble_eq_true rfl) dX5_audit_45 (fun H locs hw => ?_)
      refine W.eq (g2 := F0 m 48 ls [.int (bI ((fX5_says (uL S 13 1 (2 * T1) ((S.2.1 13 1 (2 * T1)) + (1 : Int64))) I2))), .long (S.2.1 13 1 (2 * T1 + 1)), .int (nI (2 * T1 + 1)), .ref (G.2.2 (13, 1))]) rfl ?_
      refine k_topz (z := (fX5_says S I2)) (by first | rfl | simp [uI, uL, uF, fX5_says]) ?_
      refine lv_iload hx hb dX5_audit_48 (lv_at hl 4 rfl) ?_
      refine k_join (P := fun x9 : Int64 => W p l e rmX5_audit s m [.ref (G.2.2 (10, 0)), .int (nI T1), .int (nI I2), .int (x3), .int (bI (b1))].toArray below meth c H locs 0 0 (MQ below (kQ G kM Z A none (fX5_audit S T1 I2 x3 b1)) [.ref (G.2.2 (10, 0)), .int (nI T1), .int (nI I2), .int (x3), .int (bI (b1))].toArray s 0 0 A) (F0 m 58 ls [.long (x9), .long (S.2.1 13 1 (2 * T1 + 1)), .int (nI (2 * T1 + 1)), .ref (G.2.2 (13, 1))])) (C := (fX5_says S I2) = b1) (a := (0 : Int64)) (b := (1 : Int64)) ?_ (fun ka kb => ?_)
      rotate_left
      · refine k_icmp_ne (a := (fX5_says S I2)) (b := b1) (tgt := 57) hx hb dX5_audit_50 (by decide) (fun c_3 => ?_) (fun c_3 => ?_)
        · skip
          refine lv_lconst (v := 1) hx hb dX5_audit_57 (by decide) ?_
          exact kb c_3
        · skip
          refine lv_lconst (v := 0) hx hb dX5_audit_53 (by decide) ?_
          refine lv_goto (tgt := 58) hx hb dX5_audit_54 (by decide) ?_
          exact ka c_3
      show W p l e rmX5_audit s m [.ref (G.2.2 (10, 0)), .int (nI T1), .int (nI I2), .int (x3), .int (bI (b1))].toArray below meth c H locs 0 0 (MQ below (kQ G kM Z A none (fX5_audit S T1 I2 x3 b1)) [.ref (G.2.2 (10, 0)), .int (nI T1), .int (nI I2), .int (x3), .int (bI (b1))].toArray s 0 0 A) (F0 m 58 ls [.long (if (fX5_says S I2) = b1 then (0 : Int64) else (1 : Int64)), .long (S.2.1 13 1 (2 * T1 + 1)), .int (nI (2 * T1 + 1)), .ref (G.2.2 (13, 1))])
      refine lv_ladd hx hb dX5_audit_58 ?_
      refine st_13_1 (x := (S.2.1 13 1 (2 * T1 + 1)) + (if (fX5_says S I2) = b1 then (0 : Int64) else (1 : Int64))) hx hb hK hw kM_13_1 (vp_in_nI (by first | omega | (split <;> omega)) (by decide)) dX5_audit_59 (fun H locs hw => ?_)
      rw [nI_clamp (show 2 * T1 + 1 < 2 ^ 31 from by first | omega | (split <;> omega))] at hw
      refine lv_aload_n hx hb dX5_audit_60 rfl (lv_at hl 0 rfl) ?_
      refine g_10_6 hx hb hts hiX5 hown hK hw kM_10 (hts (.fieldLink RX5 13 "BranchPredictorModel" "latestPlaces" "[I") (by decide +kernel)) dX5_audit_61 ?_
      refine lv_iload_n hx hb dX5_audit_64 rfl (lv_at hl 2 rfl) ?_
      refine lv_iload_n hx hb dX5_audit_65 rfl (lv_at hl 3 rfl) ?_
      refine st_11_1 (x := x3) hx hb hK hw kM_11_1 (vp_in_nI (by first | omega | (split <;> omega)) (by decide)) dX5_audit_66 (fun H locs hw => ?_)
      rw [nI_clamp (show I2 < 2 ^ 31 from by first | omega | (split <;> omega))] at hw
      exact k_vret hx hb hr hlocks hK hw rfl (by unfold fX5_audit; rw [if_neg c_1, if_neg c_2]) dX5_audit_67
def lX5_mkA : Nat → Nat → uS → Nat
  | 0, j, S => j
  | n + 1, j, S => if (S.1 11 7 j) < (S.1 11 7 n) then (lX5_mkA n j S)
    else (lX5_mkA n n S)
def lX5_mkB : Nat → Nat → uS → Nat
  | 0, j, S => j
  | n + 1, j, S => if (S.2.2 12 3 n) = false then (lX5_mkB n n S)
    else (lX5_mkB n j S)
def fX5_makeLoop (S : uS) (x1 : Int32) : uS :=
  (uI (uI (uI (uI (uF S 12 3 (lX5_mkB 8 (lX5_mkA 8 0 S) S) true) 11 4 (lX5_mkB 8 (lX5_mkA 8 0 S) S) x1) 11 5 (lX5_mkB 8 (lX5_mkA 8 0 S) S) (0 : Int32)) 11 6 (lX5_mkB 8 (lX5_mkA 8 0 S) S) (0 : Int32)) 11 7 (lX5_mkB 8 (lX5_mkA 8 0 S) S) (0 : Int32))
abbrev rmX5_makeLoop : Room := { frames := 0, cells := 0, slots := 0, locals := 0 }
set_option maxHeartbeats 4000000 in
set_option maxRecDepth 100000 in
theorem cX5c_makeLoop (l : Launch) (G : gG) (Z : va_W) (S : uS) (x1 : Int32) : kMet l yX5_makeLoop wsX5_makeLoop rmX5_makeLoop G kM Z S [.ref (G.2.2 (10, 0)), .int (x1)] none (fX5_makeLoop S x1) := by
  refine kMet_of (cc := cX5_makeLoop) (maxL := 4) (ret := none) (by decide) rfl (Nat.le_of_ble_eq_true rfl) ?_
  intro p e s m below meth c hx hb hr hml hlocks hts hown hK hN A hZ hA H locs hw ls hl
  have hl : lv_has ls 4 [(0, .ref (G.2.2 (10, 0))), (1, .int (x1))] := hl
  have hiX5 : ∀ w ∈ wsX50, w ∈ wsX5_makeLoop := by decide +kernel
  refine lv_iconst (v := 0) hx hb dX5_makeLoop_0 (by decide) ?_
  refine lv_istore_n (lv' := [(2, .int ((0 : Int32))), (0, .ref (G.2.2 (10, 0))), (1, .int (x1))]) hx hb dX5_makeLoop_1 rfl hl (by decide) rfl (fun ls hl => ?_)
  refine lv_bipush (v := 7) hx hb dX5_makeLoop_2 (by decide) ?_
  refine lv_istore_n (lv' := [(3, .int ((7 : Int32))), (2, .int ((0 : Int32))), (0, .ref (G.2.2 (10, 0))), (1, .int (x1))]) hx hb dX5_makeLoop_4 rfl hl (by decide) rfl (fun ls hl => ?_)
  have hloop_lX5_mkA : ∀ (n : Nat) (j : Nat) (H : Heap) (locs : List Loc) (ls : Array Slot), n ≤ 8 → j < 8 → kS G kM S Z A s.heap H locs → lv_has ls 4 [(0, .ref (G.2.2 (10, 0))), (1, .int (x1)), (2, .int (nI j)), (3, .int (nI n + (-1 : Int32)))] → (∀ (H : Heap) (locs : List Loc) (ls : Array Slot), (lX5_mkA n j S) < 8 → kS G kM S Z A s.heap H locs → lv_has ls 4 [(0, .ref (G.2.2 (10, 0))), (1, .int (x1)), (2, .int (nI (lX5_mkA n j S))), (3, .int (nI 0 + (-1 : Int32)))] → W p l e rmX5_makeLoop s m [.ref (G.2.2 (10, 0)), .int (x1)].toArray below meth c H locs 0 0 (MQ below (kQ G kM Z A none (fX5_makeLoop S x1)) [.ref (G.2.2 (10, 0)), .int (x1)].toArray s 0 0 A) (F0 m 32 ls [])) → W p l e rmX5_makeLoop s m [.ref (G.2.2 (10, 0)), .int (x1)].toArray below meth c H locs 0 0 (MQ below (kQ G kM Z A none (fX5_makeLoop S x1)) [.ref (G.2.2 (10, 0)), .int (x1)].toArray s 0 0 A) (F0 m 5 ls []) := by
    intro n
    induction n with
    | zero =>
      intro j H locs ls hin h_j hw hl kx
      have z_1 : (nI 0 + (-1 : Int32)) < (0 : Int32) := by decide
      refine lv_iload_n hx hb dX5_makeLoop_5 rfl (lv_at hl 3 rfl) ?_
      refine lv_if_lt (x := nI 0 + (-1 : Int32)) (tgt := 32) hx hb dX5_makeLoop_6 (by decide) (fun _ => ?_) (fun h9 => absurd z_1 h9)
      exact kx H locs ls h_j hw (lv_sub hl [0, 1, 2, 3] rfl)
    | succ n ih =>
      intro j H locs ls hin h_j hw hl kx
      have hi : n < 8 := by omega
      rw [pk_m1] at hl
      have z_2 : ¬ (nI n) < (0 : Int32) := nI_pos (by omega)
      refine lv_iload_n hx hb dX5_makeLoop_5 rfl (lv_at hl 3 rfl) ?_
      refine lv_if_lt (x := nI n) (tgt := 32) hx hb dX5_makeLoop_6 (by decide) (fun h9 => absurd h9 z_2) (fun _ => ?_)
      refine lv_aload_n hx hb dX5_makeLoop_9 rfl (lv_at hl 0 rfl) ?_
      refine g_10_17 hx hb hts hiX5 hown hK hw kM_10 (hts (.fieldLink RX5 44 "BranchPredictorModel" "trusts" "[I") (by decide +kernel)) dX5_makeLoop_10 ?_
      refine lv_iload_n hx hb dX5_makeLoop_13 rfl (lv_at hl 3 rfl) ?_
      refine ld_11_7 hx hb hK hw kM_11_7 (vp_in_nI (by first | omega | (split <;> omega)) (by decide)) dX5_makeLoop_14 ?_
      refine k_topi (z := S.1 11 7 n) (by rw [nI_clamp (show n < 2 ^ 31 from by first | omega | (split <;> omega))]) ?_
      refine lv_aload_n hx hb dX5_makeLoop_15 rfl (lv_at hl 0 rfl) ?_
      refine g_10_17 hx hb hts hiX5 hown hK hw kM_10 (hts (.fieldLink RX5 44 "BranchPredictorModel" "trusts" "[I") (by decide +kernel)) dX5_makeLoop_16 ?_
      refine lv_iload_n hx hb dX5_makeLoop_19 rfl (lv_at hl 2 rfl) ?_
      refine ld_11_7 hx hb hK hw kM_11_7 (vp_in_nI (by first | omega | (split <;> omega)) (by decide)) dX5_makeLoop_20 ?_
      refine k_topi (z := S.1 11 7 j) (by rw [nI_clamp (show j < 2 ^ 31 from by first | omega | (split <;> omega))]) ?_
      refine lv_icmp_gt (tgt := 26) hx hb dX5_makeLoop_21 (by decide) (fun c_3 => ?_) (fun c_3 => ?_)
      · skip
        refine lv_iinc (v := nI n + (-1 : Int32)) (lv' := [(3, .int (nI n + (-1 : Int32))), (0, .ref (G.2.2 (10, 0))), (1, .int (x1)), (2, .int (nI j))]) hx hb dX5_makeLoop_26 hl (k := 3) rfl rfl (by decide) rfl (fun ls hl => ?_)
        refine lv_goto (tgt := 5) hx hb dX5_makeLoop_29 (by decide) ?_
        exact ih j H locs ls (by omega) (by omega) hw (lv_sub hl [1, 2, 3, 0] rfl) (by rw [(show (lX5_mkA (n + 1) j S) = (lX5_mkA n j S) from by rw [lX5_mkA, if_pos c_3])] at kx; exact kx)
      · skip
        refine lv_iload_n hx hb dX5_makeLoop_24 rfl (lv_at hl 3 rfl) ?_
        refine lv_istore_n (lv' := [(2, .int (nI n)), (0, .ref (G.2.2 (10, 0))), (1, .int (x1)), (3, .int (nI n))]) hx hb dX5_makeLoop_25 rfl hl (by decide) rfl (fun ls hl => ?_)
        refine lv_iinc (v := nI n + (-1 : Int32)) (lv' := [(3, .int (nI n + (-1 : Int32))), (2, .int (nI n)), (0, .ref (G.2.2 (10, 0))), (1, .int (x1))]) hx hb dX5_makeLoop_26 hl (k := 3) rfl rfl (by decide) rfl (fun ls hl => ?_)
        refine lv_goto (tgt := 5) hx hb dX5_makeLoop_29 (by decide) ?_
        exact ih n H locs ls (by omega) (by omega) hw (lv_sub hl [2, 3, 1, 0] rfl) (by rw [(show (lX5_mkA (n + 1) j S) = (lX5_mkA n n S) from by rw [lX5_mkA, if_neg c_3])] at kx; exact kx)
  rw [show (7 : Int32) = nI 8 + (-1 : Int32) from by decide] at hl
  refine hloop_lX5_mkA 8 0 H locs ls (by omega) (by omega) hw (lv_sub hl [2, 3, 1, 0] rfl) (fun H locs ls hb_lX5_mkA hw hl => ?_)
  refine lv_bipush (v := 7) hx hb dX5_makeLoop_32 (by decide) ?_
  refine lv_istore_n (lv' := [(3, .int ((7 : Int32))), (0, .ref (G.2.2 (10, 0))), (1, .int (x1)), (2, .int (nI (lX5_mkA 8 0 S)))]) hx hb dX5_makeLoop_34 rfl hl (by decide) rfl (fun ls hl => ?_)
  have hloop_lX5_mkB : ∀ (n : Nat) (j : Nat) (H : Heap) (locs : List Loc) (ls : Array Slot), n ≤ 8 → j < 8 → kS G kM S Z A s.heap H locs → lv_has ls 4 [(0, .ref (G.2.2 (10, 0))), (1, .int (x1)), (2, .int (nI j)), (3, .int (nI n + (-1 : Int32)))] → (∀ (H : Heap) (locs : List Loc) (ls : Array Slot), (lX5_mkB n j S) < 8 → kS G kM S Z A s.heap H locs → lv_has ls 4 [(0, .ref (G.2.2 (10, 0))), (1, .int (x1)), (2, .int (nI (lX5_mkB n j S))), (3, .int (nI 0 + (-1 : Int32)))] → W p l e rmX5_makeLoop s m [.ref (G.2.2 (10, 0)), .int (x1)].toArray below meth c H locs 0 0 (MQ below (kQ G kM Z A none (fX5_makeLoop S x1)) [.ref (G.2.2 (10, 0)), .int (x1)].toArray s 0 0 A) (F0 m 56 ls [])) → W p l e rmX5_makeLoop s m [.ref (G.2.2 (10, 0)), .int (x1)].toArray below meth c H locs 0 0 (MQ below (kQ G kM Z A none (fX5_makeLoop S x1)) [.ref (G.2.2 (10, 0)), .int (x1)].toArray s 0 0 A) (F0 m 35 ls []) := by
    intro n
    induction n with
    | zero =>
      intro j H locs ls hin h_j hw hl kx
      have z_4 : (nI 0 + (-1 : Int32)) < (0 : Int32) := by decide
      refine lv_iload_n hx hb dX5_makeLoop_35 rfl (lv_at hl 3 rfl) ?_
      refine lv_if_lt (x := nI 0 + (-1 : Int32)) (tgt := 56) hx hb dX5_makeLoop_36 (by decide) (fun _ => ?_) (fun h9 => absurd z_4 h9)
      exact kx H locs ls h_j hw (lv_sub hl [0, 1, 2, 3] rfl)
    | succ n ih =>
      intro j H locs ls hin h_j hw hl kx
      have hi : n < 8 := by omega
      rw [pk_m1] at hl
      have z_5 : ¬ (nI n) < (0 : Int32) := nI_pos (by omega)
      refine lv_iload_n hx hb dX5_makeLoop_35 rfl (lv_at hl 3 rfl) ?_
      refine lv_if_lt (x := nI n) (tgt := 56) hx hb dX5_makeLoop_36 (by decide) (fun h9 => absurd h9 z_5) (fun _ => ?_)
      refine lv_aload_n hx hb dX5_makeLoop_39 rfl (lv_at hl 0 rfl) ?_
      refine g_10_13 hx hb hts hiX5 hown hK hw kM_10 (hts (.fieldLink RX5 32 "BranchPredictorModel" "isLoop" "[Z") (by decide +kernel)) dX5_makeLoop_40 ?_
      refine lv_iload_n hx hb dX5_makeLoop_43 rfl (lv_at hl 3 rfl) ?_
      refine ld_12_3 hx hb hK hw kM_12_3 (vp_in_nI (by first | omega | (split <;> omega)) (by decide)) dX5_makeLoop_44 ?_
      refine k_topz (z := S.2.2 12 3 n) (by rw [nI_clamp (show n < 2 ^ 31 from by first | omega | (split <;> omega))]) ?_
      refine k_if_ne (b := S.2.2 12 3 n) (tgt := 50) hx hb dX5_makeLoop_45 (by decide) (fun c_6 => ?_) (fun c_6 => ?_)
      · skip
        refine lv_iinc (v := nI n + (-1 : Int32)) (lv' := [(3, .int (nI n + (-1 : Int32))), (0, .ref (G.2.2 (10, 0))), (1, .int (x1)), (2, .int (nI j))]) hx hb dX5_makeLoop_50 hl (k := 3) rfl rfl (by decide) rfl (fun ls hl => ?_)
        refine lv_goto (tgt := 35) hx hb dX5_makeLoop_53 (by decide) ?_
        exact ih j H locs ls (by omega) (by omega) hw (lv_sub hl [1, 2, 3, 0] rfl) (by rw [(show (lX5_mkB (n + 1) j S) = (lX5_mkB n j S) from by rw [lX5_mkB, if_neg c_6])] at kx; exact kx)
      · skip
        refine lv_iload_n hx hb dX5_makeLoop_48 rfl (lv_at hl 3 rfl) ?_
        refine lv_istore_n (lv' := [(2, .int (nI n)), (0, .ref (G.2.2 (10, 0))), (1, .int (x1)), (3, .int (nI n))]) hx hb dX5_makeLoop_49 rfl hl (by decide) rfl (fun ls hl => ?_)
        refine lv_iinc (v := nI n + (-1 : Int32)) (lv' := [(3, .int (nI n + (-1 : Int32))), (2, .int (nI n)), (0, .ref (G.2.2 (10, 0))), (1, .int (x1))]) hx hb dX5_makeLoop_50 hl (k := 3) rfl rfl (by decide) rfl (fun ls hl => ?_)
        refine lv_goto (tgt := 35) hx hb dX5_makeLoop_53 (by decide) ?_
        exact ih n H locs ls (by omega) (by omega) hw (lv_sub hl [2, 3, 1, 0] rfl) (by rw [(show (lX5_mkB (n + 1) j S) = (lX5_mkB n n S) from by rw [lX5_mkB, if_pos c_6])] at kx; exact kx)
  rw [show (7 : Int32) = nI 8 + (-1 : Int32) from by decide] at hl
  refine hloop_lX5_mkB 8 (lX5_mkA 8 0 S) H locs ls (by omega) (by omega) hw (lv_sub hl [1, 2, 3, 0] rfl) (fun H locs ls hb_lX5_mkB hw hl => ?_)
  refine lv_aload_n hx hb dX5_makeLoop_56 rfl (lv_at hl 0 rfl) ?_
  refine g_10_13 hx hb hts hiX5 hown hK hw kM_10 (hts (.fieldLink RX5 32 "BranchPredictorModel" "isLoop" "[Z") (by decide +kernel)) dX5_makeLoop_57 ?_
  refine lv_iload_n hx hb dX5_makeLoop_60 rfl (lv_at hl 2 rfl) ?_
  refine lv_iconst (v := 1) hx hb dX5_makeLoop_61 (by decide) ?_
  refine st_12_3 (x := true) hx hb hK hw kM_12_3 (vp_in_nI (by first | omega | (split <;> omega)) (by decide)) dX5_makeLoop_62 (fun H locs hw => ?_)
  rw [nI_clamp (show lX5_mkB 8 (lX5_mkA 8 0 S) S < 2 ^ 31 from by first | omega | (split <;> omega))] at hw
  refine lv_aload_n hx hb dX5_makeLoop_63 rfl (lv_at hl 0 rfl) ?_
  refine g_10_14 hx hb hts hiX5 hown hK hw kM_10 (hts (.fieldLink RX5 35 "BranchPredictorModel" "loopPlaces" "[I") (by decide +kernel)) dX5_makeLoop_64 ?_
  refine lv_iload_n hx hb dX5_makeLoop_67 rfl (lv_at hl 2 rfl) ?_
  refine lv_iload_n hx hb dX5_makeLoop_68 rfl (lv_at hl 1 rfl) ?_
  refine st_11_4 (x := x1) hx hb hK hw kM_11_4 (vp_in_nI (by first | omega | (split <;> omega)) (by decide)) dX5_makeLoop_69 (fun H locs hw => ?_)
  rw [nI_clamp (show lX5_mkB 8 (lX5_mkA 8 0 S) S < 2 ^ 31 from by first | omega | (split <;> omega))] at hw
  refine lv_aload_n hx hb dX5_makeLoop_70 rfl (lv_at hl 0 rfl) ?_
  refine g_10_15 hx hb hts hiX5 hown hK hw kM_10 (hts (.fieldLink RX5 38 "BranchPredictorModel" "loopCounts" "[I") (by decide +kernel)) dX5_makeLoop_71 ?_
  refine lv_iload_n hx hb dX5_makeLoop_74 rfl (lv_at hl 2 rfl) ?_
  refine lv_iconst (v := 0) hx hb dX5_makeLoop_75 (by decide) ?_
  refine st_11_5 (x := (0 : Int32)) hx hb hK hw kM_11_5 (vp_in_nI (by first | omega | (split <;> omega)) (by decide)) dX5_makeLoop_76 (fun H locs hw => ?_)
  rw [nI_clamp (show lX5_mkB 8 (lX5_mkA 8 0 S) S < 2 ^ 31 from by first | omega | (split <;> omega))] at hw
  refine lv_aload_n hx hb dX5_makeLoop_77 rfl (lv_at hl 0 rfl) ?_
  refine g_10_16 hx hb hts hiX5 hown hK hw kM_10 (hts (.fieldLink RX5 41 "BranchPredictorModel" "trips" "[I") (by decide +kernel)) dX5_makeLoop_78 ?_
  refine lv_iload_n hx hb dX5_makeLoop_81 rfl (lv_at hl 2 rfl) ?_
  refine lv_iconst (v := 0) hx hb dX5_makeLoop_82 (by decide) ?_
  refine st_11_6 (x := (0 : Int32)) hx hb hK hw kM_11_6 (vp_in_nI (by first | omega | (split <;> omega)) (by decide)) dX5_makeLoop_83 (fun H locs hw => ?_)
  rw [nI_clamp (show lX5_mkB 8 (lX5_mkA 8 0 S) S < 2 ^ 31 from by first | omega | (split <;> omega))] at hw
  refine lv_aload_n hx hb dX5_makeLoop_84 rfl (lv_at hl 0 rfl) ?_
  refine g_10_17 hx hb hts hiX5 hown hK hw kM_10 (hts (.fieldLink RX5 44 "BranchPredictorModel" "trusts" "[I") (by decide +kernel)) dX5_makeLoop_85 ?_
  refine lv_iload_n hx hb dX5_makeLoop_88 rfl (lv_at hl 2 rfl) ?_
  refine lv_iconst (v := 0) hx hb dX5_makeLoop_89 (by decide) ?_
  refine st_11_7 (x := (0 : Int32)) hx hb hK hw kM_11_7 (vp_in_nI (by first | omega | (split <;> omega)) (by decide)) dX5_makeLoop_90 (fun H locs hw => ?_)
  rw [nI_clamp (show lX5_mkB 8 (lX5_mkA 8 0 S) S < 2 ^ 31 from by first | omega | (split <;> omega))] at hw
  exact k_vret hx hb hr hlocks hK hw rfl (by unfold fX5_makeLoop; rfl) dX5_makeLoop_91
def fX5_learnLoop (S : uS) (x1 : Int32) (b1 : Bool) (b2 : Bool) : uS :=
  if (lX5_loopOf x1 8 0 S) = (-1 : Int32) then if b1 = false then if b2 = false then S
      else (fX5_makeLoop S x1)
    else S
  else if b1 = false then if (S.1 11 6 ((lX5_loopOf x1 8 0 S).toNatClampNeg)) = (0 : Int32) then (uI (uI (uI S 11 6 ((lX5_loopOf x1 8 0 S).toNatClampNeg) (S.1 11 5 ((lX5_loopOf x1 8 0 S).toNatClampNeg))) 11 7 ((lX5_loopOf x1 8 0 S).toNatClampNeg) (0 : Int32)) 11 5 ((lX5_loopOf x1 8 0 S).toNatClampNeg) (0 : Int32))
      else if (S.1 11 6 ((lX5_loopOf x1 8 0 S).toNatClampNeg)) = (S.1 11 5 ((lX5_loopOf x1 8 0 S).toNatClampNeg)) then (uI (uI S 11 7 ((lX5_loopOf x1 8 0 S).toNatClampNeg) (if (3 : Int32) < ((S.1 11 7 ((lX5_loopOf x1 8 0 S).toNatClampNeg)) + (1 : Int32)) then (3 : Int32) else ((S.1 11 7 ((lX5_loopOf x1 8 0 S).toNatClampNeg)) + (1 : Int32)))) 11 5 ((lX5_loopOf x1 8 0 S).toNatClampNeg) (0 : Int32))
        else (uI (uI (uI S 11 6 ((lX5_loopOf x1 8 0 S).toNatClampNeg) (S.1 11 5 ((lX5_loopOf x1 8 0 S).toNatClampNeg))) 11 7 ((lX5_loopOf x1 8 0 S).toNatClampNeg) (0 : Int32)) 11 5 ((lX5_loopOf x1 8 0 S).toNatClampNeg) (0 : Int32))
    else if ((S.1 11 5 ((lX5_loopOf x1 8 0 S).toNatClampNeg)) + (1 : Int32)) ≤ (1000 : Int32) then (uI S 11 5 ((lX5_loopOf x1 8 0 S).toNatClampNeg) ((S.1 11 5 ((lX5_loopOf x1 8 0 S).toNatClampNeg)) + (1 : Int32)))
      else (uF (uI S 11 5 ((lX5_loopOf x1 8 0 S).toNatClampNeg) ((S.1 11 5 ((lX5_loopOf x1 8 0 S).toNatClampNeg)) + (1 : Int32))) 12 3 ((lX5_loopOf x1 8 0 S).toNatClampNeg) false)
abbrev rmX5_learnLoop : Room := { frames := 1, cells := 0, slots := 0, locals := 23 }
set_option maxHeartbeats 4000000 in
set_option maxRecDepth 100000 in
theorem cX5c_learnLoop (l : Launch) (G : gG) (Z : va_W) (S : uS) (x1 : Int32) (b1 : Bool) (b2 : Bool) : kMet l yX5_learnLoop wsX5_learnLoop rmX5_learnLoop G kM Z S [.ref (G.2.2 (10, 0)), .int (x1), .int (bI (b1)), .int (bI (b2))] none (fX5_learnLoop S x1 b1 b2) := by
  refine kMet_of (cc := cX5_learnLoop) (maxL := 5) (ret := none) (by decide) rfl (Nat.le_of_ble_eq_true rfl) ?_
  intro p e s m below meth c hx hb hr hml hlocks hts hown hK hN A hZ hA H locs hw ls hl
  have hl : lv_has ls 5 [(0, .ref (G.2.2 (10, 0))), (1, .int (x1)), (2, .int (bI (b1))), (3, .int (bI (b2)))] := hl
  have hiX5 : ∀ w ∈ wsX50, w ∈ wsX5_learnLoop := by decide +kernel
  refine lv_aload_n hx hb dX5_learnLoop_0 rfl (lv_at hl 0 rfl) ?_
  refine lv_iload_n hx hb dX5_learnLoop_1 rfl (lv_at hl 1 rfl) ?_
  refine k_callV (C := RX5) (n := 1) (rest := []) ⟨hx, hb, hml, hown, hts⟩ (cX5c_loopOf l G Z S x1) (cwV 1 hts gX5_learnLoop_X5_loopOf rfl rfl rfl (by decide +kernel) ⟨Nat.le_of_ble_eq_true rfl, Nat.le_of_ble_eq_true rfl⟩) (k_recv hK hw kM_10 rfl rfl) hK hN hZ hA hw (Nat.zero_le _) (Nat.zero_le _) rfl hl.1 rfl (Nat.le_of_ble_eq_true rfl) dX5_learnLoop_2 (fun H locs hw => ?_)
  refine W.eq (g2 := F0 m 5 ls [.int ((lX5_loopOf x1 8 0 S))]) rfl ?_
  refine lv_istore (lv' := [(4, .int ((lX5_loopOf x1 8 0 S))), (0, .ref (G.2.2 (10, 0))), (1, .int (x1)), (2, .int (bI (b1))), (3, .int (bI (b2)))]) hx hb dX5_learnLoop_5 hl (by decide) rfl (fun ls hl => ?_)
  refine lv_iload hx hb dX5_learnLoop_7 (lv_at hl 0 rfl) ?_
  refine lv_iconst (v := -1) hx hb dX5_learnLoop_9 (by decide) ?_
  refine lv_icmp_ne (tgt := 27) hx hb dX5_learnLoop_10 (by decide) (fun c_1 => ?_) (fun c_1 => ?_)
  · skip
    refine lv_iload_n hx hb dX5_learnLoop_27 rfl (lv_at hl 3 rfl) ?_
    refine k_if_eq (b := b1) (tgt := 64) hx hb dX5_learnLoop_28 (by decide) (fun c_2 => ?_) (fun c_2 => ?_)
    · skip
      refine lv_aload_n hx hb dX5_learnLoop_64 rfl (lv_at hl 1 rfl) ?_
      refine g_10_16 hx hb hts hiX5 hown hK hw kM_10 (hts (.fieldLink RX5 41 "BranchPredictorModel" "trips" "[I") (by decide +kernel)) dX5_learnLoop_65 ?_
      refine lv_iload hx hb dX5_learnLoop_68 (lv_at hl 0 rfl) ?_
      refine ld_11_6 hx hb hK hw kM_11_6 (lO_in c_1) dX5_learnLoop_70 ?_
      refine lv_if_eq (x := S.1 11 6 ((lX5_loopOf x1 8 0 S).toNatClampNeg)) (tgt := 114) hx hb dX5_learnLoop_71 (by decide) (fun c_3 => ?_) (fun c_3 => ?_)
      · skip
        refine lv_aload_n hx hb dX5_learnLoop_114 rfl (lv_at hl 1 rfl) ?_
        refine g_10_16 hx hb hts hiX5 hown hK hw kM_10 (hts (.fieldLink RX5 41 "BranchPredictorModel" "trips" "[I") (by decide +kernel)) dX5_learnLoop_115 ?_
        refine lv_iload hx hb dX5_learnLoop_118 (lv_at hl 0 rfl) ?_
        refine lv_aload_n hx hb dX5_learnLoop_120 rfl (lv_at hl 1 rfl) ?_
        refine g_10_15 hx hb hts hiX5 hown hK hw kM_10 (hts (.fieldLink RX5 38 "BranchPredictorModel" "loopCounts" "[I") (by decide +kernel)) dX5_learnLoop_121 ?_
        refine lv_iload hx hb dX5_learnLoop_124 (lv_at hl 0 rfl) ?_
        refine ld_11_5 hx hb hK hw kM_11_5 (lO_in c_1) dX5_learnLoop_126 ?_
        refine st_11_6 (x := S.1 11 5 ((lX5_loopOf x1 8 0 S).toNatClampNeg)) hx hb hK hw kM_11_6 (lO_in c_1) dX5_learnLoop_127 (fun H locs hw => ?_)
        refine lv_aload_n hx hb dX5_learnLoop_128 rfl (lv_at hl 1 rfl) ?_
        refine g_10_17 hx hb hts hiX5 hown hK hw kM_10 (hts (.fieldLink RX5 44 "BranchPredictorModel" "trusts" "[I") (by decide +kernel)) dX5_learnLoop_129 ?_
        refine lv_iload hx hb dX5_learnLoop_132 (lv_at hl 0 rfl) ?_
        refine lv_iconst (v := 0) hx hb dX5_learnLoop_134 (by decide) ?_
        refine st_11_7 (x := (0 : Int32)) hx hb hK hw kM_11_7 (lO_in c_1) dX5_learnLoop_135 (fun H locs hw => ?_)
        refine lv_aload_n hx hb dX5_learnLoop_136 rfl (lv_at hl 1 rfl) ?_
        refine g_10_15 hx hb hts hiX5 hown hK hw kM_10 (hts (.fieldLink RX5 38 "BranchPredictorModel" "loopCounts" "[I") (by decide +kernel)) dX5_learnLoop_137 ?_
        refine lv_iload hx hb dX5_learnLoop_140 (lv_at hl 0 rfl) ?_
        refine lv_iconst (v := 0) hx hb dX5_learnLoop_142 (by decide) ?_
        refine st_11_5 (x := (0 : Int32)) hx hb hK hw kM_11_5 (lO_in c_1) dX5_learnLoop_143 (fun H locs hw => ?_)
        exact k_vret hx hb hr hlocks hK hw rfl (by unfold fX5_learnLoop; rw [if_neg c_1, if_pos c_2, if_pos c_3]) dX5_learnLoop_144
      · skip
        refine lv_aload_n hx hb dX5_learnLoop_74 rfl (lv_at hl 1 rfl) ?_
        refine g_10_16 hx hb hts hiX5 hown hK hw kM_10 (hts (.fieldLink RX5 41 "BranchPredictorModel" "trips" "[I") (by decide +kernel)) dX5_learnLoop_75 ?_
        refine lv_iload hx hb dX5_learnLoop_78 (lv_at hl 0 rfl) ?_
        refine ld_11_6 hx hb hK hw kM_11_6 (lO_in c_1) dX5_learnLoop_80 ?_
        refine lv_aload_n hx hb dX5_learnLoop_81 rfl (lv_at hl 1 rfl) ?_
        refine g_10_15 hx hb hts hiX5 hown hK hw kM_10 (hts (.fieldLink RX5 38 "BranchPredictorModel" "loopCounts" "[I") (by decide +kernel)) dX5_learnLoop_82 ?_
        refine lv_iload hx hb dX5_learnLoop_85 (lv_at hl 0 rfl) ?_
        refine ld_11_5 hx hb hK hw kM_11_5 (lO_in c_1) dX5_learnLoop_87 ?_
        refine lv_icmp_ne (tgt := 114) hx hb dX5_learnLoop_88 (by decide) (fun c_4 => ?_) (fun c_4 => ?_)
        · skip
          refine lv_aload_n hx hb dX5_learnLoop_114 rfl (lv_at hl 1 rfl) ?_
          refine g_10_16 hx hb hts hiX5 hown hK hw kM_10 (hts (.fieldLink RX5 41 "BranchPredictorModel" "trips" "[I") (by decide +kernel)) dX5_learnLoop_115 ?_
          refine lv_iload hx hb dX5_learnLoop_118 (lv_at hl 0 rfl) ?_
          refine lv_aload_n hx hb dX5_learnLoop_120 rfl (lv_at hl 1 rfl) ?_
          refine g_10_15 hx hb hts hiX5 hown hK hw kM_10 (hts (.fieldLink RX5 38 "BranchPredictorModel" "loopCounts" "[I") (by decide +kernel)) dX5_learnLoop_121 ?_
          refine lv_iload hx hb dX5_learnLoop_124 (lv_at hl 0 rfl) ?_
          refine ld_11_5 hx hb hK hw kM_11_5 (lO_in c_1) dX5_learnLoop_126 ?_
          refine st_11_6 (x := S.1 11 5 ((lX5_loopOf x1 8 0 S).toNatClampNeg)) hx hb hK hw kM_11_6 (lO_in c_1) dX5_learnLoop_127 (fun H locs hw => ?_)
          refine lv_aload_n hx hb dX5_learnLoop_128 rfl (lv_at hl 1 rfl) ?_
          refine g_10_17 hx hb hts hiX5 hown hK hw kM_10 (hts (.fieldLink RX5 44 "BranchPredictorModel" "trusts" "[I") (by decide +kernel)) dX5_learnLoop_129 ?_
          refine lv_iload hx hb dX5_learnLoop_132 (lv_at hl 0 rfl) ?_
          refine lv_iconst (v := 0) hx hb dX5_learnLoop_134 (by decide) ?_
          refine st_11_7 (x := (0 : Int32)) hx hb hK hw kM_11_7 (lO_in c_1) dX5_learnLoop_135 (fun H locs hw => ?_)
          refine lv_aload_n hx hb dX5_learnLoop_136 rfl (lv_at hl 1 rfl) ?_
          refine g_10_15 hx hb hts hiX5 hown hK hw kM_10 (hts (.fieldLink RX5 38 "BranchPredictorModel" "loopCounts" "[I") (by decide +kernel)) dX5_learnLoop_137 ?_
          refine lv_iload hx hb dX5_learnLoop_140 (lv_at hl 0 rfl) ?_
          refine lv_iconst (v := 0) hx hb dX5_learnLoop_142 (by decide) ?_
          refine st_11_5 (x := (0 : Int32)) hx hb hK hw kM_11_5 (lO_in c_1) dX5_learnLoop_143 (fun H locs hw => ?_)
          exact k_vret hx hb hr hlocks hK hw rfl (by unfold fX5_learnLoop; rw [if_neg c_1, if_pos c_2, if_neg c_3, if_neg c_4]) dX5_learnLoop_144
        · skip
          refine lv_aload_n hx hb dX5_learnLoop_91 rfl (lv_at hl 1 rfl) ?_
          refine g_10_17 hx hb hts hiX5 hown hK hw kM_10 (hts (.fieldLink RX5 44 "BranchPredictorModel" "trusts" "[I") (by decide +kernel)) dX5_learnLoop_92 ?_
          refine lv_iload hx hb dX5_learnLoop_95 (lv_at hl 0 rfl) ?_
          refine lv_aload_n hx hb dX5_learnLoop_97 rfl (lv_at hl 1 rfl) ?_
          refine g_10_17 hx hb hts hiX5 hown hK hw kM_10 (hts (.fieldLink RX5 44 "BranchPredictorModel" "trusts" "[I") (by decide +kernel)) dX5_learnLoop_98 ?_
          refine lv_iload hx hb dX5_learnLoop_101 (lv_at hl 0 rfl) ?_
          refine ld_11_7 hx hb hK hw kM_11_7 (lO_in c_1) dX5_learnLoop_103 ?_
          refine lv_iconst (v := 1) hx hb dX5_learnLoop_104 (by decide) ?_
          refine lv_iadd hx hb dX5_learnLoop_105 ?_
          refine lv_iconst (v := 3) hx hb dX5_learnLoop_106 (by decide) ?_
          refine va_mmin hx hb (hml.trans hl.1.symm) hown (hts (.methodLink RX5 131 Lib.Math.min.name) (by decide +kernel)) (hts (.static Lib.Math.min.name) (by decide +kernel)) (hts (.initialized "java/lang/Math") (by decide +kernel)) (hts (.code Lib.Math.min.name Lib.Math.min.code 2 (some .int)) (by decide +kernel)) (Nat.le_of_ble_eq_true rfl) (Nat.le_of_ble_eq_true rfl) (Nat.zero_le _) (Nat.zero_le _) dX5_learnLoop_107 ?_
          refine st_11_7 (x := if (3 : Int32) < ((S.1 11 7 ((lX5_loopOf x1 8 0 S).toNatClampNeg)) + (1 : Int32)) then (3 : Int32) else ((S.1 11 7 ((lX5_loopOf x1 8 0 S).toNatClampNeg)) + (1 : Int32))) hx hb hK hw kM_11_7 (lO_in c_1) dX5_learnLoop_110 (fun H locs hw => ?_)
          refine lv_goto (tgt := 136) hx hb dX5_learnLoop_111 (by decide) ?_
          refine lv_aload_n hx hb dX5_learnLoop_136 rfl (lv_at hl 1 rfl) ?_
          refine g_10_15 hx hb hts hiX5 hown hK hw kM_10 (hts (.fieldLink RX5 38 "BranchPredictorModel" "loopCounts" "[I") (by decide +kernel)) dX5_learnLoop_137 ?_
          refine lv_iload hx hb dX5_learnLoop_140 (lv_at hl 0 rfl) ?_
          refine lv_iconst (v := 0) hx hb dX5_learnLoop_142 (by decide) ?_
          refine st_11_5 (x := (0 : Int32)) hx hb hK hw kM_11_5 (lO_in c_1) dX5_learnLoop_143 (fun H locs hw => ?_)
          exact k_vret hx hb hr hlocks hK hw rfl (by unfold fX5_learnLoop; rw [if_neg c_1, if_pos c_2, if_neg c_3, if_pos c_4]) dX5_learnLoop_144
    · skip
      refine lv_aload_n hx hb dX5_learnLoop_31 rfl (lv_at hl 1 rfl) ?_
      refine g_10_15 hx hb hts hiX5 hown hK hw kM_10 (hts (.fieldLink RX5 38 "BranchPredictorModel" "loopCounts" "[I") (by decide +kernel)) dX5_learnLoop_32 ?_
      refine lv_iload hx hb dX5_learnLoop_35 (lv_at hl 0 rfl) ?_
      refine lv_dup2_11 hx hb dX5_learnLoop_37 rfl rfl ?_
      refine ld_11_5 hx hb hK hw kM_11_5 (lO_in c_1) dX5_learnLoop_38 ?_
      refine lv_iconst (v := 1) hx hb dX5_learnLoop_39 (by decide) ?_
      refine lv_iadd hx hb dX5_learnLoop_40 ?_
      refine st_11_5 (x := (S.1 11 5 ((lX5_loopOf x1 8 0 S).toNatClampNeg)) + (1 : Int32)) hx hb hK hw kM_11_5 (lO_in c_1) dX5_learnLoop_41 (fun H locs hw => ?_)
      refine lv_aload_n hx hb dX5_learnLoop_42 rfl (lv_at hl 1 rfl) ?_
      refine g_10_15 hx hb hts hiX5 hown hK hw kM_10 (hts (.fieldLink RX5 38 "BranchPredictorModel" "loopCounts" "[I") (by decide +kernel)) dX5_learnLoop_43 ?_
      refine lv_iload hx hb dX5_learnLoop_46 (lv_at hl 0 rfl) ?_
      refine ld_11_5 hx hb hK hw kM_11_5 (lO_in c_1) dX5_learnLoop_48 ?_
      refine k_topi (z := (S.1 11 5 ((lX5_loopOf x1 8 0 S).toNatClampNeg)) + (1 : Int32)) (by simp [uI, uL, uF]) ?_
      refine lv_sipush (v := 1000) hx hb dX5_learnLoop_49 (by decide) ?_
      refine lv_icmp_le (tgt := 63) hx hb dX5_learnLoop_52 (by decide) (fun c_5 => ?_) (fun c_5 => ?_)
      · skip
        exact k_vret hx hb hr hlocks hK hw rfl (by unfold fX5_learnLoop; rw [if_neg c_1, if_neg c_2, if_pos c_5]) dX5_learnLoop_63
      · skip
        refine lv_aload_n hx hb dX5_learnLoop_55 rfl (lv_at hl 1 rfl) ?_
        refine g_10_13 hx hb hts hiX5 hown hK hw kM_10 (hts (.fieldLink RX5 32 "BranchPredictorModel" "isLoop" "[Z") (by decide +kernel)) dX5_learnLoop_56 ?_
        refine lv_iload hx hb dX5_learnLoop_59 (lv_at hl 0 rfl) ?_
        refine lv_iconst (v := 0) hx hb dX5_learnLoop_61 (by decide) ?_
        refine st_12_3 (x := false) hx hb hK hw kM_12_3 (lO_in c_1) dX5_learnLoop_62 (fun H locs hw => ?_)
        exact k_vret hx hb hr hlocks hK hw rfl (by unfold fX5_learnLoop; rw [if_neg c_1, if_neg c_2, if_neg c_5]) dX5_learnLoop_63
  · skip
    refine lv_iload_n hx hb dX5_learnLoop_13 rfl (lv_at hl 3 rfl) ?_
    refine k_if_ne (b := b1) (tgt := 26) hx hb dX5_learnLoop_14 (by decide) (fun c_6 => ?_) (fun c_6 => ?_)
    · skip
      exact k_vret hx hb hr hlocks hK hw rfl (by unfold fX5_learnLoop; rw [if_pos c_1, if_neg c_6]) dX5_learnLoop_26
    · skip
      refine lv_iload_n hx hb dX5_learnLoop_17 rfl (lv_at hl 4 rfl) ?_
      refine k_if_eq (b := b2) (tgt := 26) hx hb dX5_learnLoop_18 (by decide) (fun c_7 => ?_) (fun c_7 => ?_)
      · skip
        exact k_vret hx hb hr hlocks hK hw rfl (by unfold fX5_learnLoop; rw [if_pos c_1, if_pos c_6, if_pos c_7]) dX5_learnLoop_26
      · skip
        refine lv_aload_n hx hb dX5_learnLoop_21 rfl (lv_at hl 1 rfl) ?_
        refine lv_iload_n hx hb dX5_learnLoop_22 rfl (lv_at hl 2 rfl) ?_
        refine k_callV (C := RX5) (n := 1) (rest := []) ⟨hx, hb, hml, hown, hts⟩ (cX5c_makeLoop l G Z S x1) (cwV 1 hts gX5_learnLoop_X5_makeLoop rfl rfl rfl (by decide +kernel) ⟨Nat.le_of_ble_eq_true rfl, Nat.le_of_ble_eq_true rfl⟩) (k_recv hK hw kM_10 rfl rfl) hK hN hZ hA hw (Nat.zero_le _) (Nat.zero_le _) rfl hl.1 rfl (Nat.le_of_ble_eq_true rfl) dX5_learnLoop_23 (fun H locs hw => ?_)
        refine W.eq (g2 := F0 m 26 ls []) rfl ?_
        exact k_vret hx hb hr hlocks hK hw rfl (by unfold fX5_learnLoop; rw [if_pos c_1, if_pos c_6, if_neg c_7]) dX5_learnLoop_26
