def fX5_setSizes (S : uS) (x1 : Int32) (x2 : Int32) (x3 : Int32) : Bool × uS :=
  if x1 < (2 : Int32) then ((fX5_failed (uI S 10 0 0 (0 : Int32)) (1 : Int32)).1, ((fX5_failed (uI S 10 0 0 (0 : Int32)) (1 : Int32)).2))
  else if (8 : Int32) < x1 then ((fX5_failed (uI S 10 0 0 (0 : Int32)) (1 : Int32)).1, ((fX5_failed (uI S 10 0 0 (0 : Int32)) (1 : Int32)).2))
    else if x2 < (2 : Int32) then ((fX5_failed (uI S 10 0 0 (0 : Int32)) (1 : Int32)).1, ((fX5_failed (uI S 10 0 0 (0 : Int32)) (1 : Int32)).2))
      else if (8 : Int32) < x2 then ((fX5_failed (uI S 10 0 0 (0 : Int32)) (1 : Int32)).1, ((fX5_failed (uI S 10 0 0 (0 : Int32)) (1 : Int32)).2))
        else if x3 < (0 : Int32) then ((fX5_failed (uI S 10 0 0 (0 : Int32)) (1 : Int32)).1, ((fX5_failed (uI S 10 0 0 (0 : Int32)) (1 : Int32)).2))
          else if x3 ≤ x2 then if (S.1 10 0 1) = x1 then if (S.1 10 0 2) = x2 then (if (S.1 10 0 3) = x3 then false else true, (fX5_begin (uI S 10 0 0 (0 : Int32)) x1 x2 x3))
                else (true, (fX5_begin (uI S 10 0 0 (0 : Int32)) x1 x2 x3))
              else (true, (fX5_begin (uI S 10 0 0 (0 : Int32)) x1 x2 x3))
            else ((fX5_failed (uI S 10 0 0 (0 : Int32)) (1 : Int32)).1, ((fX5_failed (uI S 10 0 0 (0 : Int32)) (1 : Int32)).2))
abbrev rmX5_setSizes : Room := { frames := 1, cells := 0, slots := 0, locals := 24 }
set_option maxHeartbeats 4000000 in
set_option maxRecDepth 100000 in
theorem cX5c_setSizes (l : Launch) (G : gG) (Z : va_W) (S : uS) (x1 : Int32) (x2 : Int32) (x3 : Int32) : kMet l yX5_setSizes wsX5_setSizes rmX5_setSizes G kM Z S [.ref (G.2.2 (10, 0)), .int (x1), .int (x2), .int (x3)] (some (.int (bI ((fX5_setSizes S x1 x2 x3).1)))) ((fX5_setSizes S x1 x2 x3).2) := by
  refine kMet_of (cc := cX5_setSizes) (maxL := 5) (ret := (some .boolean)) (by decide) rfl (Nat.le_of_ble_eq_true rfl) ?_
  intro p e s m below meth c hx hb hr hml hlocks hts hown hK hN A hZ hA H locs hw ls hl
  have hl : lv_has ls 5 [(0, .ref (G.2.2 (10, 0))), (1, .int (x1)), (2, .int (x2)), (3, .int (x3))] := hl
  have hiX5 : ∀ w ∈ wsX50, w ∈ wsX5_setSizes := by decide +kernel
  refine lv_aload_n hx hb dX5_setSizes_0 rfl (lv_at hl 0 rfl) ?_
  refine lv_iconst (v := 0) hx hb dX5_setSizes_1 (by decide) ?_
  refine p_10_0 (v := (0 : Int32)) hx hb hts hiX5 hown hK hw kM_10 (hts (.fieldLink RX5 58 "BranchPredictorModel" "thrown" "I") (by decide +kernel)) dX5_setSizes_2 (fun H locs hw => ?_)
  refine lv_iload_n hx hb dX5_setSizes_5 rfl (lv_at hl 1 rfl) ?_
  refine lv_iconst (v := 2) hx hb dX5_setSizes_6 (by decide) ?_
  refine lv_icmp_lt (tgt := 36) hx hb dX5_setSizes_7 (by decide) (fun c_1 => ?_) (fun c_1 => ?_)
  · skip
    refine lv_aload_n hx hb dX5_setSizes_36 rfl (lv_at hl 0 rfl) ?_
    refine lv_iconst (v := 1) hx hb dX5_setSizes_37 (by decide) ?_
    refine k_callV (C := RX5) (n := 1) (rest := []) ⟨hx, hb, hml, hown, hts⟩ (cX5c_failed l G Z (uI S 10 0 0 (0 : Int32)) (1 : Int32)) (cwV 1 hts gX5_setSizes_X5_failed rfl rfl rfl (by decide +kernel) ⟨Nat.le_of_ble_eq_true rfl, Nat.le_of_ble_eq_true rfl⟩) (k_recv hK hw kM_10 rfl rfl) hK hN hZ hA hw (Nat.zero_le _) (Nat.zero_le _) rfl hl.1 rfl (Nat.le_of_ble_eq_true rfl) dX5_setSizes_38 (fun H locs hw => ?_)
    refine W.eq (g2 := F0 m 41 ls [.int (bI ((fX5_failed (uI S 10 0 0 (0 : Int32)) (1 : Int32)).1))]) rfl ?_
    exact k_zret (r := (fX5_failed (uI S 10 0 0 (0 : Int32)) (1 : Int32)).1) hx hb hr hlocks hK hw (congrArg (fun z : Bool × uS => some (Value.int (bI (z.1)))) (show (fX5_setSizes S x1 x2 x3) = ((fX5_failed (uI S 10 0 0 (0 : Int32)) (1 : Int32)).1, ((fX5_failed (uI S 10 0 0 (0 : Int32)) (1 : Int32)).2)) from by unfold fX5_setSizes; rw [if_pos c_1])) (congrArg (a₁ := (fX5_setSizes S x1 x2 x3)) (a₂ := ((fX5_failed (uI S 10 0 0 (0 : Int32)) (1 : Int32)).1, ((fX5_failed (uI S 10 0 0 (0 : Int32)) (1 : Int32)).2))) (fun z : Bool × uS => z.2) (show (fX5_setSizes S x1 x2 x3) = ((fX5_failed (uI S 10 0 0 (0 : Int32)) (1 : Int32)).1, ((fX5_failed (uI S 10 0 0 (0 : Int32)) (1 : Int32)).2)) from by unfold fX5_setSizes; rw [if_pos c_1])) dX5_setSizes_41
  · skip
    refine lv_iload_n hx hb dX5_setSizes_10 rfl (lv_at hl 1 rfl) ?_
    refine lv_bipush (v := 8) hx hb dX5_setSizes_11 (by decide) ?_
    refine lv_icmp_gt (tgt := 36) hx hb dX5_setSizes_13 (by decide) (fun c_2 => ?_) (fun c_2 => ?_)
    · skip
      refine lv_aload_n hx hb dX5_setSizes_36 rfl (lv_at hl 0 rfl) ?_
      refine lv_iconst (v := 1) hx hb dX5_setSizes_37 (by decide) ?_
      refine k_callV (C := RX5) (n := 1) (rest := []) ⟨hx, hb, hml, hown, hts⟩ (cX5c_failed l G Z (uI S 10 0 0 (0 : Int32)) (1 : Int32)) (cwV 1 hts gX5_setSizes_X5_failed rfl rfl rfl (by decide +kernel) ⟨Nat.le_of_ble_eq_true rfl, Nat.le_of_ble_eq_true rfl⟩) (k_recv hK hw kM_10 rfl rfl) hK hN hZ hA hw (Nat.zero_le _) (Nat.zero_le _) rfl hl.1 rfl (Nat.le_of_ble_eq_true rfl) dX5_setSizes_38 (fun H locs hw => ?_)
      refine W.eq (g2 := F0 m 41 ls [.int (bI ((fX5_failed (uI S 10 0 0 (0 : Int32)) (1 : Int32)).1))]) rfl ?_
      exact k_zret (r := (fX5_failed (uI S 10 0 0 (0 : Int32)) (1 : Int32)).1) hx hb hr hlocks hK hw (congrArg (fun z : Bool × uS => some (Value.int (bI (z.1)))) (show (fX5_setSizes S x1 x2 x3) = ((fX5_failed (uI S 10 0 0 (0 : Int32)) (1 : Int32)).1, ((fX5_failed (uI S 10 0 0 (0 : Int32)) (1 : Int32)).2)) from by unfold fX5_setSizes; rw [if_neg c_1, if_pos c_2])) (congrArg (a₁ := (fX5_setSizes S x1 x2 x3)) (a₂ := ((fX5_failed (uI S 10 0 0 (0 : Int32)) (1 : Int32)).1, ((fX5_failed (uI S 10 0 0 (0 : Int32)) (1 : Int32)).2))) (fun z : Bool × uS => z.2) (show (fX5_setSizes S x1 x2 x3) = ((fX5_failed (uI S 10 0 0 (0 : Int32)) (1 : Int32)).1, ((fX5_failed (uI S 10 0 0 (0 : Int32)) (1 : Int32)).2)) from by unfold fX5_setSizes; rw [if_neg c_1, if_pos c_2])) dX5_setSizes_41
    · skip
      refine lv_iload_n hx hb dX5_setSizes_16 rfl (lv_at hl 2 rfl) ?_
      refine lv_iconst (v := 2) hx hb dX5_setSizes_17 (by decide) ?_
      refine lv_icmp_lt (tgt := 36) hx hb dX5_setSizes_18 (by decide) (fun c_3 => ?_) (fun c_3 => ?_)
      · skip
        refine lv_aload_n hx hb dX5_setSizes_36 rfl (lv_at hl 0 rfl) ?_
        refine lv_iconst (v := 1) hx hb dX5_setSizes_37 (by decide) ?_
        refine k_callV (C := RX5) (n := 1) (rest := []) ⟨hx, hb, hml, hown, hts⟩ (cX5c_failed l G Z (uI S 10 0 0 (0 : Int32)) (1 : Int32)) (cwV 1 hts gX5_setSizes_X5_failed rfl rfl rfl (by decide +kernel) ⟨Nat.le_of_ble_eq_true rfl, Nat.le_of_ble_eq_true rfl⟩) (k_recv hK hw kM_10 rfl rfl) hK hN hZ hA hw (Nat.zero_le _) (Nat.zero_le _) rfl hl.1 rfl (Nat.le_of_ble_eq_true rfl) dX5_setSizes_38 (fun H locs hw => ?_)
        refine W.eq (g2 := F0 m 41 ls [.int (bI ((fX5_failed (uI S 10 0 0 (0 : Int32)) (1 : Int32)).1))]) rfl ?_
        exact k_zret (r := (fX5_failed (uI S 10 0 0 (0 : Int32)) (1 : Int32)).1) hx hb hr hlocks hK hw (congrArg (fun z : Bool × uS => some (Value.int (bI (z.1)))) (show (fX5_setSizes S x1 x2 x3) = ((fX5_failed (uI S 10 0 0 (0 : Int32)) (1 : Int32)).1, ((fX5_failed (uI S 10 0 0 (0 : Int32)) (1 : Int32)).2)) from by unfold fX5_setSizes; rw [if_neg c_1, if_neg c_2, if_pos c_3])) (congrArg (a₁ := (fX5_setSizes S x1 x2 x3)) (a₂ := ((fX5_failed (uI S 10 0 0 (0 : Int32)) (1 : Int32)).1, ((fX5_failed (uI S 10 0 0 (0 : Int32)) (1 : Int32)).2))) (fun z : Bool × uS => z.2) (show (fX5_setSizes S x1 x2 x3) = ((fX5_failed (uI S 10 0 0 (0 : Int32)) (1 : Int32)).1, ((fX5_failed (uI S 10 0 0 (0 : Int32)) (1 : Int32)).2)) from by unfold fX5_setSizes; rw [if_neg c_1, if_neg c_2, if_pos c_3])) dX5_setSizes_41
      · skip
        refine lv_iload_n hx hb dX5_setSizes_21 rfl (lv_at hl 2 rfl) ?_
        refine lv_bipush (v := 8) hx hb dX5_setSizes_22 (by decide) ?_
        refine lv_icmp_gt (tgt := 36) hx hb dX5_setSizes_24 (by decide) (fun c_4 => ?_) (fun c_4 => ?_)
        · skip
          refine lv_aload_n hx hb dX5_setSizes_36 rfl (lv_at hl 0 rfl) ?_
          refine lv_iconst (v := 1) hx hb dX5_setSizes_37 (by decide) ?_
          refine k_callV (C := RX5) (n := 1) (rest := []) ⟨hx, hb, hml, hown, hts⟩ (cX5c_failed l G Z (uI S 10 0 0 (0 : Int32)) (1 : Int32)) (cwV 1 hts gX5_setSizes_X5_failed rfl rfl rfl (by decide +kernel) ⟨Nat.le_of_ble_eq_true rfl, Nat.le_of_ble_eq_true rfl⟩) (k_recv hK hw kM_10 rfl rfl) hK hN hZ hA hw (Nat.zero_le _) (Nat.zero_le _) rfl hl.1 rfl (Nat.le_of_ble_eq_true rfl) dX5_setSizes_38 (fun H locs hw => ?_)
          refine W.eq (g2 := F0 m 41 ls [.int (bI ((fX5_failed (uI S 10 0 0 (0 : Int32)) (1 : Int32)).1))]) rfl ?_
          exact k_zret (r := (fX5_failed (uI S 10 0 0 (0 : Int32)) (1 : Int32)).1) hx hb hr hlocks hK hw (congrArg (fun z : Bool × uS => some (Value.int (bI (z.1)))) (show (fX5_setSizes S x1 x2 x3) = ((fX5_failed (uI S 10 0 0 (0 : Int32)) (1 : Int32)).1, ((fX5_failed (uI S 10 0 0 (0 : Int32)) (1 : Int32)).2)) from by unfold fX5_setSizes; rw [if_neg c_1, if_neg c_2, if_neg c_3, if_pos c_4])) (congrArg (a₁ := (fX5_setSizes S x1 x2 x3)) (a₂ := ((fX5_failed (uI S 10 0 0 (0 : Int32)) (1 : Int32)).1, ((fX5_failed (uI S 10 0 0 (0 : Int32)) (1 : Int32)).2))) (fun z : Bool × uS => z.2) (show (fX5_setSizes S x1 x2 x3) = ((fX5_failed (uI S 10 0 0 (0 : Int32)) (1 : Int32)).1, ((fX5_failed (uI S 10 0 0 (0 : Int32)) (1 : Int32)).2)) from by unfold fX5_setSizes; rw [if_neg c_1, if_neg c_2, if_neg c_3, if_pos c_4])) dX5_setSizes_41
        · skip
          refine lv_iload_n hx hb dX5_setSizes_27 rfl (lv_at hl 3 rfl) ?_
          refine lv_if_lt (x := x3) (tgt := 36) hx hb dX5_setSizes_28 (by decide) (fun c_5 => ?_) (fun c_5 => ?_)
          · skip
            refine lv_aload_n hx hb dX5_setSizes_36 rfl (lv_at hl 0 rfl) ?_
            refine lv_iconst (v := 1) hx hb dX5_setSizes_37 (by decide) ?_
            refine k_callV (C := RX5) (n := 1) (rest := []) ⟨hx, hb, hml, hown, hts⟩ (cX5c_failed l G Z (uI S 10 0 0 (0 : Int32)) (1 : Int32)) (cwV 1 hts gX5_setSizes_X5_failed rfl rfl rfl (by decide +kernel) ⟨Nat.le_of_ble_eq_true rfl, Nat.le_of_ble_eq_true rfl⟩) (k_recv hK hw kM_10 rfl rfl) hK hN hZ hA hw (Nat.zero_le _) (Nat.zero_le _) rfl hl.1 rfl (Nat.le_of_ble_eq_true rfl) dX5_setSizes_38 (fun H locs hw => ?_)
            refine W.eq (g2 := F0 m 41 ls [.int (bI ((fX5_failed (uI S 10 0 0 (0 : Int32)) (1 : Int32)).1))]) rfl ?_
            exact k_zret (r := (fX5_failed (uI S 10 0 0 (0 : Int32)) (1 : Int32)).1) hx hb hr hlocks hK hw (congrArg (fun z : Bool × uS => some (Value.int (bI (z.1)))) (show (fX5_setSizes S x1 x2 x3) = ((fX5_failed (uI S 10 0 0 (0 : Int32)) (1 : Int32)).1, ((fX5_failed (uI S 10 0 0 (0 : Int32)) (1 : Int32)).2)) from by unfold fX5_setSizes; rw [if_neg c_1, if_neg c_2, if_neg c_3, if_neg c_4, if_pos c_5])) (congrArg (a₁ := (fX5_setSizes S x1 x2 x3)) (a₂ := ((fX5_failed (uI S 10 0 0 (0 : Int32)) (1 : Int32)).1, ((fX5_failed (uI S 10 0 0 (0 : Int32)) (1 : Int32)).2))) (fun z : Bool × uS => z.2) (show (fX5_setSizes S x1 x2 x3) = ((fX5_failed (uI S 10 0 0 (0 : Int32)) (1 : Int32)).1, ((fX5_failed (uI S 10 0 0 (0 : Int32)) (1 : Int32)).2)) from by unfold fX5_setSizes; rw [if_neg c_1, if_neg c_2, if_neg c_3, if_neg c_4, if_pos c_5])) dX5_setSizes_41
          · skip
            refine lv_iload_n hx hb dX5_setSizes_31 rfl (lv_at hl 3 rfl) ?_
            refine lv_iload_n hx hb dX5_setSizes_32 rfl (lv_at hl 2 rfl) ?_
            refine lv_icmp_le (tgt := 42) hx hb dX5_setSizes_33 (by decide) (fun c_6 => ?_) (fun c_6 => ?_)
            · skip
              refine lv_aload_n hx hb dX5_setSizes_42 rfl (lv_at hl 0 rfl) ?_
              refine g_10_1 hx hb hts hiX5 hown hK hw kM_10 (hts (.fieldLink RX5 62 "BranchPredictorModel" "p" "I") (by decide +kernel)) dX5_setSizes_43 ?_
              refine k_topi (z := S.1 10 0 1) (by simp [uI, uL, uF]) ?_
              refine lv_iload_n hx hb dX5_setSizes_46 rfl (lv_at hl 1 rfl) ?_
              refine lv_icmp_ne (tgt := 66) hx hb dX5_setSizes_47 (by decide) (fun c_7 => ?_) (fun c_7 => ?_)
              · skip
                refine lv_iconst (v := 1) hx hb dX5_setSizes_66 (by decide) ?_
                refine lv_goto (tgt := 71) hx hb dX5_setSizes_67 (by decide) ?_
                refine lv_istore (lv' := [(4, .int ((1 : Int32))), (0, .ref (G.2.2 (10, 0))), (1, .int (x1)), (2, .int (x2)), (3, .int (x3))]) hx hb dX5_setSizes_71 hl (by decide) rfl (fun ls hl => ?_)
                refine lv_aload_n hx hb dX5_setSizes_73 rfl (lv_at hl 1 rfl) ?_
                refine lv_iload_n hx hb dX5_setSizes_74 rfl (lv_at hl 2 rfl) ?_
                refine lv_iload_n hx hb dX5_setSizes_75 rfl (lv_at hl 3 rfl) ?_
                refine lv_iload_n hx hb dX5_setSizes_76 rfl (lv_at hl 4 rfl) ?_
                refine k_callV (C := RX5) (n := 3) (rest := []) ⟨hx, hb, hml, hown, hts⟩ (cX5c_begin l G Z (uI S 10 0 0 (0 : Int32)) x1 x2 x3) (cwV 3 hts gX5_setSizes_X5_begin rfl rfl rfl (by decide +kernel) ⟨Nat.le_of_ble_eq_true rfl, Nat.le_of_ble_eq_true rfl⟩) (k_recv hK hw kM_10 rfl rfl) hK hN hZ hA hw (Nat.zero_le _) (Nat.zero_le _) rfl hl.1 rfl (Nat.le_of_ble_eq_true rfl) dX5_setSizes_77 (fun H locs hw => ?_)
                refine W.eq (g2 := F0 m 80 ls []) rfl ?_
                refine lv_iload hx hb dX5_setSizes_80 (lv_at hl 0 rfl) ?_
                exact k_zret (r := true) hx hb hr hlocks hK hw (congrArg (fun z : Bool × uS => some (Value.int (bI (z.1)))) (show (fX5_setSizes S x1 x2 x3) = (true, (fX5_begin (uI S 10 0 0 (0 : Int32)) x1 x2 x3)) from by unfold fX5_setSizes; rw [if_neg c_1, if_neg c_2, if_neg c_3, if_neg c_4, if_neg c_5, if_pos c_6, if_neg c_7])) (congrArg (a₁ := (fX5_setSizes S x1 x2 x3)) (a₂ := (true, (fX5_begin (uI S 10 0 0 (0 : Int32)) x1 x2 x3))) (fun z : Bool × uS => z.2) (show (fX5_setSizes S x1 x2 x3) = (true, (fX5_begin (uI S 10 0 0 (0 : Int32)) x1 x2 x3)) from by unfold fX5_setSizes; rw [if_neg c_1, if_neg c_2, if_neg c_3, if_neg c_4, if_neg c_5, if_pos c_6, if_neg c_7])) dX5_setSizes_82
              · skip
                refine lv_aload_n hx hb dX5_setSizes_50 rfl (lv_at hl 0 rfl) ?_
                refine g_10_2 hx hb hts hiX5 hown hK hw kM_10 (hts (.fieldLink RX5 65 "BranchPredictorModel" "g" "I") (by decide +kernel)) dX5_setSizes_51 ?_
                refine k_topi (z := S.1 10 0 2) (by simp [uI, uL, uF]) ?_
                refine lv_iload_n hx hb dX5_setSizes_54 rfl (lv_at hl 2 rfl) ?_
                refine lv_icmp_ne (tgt := 66) hx hb dX5_setSizes_55 (by decide) (fun c_8 => ?_) (fun c_8 => ?_)
                · skip
                  refine lv_iconst (v := 1) hx hb dX5_setSizes_66 (by decide) ?_
                  refine lv_goto (tgt := 71) hx hb dX5_setSizes_67 (by decide) ?_
                  refine lv_istore (lv' := [(4, .int ((1 : Int32))), (0, .ref (G.2.2 (10, 0))), (1, .int (x1)), (2, .int (x2)), (3, .int (x3))]) hx hb dX5_setSizes_71 hl (by decide) rfl (fun ls hl => ?_)
                  refine lv_aload_n hx hb dX5_setSizes_73 rfl (lv_at hl 1 rfl) ?_
                  refine lv_iload_n hx hb dX5_setSizes_74 rfl (lv_at hl 2 rfl) ?_
                  refine lv_iload_n hx hb dX5_setSizes_75 rfl (lv_at hl 3 rfl) ?_
                  refine lv_iload_n hx hb dX5_setSizes_76 rfl (lv_at hl 4 rfl) ?_
                  refine k_callV (C := RX5) (n := 3) (rest := []) ⟨hx, hb, hml, hown, hts⟩ (cX5c_begin l G Z (uI S 10 0 0 (0 : Int32)) x1 x2 x3) (cwV 3 hts gX5_setSizes_X5_begin rfl rfl rfl (by decide +kernel) ⟨Nat.le_of_ble_eq_true rfl, Nat.le_of_ble_eq_true rfl⟩) (k_recv hK hw kM_10 rfl rfl) hK hN hZ hA hw (Nat.zero_le _) (Nat.zero_le _) rfl hl.1 rfl (Nat.le_of_ble_eq_true rfl) dX5_setSizes_77 (fun H locs hw => ?_)
                  refine W.eq (g2 := F0 m 80 ls []) rfl ?_
                  refine lv_iload hx hb dX5_setSizes_80 (lv_at hl 0 rfl) ?_
                  exact k_zret (r := true) hx hb hr hlocks hK hw (congrArg (fun z : Bool × uS => some (Value.int (bI (z.1)))) (show (fX5_setSizes S x1 x2 x3) = (true, (fX5_begin (uI S 10 0 0 (0 : Int32)) x1 x2 x3)) from by unfold fX5_setSizes; rw [if_neg c_1, if_neg c_2, if_neg c_3, if_neg c_4, if_neg c_5, if_pos c_6, if_pos c_7, if_neg c_8])) (congrArg (a₁ := (fX5_setSizes S x1 x2 x3)) (a₂ := (true, (fX5_begin (uI S 10 0 0 (0 : Int32)) x1 x2 x3))) (fun z : Bool × uS => z.2) (show (fX5_setSizes S x1 x2 x3) = (true, (fX5_begin (uI S 10 0 0 (0 : Int32)) x1 x2 x3)) from by unfold fX5_setSizes; rw [if_neg c_1, if_neg c_2, if_neg c_3, if_neg c_4, if_neg c_5, if_pos c_6, if_pos c_7, if_neg c_8])) dX5_setSizes_82
                · skip
                  refine lv_aload_n hx hb dX5_setSizes_58 rfl (lv_at hl 0 rfl) ?_
                  refine g_10_3 hx hb hts hiX5 hown hK hw kM_10 (hts (.fieldLink RX5 68 "BranchPredictorModel" "h" "I") (by decide +kernel)) dX5_setSizes_59 ?_
                  refine k_topi (z := S.1 10 0 3) (by simp [uI, uL, uF]) ?_
                  refine lv_iload_n hx hb dX5_setSizes_62 rfl (lv_at hl 3 rfl) ?_
                  refine k_join (P := fun x9 : Bool => W p l e rmX5_setSizes s m [.ref (G.2.2 (10, 0)), .int (x1), .int (x2), .int (x3)].toArray below meth c H locs 0 0 (MQ below (kQ G kM Z A (some (.int (bI ((fX5_setSizes S x1 x2 x3).1)))) ((fX5_setSizes S x1 x2 x3).2)) [.ref (G.2.2 (10, 0)), .int (x1), .int (x2), .int (x3)].toArray s 0 0 A) (F0 m 71 ls [.int (bI (x9))])) (C := (S.1 10 0 3) = x3) (a := false) (b := true) ?_ (fun ka kb => ?_)
                  rotate_left
                  · refine lv_icmp_eq (tgt := 70) hx hb dX5_setSizes_63 (by decide) (fun c_9 => ?_) (fun c_9 => ?_)
                    · skip
                      refine lv_iconst (v := 0) hx hb dX5_setSizes_70 (by decide) ?_
                      exact ka c_9
                    · skip
                      refine lv_iconst (v := 1) hx hb dX5_setSizes_66 (by decide) ?_
                      refine lv_goto (tgt := 71) hx hb dX5_setSizes_67 (by decide) ?_
                      exact kb c_9
                  show W p l e rmX5_setSizes s m [.ref (G.2.2 (10, 0)), .int (x1), .int (x2), .int (x3)].toArray below meth c H locs 0 0 (MQ below (kQ G kM Z A (some (.int (bI ((fX5_setSizes S x1 x2 x3).1)))) ((fX5_setSizes S x1 x2 x3).2)) [.ref (G.2.2 (10, 0)), .int (x1), .int (x2), .int (x3)].toArray s 0 0 A) (F0 m 71 ls [.int (bI (if (S.1 10 0 3) = x3 then false else true))])
                  refine lv_istore (lv' := [(4, .int (bI (if (S.1 10 0 3) = x3 then false else true))), (0, .ref (G.2.2 (10, 0))), (1, .int (x1)), (2, .int (x2)), (3, .int (x3))]) hx hb dX5_setSizes_71 hl (by decide) rfl (fun ls hl => ?_)
                  refine lv_aload_n hx hb dX5_setSizes_73 rfl (lv_at hl 1 rfl) ?_
                  refine lv_iload_n hx hb dX5_setSizes_74 rfl (lv_at hl 2 rfl) ?_
                  refine lv_iload_n hx hb dX5_setSizes_75 rfl (lv_at hl 3 rfl) ?_
                  refine lv_iload_n hx hb dX5_setSizes_76 rfl (lv_at hl 4 rfl) ?_
                  refine k_callV (C := RX5) (n := 3) (rest := []) ⟨hx, hb, hml, hown, hts⟩ (cX5c_begin l G Z (uI S 10 0 0 (0 : Int32)) x1 x2 x3) (cwV 3 hts gX5_setSizes_X5_begin rfl rfl rfl (by decide +kernel) ⟨Nat.le_of_ble_eq_true rfl, Nat.le_of_ble_eq_true rfl⟩) (k_recv hK hw kM_10 rfl rfl) hK hN hZ hA hw (Nat.zero_le _) (Nat.zero_le _) rfl hl.1 rfl (Nat.le_of_ble_eq_true rfl) dX5_setSizes_77 (fun H locs hw => ?_)
                  refine W.eq (g2 := F0 m 80 ls []) rfl ?_
                  refine lv_iload hx hb dX5_setSizes_80 (lv_at hl 0 rfl) ?_
                  exact k_zret (r := if (S.1 10 0 3) = x3 then false else true) hx hb hr hlocks hK hw (congrArg (fun z : Bool × uS => some (Value.int (bI (z.1)))) (show (fX5_setSizes S x1 x2 x3) = (if (S.1 10 0 3) = x3 then false else true, (fX5_begin (uI S 10 0 0 (0 : Int32)) x1 x2 x3)) from by unfold fX5_setSizes; rw [if_neg c_1, if_neg c_2, if_neg c_3, if_neg c_4, if_neg c_5, if_pos c_6, if_pos c_7, if_pos c_8])) (congrArg (a₁ := (fX5_setSizes S x1 x2 x3)) (a₂ := (if (S.1 10 0 3) = x3 then false else true, (fX5_begin (uI S 10 0 0 (0 : Int32)) x1 x2 x3))) (fun z : Bool × uS => z.2) (show (fX5_setSizes S x1 x2 x3) = (if (S.1 10 0 3) = x3 then false else true, (fX5_begin (uI S 10 0 0 (0 : Int32)) x1 x2 x3)) from by unfold fX5_setSizes; rw [if_neg c_1, if_neg c_2, if_neg c_3, if_neg c_4, if_neg c_5, if_pos c_6, if_pos c_7, if_pos c_8])) dX5_setSizes_82
            · skip
              refine lv_aload_n hx hb dX5_setSizes_36 rfl (lv_at hl 0 rfl) ?_
              refine lv_iconst (v := 1) hx hb dX5_setSizes_37 (by decide) ?_
              refine k_callV (C := RX5) (n := 1) (rest := []) ⟨hx, hb, hml, hown, hts⟩ (cX5c_failed l G Z (uI S 10 0 0 (0 : Int32)) (1 : Int32)) (cwV 1 hts gX5_setSizes_X5_failed rfl rfl rfl (by decide +kernel) ⟨Nat.le_of_ble_eq_true rfl, Nat.le_of_ble_eq_true rfl⟩) (k_recv hK hw kM_10 rfl rfl) hK hN hZ hA hw (Nat.zero_le _) (Nat.zero_le _) rfl hl.1 rfl (Nat.le_of_ble_eq_true rfl) dX5_setSizes_38 (fun H locs hw => ?_)
              refine W.eq (g2 := F0 m 41 ls [.int (bI ((fX5_failed (uI S 10 0 0 (0 : Int32)) (1 : Int32)).1))]) rfl ?_
              exact k_zret (r := (fX5_failed (uI S 10 0 0 (0 : Int32)) (1 : Int32)).1) hx hb hr hlocks hK hw (congrArg (fun z : Bool × uS => some (Value.int (bI (z.1)))) (show (fX5_setSizes S x1 x2 x3) = ((fX5_failed (uI S 10 0 0 (0 : Int32)) (1 : Int32)).1, ((fX5_failed (uI S 10 0 0 (0 : Int32)) (1 : Int32)).2)) from by unfold fX5_setSizes; rw [if_neg c_1, if_neg c_2, if_neg c_3, if_neg c_4, if_neg c_5, if_neg c_6])) (congrArg (a₁ := (fX5_setSizes S x1 x2 x3)) (a₂ := ((fX5_failed (uI S 10 0 0 (0 : Int32)) (1 : Int32)).1, ((fX5_failed (uI S 10 0 0 (0 : Int32)) (1 : Int32)).2))) (fun z : Bool × uS => z.2) (show (fX5_setSizes S x1 x2 x3) = ((fX5_failed (uI S 10 0 0 (0 : Int32)) (1 : Int32)).1, ((fX5_failed (uI S 10 0 0 (0 : Int32)) (1 : Int32)).2)) from by unfold fX5_setSizes; rw [if_neg c_1, if_neg c_2, if_neg c_3, if_neg c_4, if_neg c_5, if_neg c_6])) dX5_setSizes_41
def fX5_predict (S : uS) (P1 : Nat) (Q1 : Nat) (H1 : Nat) (Y1 : Nat) (F1 : Nat) (x1 : Int32) : Bool × uS :=
  if x1 < (0 : Int32) then ((fX5_failed (uI S 10 0 0 (0 : Int32)) (1 : Int32)).1, ((fX5_failed (uI S 10 0 0 (0 : Int32)) (1 : Int32)).2))
  else if x1 < (65536 : Int32) then if (16 : Int32) ≤ (nI F1) then ((fX5_failed (uI S 10 0 0 (0 : Int32)) (2 : Int32)).1, ((fX5_failed (uI S 10 0 0 (0 : Int32)) (2 : Int32)).2))
      else ((fX5_add (uI S 10 0 0 (0 : Int32)) P1 Q1 H1 Y1 F1 (x1.toNatClampNeg)).1, ((fX5_add (uI S 10 0 0 (0 : Int32)) P1 Q1 H1 Y1 F1 (x1.toNatClampNeg)).2))
    else ((fX5_failed (uI S 10 0 0 (0 : Int32)) (1 : Int32)).1, ((fX5_failed (uI S 10 0 0 (0 : Int32)) (1 : Int32)).2))
abbrev rmX5_predict : Room := { frames := 3, cells := 0, slots := 0, locals := 68 }
set_option maxHeartbeats 4000000 in
set_option maxRecDepth 100000 in
theorem cX5c_predict (l : Launch) (G : gG) (Z : va_W) (S : uS) (P1 : Nat) (h_P1 : S.1 10 0 1 = nI P1) (h_P1b : P1 ≤ 8) (Q1 : Nat) (h_Q1 : S.1 10 0 2 = nI Q1) (h_Q1b : Q1 ≤ 8) (H1 : Nat) (h_H1 : S.1 10 0 3 = nI H1) (h_H1b : H1 ≤ 8) (Y1 : Nat) (h_Y1 : S.1 10 0 4 = nI Y1) (h_Y1b : Y1 < 256) (F1 : Nat) (h_F1 : S.1 10 0 7 = nI F1) (h_F1b : F1 ≤ 16) (x1 : Int32) : kMet l yX5_predict wsX5_predict rmX5_predict G kM Z S [.ref (G.2.2 (10, 0)), .int (x1)] (some (.int (bI ((fX5_predict S P1 Q1 H1 Y1 F1 x1).1)))) ((fX5_predict S P1 Q1 H1 Y1 F1 x1).2) := by
  refine kMet_of (cc := cX5_predict) (maxL := 2) (ret := (some .boolean)) (by decide) rfl (Nat.le_of_ble_eq_true rfl) ?_
  intro p e s m below meth c hx hb hr hml hlocks hts hown hK hN A hZ hA H locs hw ls hl
  have hl : lv_has ls 2 [(0, .ref (G.2.2 (10, 0))), (1, .int (x1))] := hl
  have hiX5 : ∀ w ∈ wsX50, w ∈ wsX5_predict := by decide +kernel
  refine lv_aload_n hx hb dX5_predict_0 rfl (lv_at hl 0 rfl) ?_
  refine lv_iconst (v := 0) hx hb dX5_predict_1 (by decide) ?_
  refine p_10_0 (v := (0 : Int32)) hx hb hts hiX5 hown hK hw kM_10 (hts (.fieldLink RX5 58 "BranchPredictorModel" "thrown" "I") (by decide +kernel)) dX5_predict_2 (fun H locs hw => ?_)
  refine lv_iload_n hx hb dX5_predict_5 rfl (lv_at hl 1 rfl) ?_
  refine lv_if_lt (x := x1) (tgt := 15) hx hb dX5_predict_6 (by decide) (fun c_1 => ?_) (fun c_1 => ?_)
  · skip
    refine lv_aload_n hx hb dX5_predict_15 rfl (lv_at hl 0 rfl) ?_
    refine lv_iconst (v := 1) hx hb dX5_predict_16 (by decide) ?_
    refine k_callV (C := RX5) (n := 1) (rest := []) ⟨hx, hb, hml, hown, hts⟩ (cX5c_failed l G Z (uI S 10 0 0 (0 : Int32)) (1 : Int32)) (cwV 1 hts gX5_predict_X5_failed rfl rfl rfl (by decide +kernel) ⟨Nat.le_of_ble_eq_true rfl, Nat.le_of_ble_eq_true rfl⟩) (k_recv hK hw kM_10 rfl rfl) hK hN hZ hA hw (Nat.zero_le _) (Nat.zero_le _) rfl hl.1 rfl (Nat.le_of_ble_eq_true rfl) dX5_predict_17 (fun H locs hw => ?_)
    refine W.eq (g2 := F0 m 20 ls [.int (bI ((fX5_failed (uI S 10 0 0 (0 : Int32)) (1 : Int32)).1))]) rfl ?_
    exact k_zret (r := (fX5_failed (uI S 10 0 0 (0 : Int32)) (1 : Int32)).1) hx hb hr hlocks hK hw (congrArg (fun z : Bool × uS => some (Value.int (bI (z.1)))) (show (fX5_predict S P1 Q1 H1 Y1 F1 x1) = ((fX5_failed (uI S 10 0 0 (0 : Int32)) (1 : Int32)).1, ((fX5_failed (uI S 10 0 0 (0 : Int32)) (1 : Int32)).2)) from by unfold fX5_predict; rw [if_pos c_1])) (congrArg (a₁ := (fX5_predict S P1 Q1 H1 Y1 F1 x1)) (a₂ := ((fX5_failed (uI S 10 0 0 (0 : Int32)) (1 : Int32)).1, ((fX5_failed (uI S 10 0 0 (0 : Int32)) (1 : Int32)).2))) (fun z : Bool × uS => z.2) (show (fX5_predict S P1 Q1 H1 Y1 F1 x1) = ((fX5_failed (uI S 10 0 0 (0 : Int32)) (1 : Int32)).1, ((fX5_failed (uI S 10 0 0 (0 : Int32)) (1 : Int32)).2)) from by unfold fX5_predict; rw [if_pos c_1])) dX5_predict_20
  · skip
    refine lv_iload_n hx hb dX5_predict_9 rfl (lv_at hl 1 rfl) ?_
    refine lv_ldc (v := 65536) hx hb hown (hts (.constant RX5 115 (65536)) (by decide +kernel)) dX5_predict_10 ?_
    refine lv_icmp_lt (tgt := 21) hx hb dX5_predict_12 (by decide) (fun c_2 => ?_) (fun c_2 => ?_)
    · skip
      refine lv_aload_n hx hb dX5_predict_21 rfl (lv_at hl 0 rfl) ?_
      refine g_10_7 hx hb hts hiX5 hown hK hw kM_10 (hts (.fieldLink RX5 74 "BranchPredictorModel" "flying" "I") (by decide +kernel)) dX5_predict_22 ?_
      refine k_topi (z := S.1 10 0 7) (by simp [uI, uL, uF]) ?_
      refine k_topi (z := nI F1) (h_F1) ?_
      refine lv_bipush (v := 16) hx hb dX5_predict_25 (by decide) ?_
      refine lv_icmp_ge (tgt := 38) hx hb dX5_predict_27 (by decide) (fun c_3 => ?_) (fun c_3 => ?_)
      · skip
        refine lv_aload_n hx hb dX5_predict_38 rfl (lv_at hl 0 rfl) ?_
        refine lv_iconst (v := 2) hx hb dX5_predict_39 (by decide) ?_
        refine k_callV (C := RX5) (n := 1) (rest := []) ⟨hx, hb, hml, hown, hts⟩ (cX5c_failed l G Z (uI S 10 0 0 (0 : Int32)) (2 : Int32)) (cwV 1 hts gX5_predict_X5_failed rfl rfl rfl (by decide +kernel) ⟨Nat.le_of_ble_eq_true rfl, Nat.le_of_ble_eq_true rfl⟩) (k_recv hK hw kM_10 rfl rfl) hK hN hZ hA hw (Nat.zero_le _) (Nat.zero_le _) rfl hl.1 rfl (Nat.le_of_ble_eq_true rfl) dX5_predict_40 (fun H locs hw => ?_)
        refine W.eq (g2 := F0 m 43 ls [.int (bI ((fX5_failed (uI S 10 0 0 (0 : Int32)) (2 : Int32)).1))]) rfl ?_
        exact k_zret (r := (fX5_failed (uI S 10 0 0 (0 : Int32)) (2 : Int32)).1) hx hb hr hlocks hK hw (congrArg (fun z : Bool × uS => some (Value.int (bI (z.1)))) (show (fX5_predict S P1 Q1 H1 Y1 F1 x1) = ((fX5_failed (uI S 10 0 0 (0 : Int32)) (2 : Int32)).1, ((fX5_failed (uI S 10 0 0 (0 : Int32)) (2 : Int32)).2)) from by unfold fX5_predict; rw [if_neg c_1, if_pos c_2, if_pos c_3])) (congrArg (a₁ := (fX5_predict S P1 Q1 H1 Y1 F1 x1)) (a₂ := ((fX5_failed (uI S 10 0 0 (0 : Int32)) (2 : Int32)).1, ((fX5_failed (uI S 10 0 0 (0 : Int32)) (2 : Int32)).2))) (fun z : Bool × uS => z.2) (show (fX5_predict S P1 Q1 H1 Y1 F1 x1) = ((fX5_failed (uI S 10 0 0 (0 : Int32)) (2 : Int32)).1, ((fX5_failed (uI S 10 0 0 (0 : Int32)) (2 : Int32)).2)) from by unfold fX5_predict; rw [if_neg c_1, if_pos c_2, if_pos c_3])) dX5_predict_43
      · skip
        refine lv_aload_n hx hb dX5_predict_30 rfl (lv_at hl 0 rfl) ?_
        refine lv_iload_n hx hb dX5_predict_31 rfl (lv_at hl 1 rfl) ?_
        refine k_topi (z := nI (x1.toNatClampNeg)) (i_nI c_1) ?_
        refine k_callV (C := RX5) (n := 1) (rest := []) ⟨hx, hb, hml, hown, hts⟩ (cX5c_add l G Z (uI S 10 0 0 (0 : Int32)) P1 h_P1 h_P1b Q1 h_Q1 h_Q1b H1 h_H1 h_H1b Y1 h_Y1 h_Y1b F1 h_F1 (m_nle (a := F1) (b := 16) (by omega) (by decide) c_3) (x1.toNatClampNeg) (i_lt (n := 65536) c_1 c_2 (by decide))) (cwV 1 hts gX5_predict_X5_add rfl rfl rfl (by decide +kernel) ⟨Nat.le_of_ble_eq_true rfl, Nat.le_of_ble_eq_true rfl⟩) (k_recv hK hw kM_10 rfl rfl) hK hN hZ hA hw (Nat.zero_le _) (Nat.zero_le _) rfl hl.1 rfl (Nat.le_of_ble_eq_true rfl) dX5_predict_32 (fun H locs hw => ?_)
        refine W.eq (g2 := F0 m 35 ls [.int (bI ((fX5_add (uI S 10 0 0 (0 : Int32)) P1 Q1 H1 Y1 F1 (x1.toNatClampNeg)).1))]) rfl ?_
        refine lv_goto (tgt := 43) hx hb dX5_predict_35 (by decide) ?_
        exact k_zret (r := (fX5_add (uI S 10 0 0 (0 : Int32)) P1 Q1 H1 Y1 F1 (x1.toNatClampNeg)).1) hx hb hr hlocks hK hw (congrArg (fun z : Bool × uS => some (Value.int (bI (z.1)))) (show (fX5_predict S P1 Q1 H1 Y1 F1 x1) = ((fX5_add (uI S 10 0 0 (0 : Int32)) P1 Q1 H1 Y1 F1 (x1.toNatClampNeg)).1, ((fX5_add (uI S 10 0 0 (0 : Int32)) P1 Q1 H1 Y1 F1 (x1.toNatClampNeg)).2)) from by unfold fX5_predict; rw [if_neg c_1, if_pos c_2, if_neg c_3])) (congrArg (a₁ := (fX5_predict S P1 Q1 H1 Y1 F1 x1)) (a₂ := ((fX5_add (uI S 10 0 0 (0 : Int32)) P1 Q1 H1 Y1 F1 (x1.toNatClampNeg)).1, ((fX5_add (uI S 10 0 0 (0 : Int32)) P1 Q1 H1 Y1 F1 (x1.toNatClampNeg)).2))) (fun z : Bool × uS => z.2) (show (fX5_predict S P1 Q1 H1 Y1 F1 x1) = ((fX5_add (uI S 10 0 0 (0 : Int32)) P1 Q1 H1 Y1 F1 (x1.toNatClampNeg)).1, ((fX5_add (uI S 10 0 0 (0 : Int32)) P1 Q1 H1 Y1 F1 (x1.toNatClampNeg)).2)) from by unfold fX5_predict; rw [if_neg c_1, if_pos c_2, if_neg c_3])) dX5_predict_43
    · skip
      refine lv_aload_n hx hb dX5_predict_15 rfl (lv_at hl 0 rfl) ?_
      refine lv_iconst (v := 1) hx hb dX5_predict_16 (by decide) ?_
      refine k_callV (C := RX5) (n := 1) (rest := []) ⟨hx, hb, hml, hown, hts⟩ (cX5c_failed l G Z (uI S 10 0 0 (0 : Int32)) (1 : Int32)) (cwV 1 hts gX5_predict_X5_failed rfl rfl rfl (by decide +kernel) ⟨Nat.le_of_ble_eq_true rfl, Nat.le_of_ble_eq_true rfl⟩) (k_recv hK hw kM_10 rfl rfl) hK hN hZ hA hw (Nat.zero_le _) (Nat.zero_le _) rfl hl.1 rfl (Nat.le_of_ble_eq_true rfl) dX5_predict_17 (fun H locs hw => ?_)
      refine W.eq (g2 := F0 m 20 ls [.int (bI ((fX5_failed (uI S 10 0 0 (0 : Int32)) (1 : Int32)).1))]) rfl ?_
      exact k_zret (r := (fX5_failed (uI S 10 0 0 (0 : Int32)) (1 : Int32)).1) hx hb hr hlocks hK hw (congrArg (fun z : Bool × uS => some (Value.int (bI (z.1)))) (show (fX5_predict S P1 Q1 H1 Y1 F1 x1) = ((fX5_failed (uI S 10 0 0 (0 : Int32)) (1 : Int32)).1, ((fX5_failed (uI S 10 0 0 (0 : Int32)) (1 : Int32)).2)) from by unfold fX5_predict; rw [if_neg c_1, if_neg c_2])) (congrArg (a₁ := (fX5_predict S P1 Q1 H1 Y1 F1 x1)) (a₂ := ((fX5_failed (uI S 10 0 0 (0 : Int32)) (1 : Int32)).1, ((fX5_failed (uI S 10 0 0 (0 : Int32)) (1 : Int32)).2))) (fun z : Bool × uS => z.2) (show (fX5_predict S P1 Q1 H1 Y1 F1 x1) = ((fX5_failed (uI S 10 0 0 (0 : Int32)) (1 : Int32)).1, ((fX5_failed (uI S 10 0 0 (0 : Int32)) (1 : Int32)).2)) from by unfold fX5_predict; rw [if_neg c_1, if_neg c_2])) dX5_predict_20
def fX5_resolve (S : uS) (F1 : Nat) (H1 : Nat) (Wf : Nat → Nat) (x1 : Int32) (b1 : Bool) : Int32 × uS :=
  if (fX5_isFlying S x1) = false then ((fX5_fail (uI S 10 0 0 (0 : Int32)) (1 : Int32)).1, ((fX5_fail (uI S 10 0 0 (0 : Int32)) (1 : Int32)).2))
  else if (S.2.2 12 1 (x1.toNatClampNeg)) = false then ((fX5_settle (uI S 10 0 0 (0 : Int32)) F1 H1 (x1.toNatClampNeg) (Wf x1.toNatClampNeg) b1).1, ((fX5_settle (uI S 10 0 0 (0 : Int32)) F1 H1 (x1.toNatClampNeg) (Wf x1.toNatClampNeg) b1).2))
    else ((fX5_fail (uI S 10 0 0 (0 : Int32)) (2 : Int32)).1, ((fX5_fail (uI S 10 0 0 (0 : Int32)) (2 : Int32)).2))
abbrev rmX5_resolve : Room := { frames := 2, cells := 0, slots := 0, locals := 45 }
set_option maxHeartbeats 4000000 in
set_option maxRecDepth 100000 in
theorem cX5c_resolve (l : Launch) (G : gG) (Z : va_W) (S : uS) (F1 : Nat) (h_F1 : S.1 10 0 7 = nI F1) (h_F1b : F1 ≤ 16) (H1 : Nat) (h_H1 : S.1 10 0 3 = nI H1) (h_H1b : H1 ≤ 8) (Wf : Nat → Nat) (h_Wf : ∀ j, j < 16 → S.1 11 3 j = nI (Wf j) ∧ Wf j < 256) (x1 : Int32) (b1 : Bool) : kMet l yX5_resolve wsX5_resolve rmX5_resolve G kM Z S [.ref (G.2.2 (10, 0)), .int (x1), .int (bI (b1))] (some (.int ((fX5_resolve S F1 H1 Wf x1 b1).1))) ((fX5_resolve S F1 H1 Wf x1 b1).2) := by
  refine kMet_of (cc := cX5_resolve) (maxL := 3) (ret := (some .int)) (by decide) rfl (Nat.le_of_ble_eq_true rfl) ?_
  intro p e s m below meth c hx hb hr hml hlocks hts hown hK hN A hZ hA H locs hw ls hl
  have hl : lv_has ls 3 [(0, .ref (G.2.2 (10, 0))), (1, .int (x1)), (2, .int (bI (b1)))] := hl
  have hiX5 : ∀ w ∈ wsX50, w ∈ wsX5_resolve := by decide +kernel
  refine lv_aload_n hx hb dX5_resolve_0 rfl (lv_at hl 0 rfl) ?_
  refine lv_iconst (v := 0) hx hb dX5_resolve_1 (by decide) ?_
  refine p_10_0 (v := (0 : Int32)) hx hb hts hiX5 hown hK hw kM_10 (hts (.fieldLink RX5 58 "BranchPredictorModel" "thrown" "I") (by decide +kernel)) dX5_resolve_2 (fun H locs hw => ?_)
  refine lv_aload_n hx hb dX5_resolve_5 rfl (lv_at hl 0 rfl) ?_
  refine lv_iload_n hx hb dX5_resolve_6 rfl (lv_at hl 1 rfl) ?_
  refine k_callV (C := RX5) (n := 1) (rest := []) ⟨hx, hb, hml, hown, hts⟩ (cX5c_isFlying l G Z (uI S 10 0 0 (0 : Int32)) x1) (cwV 1 hts gX5_resolve_X5_isFlying rfl rfl rfl (by decide +kernel) ⟨Nat.le_of_ble_eq_true rfl, Nat.le_of_ble_eq_true rfl⟩) (k_recv hK hw kM_10 rfl rfl) hK hN hZ hA hw (Nat.zero_le _) (Nat.zero_le _) rfl hl.1 rfl (Nat.le_of_ble_eq_true rfl) dX5_resolve_7 (fun H locs hw => ?_)
  refine W.eq (g2 := F0 m 10 ls [.int (bI ((fX5_isFlying (uI S 10 0 0 (0 : Int32)) x1)))]) rfl ?_
  refine k_topz (z := (fX5_isFlying S x1)) (by first | rfl | simp [fX5_isFlying, uI, uL, uF]) ?_
  refine k_if_ne (b := (fX5_isFlying S x1)) (tgt := 19) hx hb dX5_resolve_10 (by decide) (fun c_1 => ?_) (fun c_1 => ?_)
  · skip
    refine lv_aload_n hx hb dX5_resolve_19 rfl (lv_at hl 0 rfl) ?_
    refine g_10_11 hx hb hts hiX5 hown hK hw kM_10 (hts (.fieldLink RX5 26 "BranchPredictorModel" "areResolved" "[Z") (by decide +kernel)) dX5_resolve_20 ?_
    refine lv_iload_n hx hb dX5_resolve_23 rfl (lv_at hl 1 rfl) ?_
    obtain ⟨h_e, h_j⟩ := m_fl h_F1 h_F1b c_1
    refine k_topi (z := nI (x1.toNatClampNeg)) (h_e) ?_
    refine ld_12_1 hx hb hK hw kM_12_1 (vp_in_nI (by first | omega | (split <;> omega)) (by decide)) dX5_resolve_24 ?_
    refine k_topz (z := (uI S 10 0 0 (0 : Int32)).2.2 12 1 (x1.toNatClampNeg)) (by rw [nI_clamp (show x1.toNatClampNeg < 2 ^ 31 from by first | omega | (split <;> omega))]) ?_
    refine k_topz (z := S.2.2 12 1 (x1.toNatClampNeg)) (by simp [uI, uL, uF]) ?_
    refine k_if_eq (b := S.2.2 12 1 (x1.toNatClampNeg)) (tgt := 36) hx hb dX5_resolve_25 (by decide) (fun c_2 => ?_) (fun c_2 => ?_)
    · skip
      refine lv_aload_n hx hb dX5_resolve_36 rfl (lv_at hl 0 rfl) ?_
      refine lv_iload_n hx hb dX5_resolve_37 rfl (lv_at hl 1 rfl) ?_
      obtain ⟨h_e, h_j⟩ := m_fl h_F1 h_F1b c_1
      refine k_topi (z := nI (x1.toNatClampNeg)) (h_e) ?_
      refine lv_iload_n hx hb dX5_resolve_38 rfl (lv_at hl 2 rfl) ?_
      refine k_callV (C := RX5) (n := 2) (rest := []) ⟨hx, hb, hml, hown, hts⟩ (cX5c_settle l G Z (uI S 10 0 0 (0 : Int32)) F1 h_F1 h_F1b H1 h_H1 h_H1b (x1.toNatClampNeg) (by omega) (Wf x1.toNatClampNeg) (h_Wf _ (by omega)).1 (h_Wf _ (by omega)).2 b1) (cwV 2 hts gX5_resolve_X5_settle rfl rfl rfl (by decide +kernel) ⟨Nat.le_of_ble_eq_true rfl, Nat.le_of_ble_eq_true rfl⟩) (k_recv hK hw kM_10 rfl rfl) hK hN hZ hA hw (Nat.zero_le _) (Nat.zero_le _) rfl hl.1 rfl (Nat.le_of_ble_eq_true rfl) dX5_resolve_39 (fun H locs hw => ?_)
      refine W.eq (g2 := F0 m 42 ls [.int ((fX5_settle (uI S 10 0 0 (0 : Int32)) F1 H1 (x1.toNatClampNeg) (Wf x1.toNatClampNeg) b1).1)]) rfl ?_
      exact k_iret hx hb hr hlocks hK hw (congrArg (fun z : Int32 × uS => some (Value.int (z.1))) (show (fX5_resolve S F1 H1 Wf x1 b1) = ((fX5_settle (uI S 10 0 0 (0 : Int32)) F1 H1 (x1.toNatClampNeg) (Wf x1.toNatClampNeg) b1).1, ((fX5_settle (uI S 10 0 0 (0 : Int32)) F1 H1 (x1.toNatClampNeg) (Wf x1.toNatClampNeg) b1).2)) from by unfold fX5_resolve; rw [if_neg c_1, if_pos c_2])) (congrArg (a₁ := (fX5_resolve S F1 H1 Wf x1 b1)) (a₂ := ((fX5_settle (uI S 10 0 0 (0 : Int32)) F1 H1 (x1.toNatClampNeg) (Wf x1.toNatClampNeg) b1).1, ((fX5_settle (uI S 10 0 0 (0 : Int32)) F1 H1 (x1.toNatClampNeg) (Wf x1.toNatClampNeg) b1).2))) (fun z : Int32 × uS => z.2) (show (fX5_resolve S F1 H1 Wf x1 b1) = ((fX5_settle (uI S 10 0 0 (0 : Int32)) F1 H1 (x1.toNatClampNeg) (Wf x1.toNatClampNeg) b1).1, ((fX5_settle (uI S 10 0 0 (0 : Int32)) F1 H1 (x1.toNatClampNeg) (Wf x1.toNatClampNeg) b1).2)) from by unfold fX5_resolve; rw [if_neg c_1, if_pos c_2])) dX5_resolve_42
    · skip
      refine lv_aload_n hx hb dX5_resolve_28 rfl (lv_at hl 0 rfl) ?_
      refine lv_iconst (v := 2) hx hb dX5_resolve_29 (by decide) ?_
      refine k_callV (C := RX5) (n := 1) (rest := []) ⟨hx, hb, hml, hown, hts⟩ (cX5c_fail l G Z (uI S 10 0 0 (0 : Int32)) (2 : Int32)) (cwV 1 hts gX5_resolve_X5_fail rfl rfl rfl (by decide +kernel) ⟨Nat.le_of_ble_eq_true rfl, Nat.le_of_ble_eq_true rfl⟩) (k_recv hK hw kM_10 rfl rfl) hK hN hZ hA hw (Nat.zero_le _) (Nat.zero_le _) rfl hl.1 rfl (Nat.le_of_ble_eq_true rfl) dX5_resolve_30 (fun H locs hw => ?_)
      refine W.eq (g2 := F0 m 33 ls [.int ((fX5_fail (uI S 10 0 0 (0 : Int32)) (2 : Int32)).1)]) rfl ?_
      refine lv_goto (tgt := 42) hx hb dX5_resolve_33 (by decide) ?_
      exact k_iret hx hb hr hlocks hK hw (congrArg (fun z : Int32 × uS => some (Value.int (z.1))) (show (fX5_resolve S F1 H1 Wf x1 b1) = ((fX5_fail (uI S 10 0 0 (0 : Int32)) (2 : Int32)).1, ((fX5_fail (uI S 10 0 0 (0 : Int32)) (2 : Int32)).2)) from by unfold fX5_resolve; rw [if_neg c_1, if_neg c_2])) (congrArg (a₁ := (fX5_resolve S F1 H1 Wf x1 b1)) (a₂ := ((fX5_fail (uI S 10 0 0 (0 : Int32)) (2 : Int32)).1, ((fX5_fail (uI S 10 0 0 (0 : Int32)) (2 : Int32)).2))) (fun z : Int32 × uS => z.2) (show (fX5_resolve S F1 H1 Wf x1 b1) = ((fX5_fail (uI S 10 0 0 (0 : Int32)) (2 : Int32)).1, ((fX5_fail (uI S 10 0 0 (0 : Int32)) (2 : Int32)).2)) from by unfold fX5_resolve; rw [if_neg c_1, if_neg c_2])) dX5_resolve_42
  · skip
    refine lv_aload_n hx hb dX5_resolve_13 rfl (lv_at hl 0 rfl) ?_
    refine lv_iconst (v := 1) hx hb dX5_resolve_14 (by decide) ?_
    refine k_callV (C := RX5) (n := 1) (rest := []) ⟨hx, hb, hml, hown, hts⟩ (cX5c_fail l G Z (uI S 10 0 0 (0 : Int32)) (1 : Int32)) (cwV 1 hts gX5_resolve_X5_fail rfl rfl rfl (by decide +kernel) ⟨Nat.le_of_ble_eq_true rfl, Nat.le_of_ble_eq_true rfl⟩) (k_recv hK hw kM_10 rfl rfl) hK hN hZ hA hw (Nat.zero_le _) (Nat.zero_le _) rfl hl.1 rfl (Nat.le_of_ble_eq_true rfl) dX5_resolve_15 (fun H locs hw => ?_)
    refine W.eq (g2 := F0 m 18 ls [.int ((fX5_fail (uI S 10 0 0 (0 : Int32)) (1 : Int32)).1)]) rfl ?_
    exact k_iret hx hb hr hlocks hK hw (congrArg (fun z : Int32 × uS => some (Value.int (z.1))) (show (fX5_resolve S F1 H1 Wf x1 b1) = ((fX5_fail (uI S 10 0 0 (0 : Int32)) (1 : Int32)).1, ((fX5_fail (uI S 10 0 0 (0 : Int32)) (1 : Int32)).2)) from by unfold fX5_resolve; rw [if_pos c_1])) (congrArg (a₁ := (fX5_resolve S F1 H1 Wf x1 b1)) (a₂ := ((fX5_fail (uI S 10 0 0 (0 : Int32)) (1 : Int32)).1, ((fX5_fail (uI S 10 0 0 (0 : Int32)) (1 : Int32)).2))) (fun z : Int32 × uS => z.2) (show (fX5_resolve S F1 H1 Wf x1 b1) = ((fX5_fail (uI S 10 0 0 (0 : Int32)) (1 : Int32)).1, ((fX5_fail (uI S 10 0 0 (0 : Int32)) (1 : Int32)).2)) from by unfold fX5_resolve; rw [if_pos c_1])) dX5_resolve_18
def fX5_commit (S : uS) (P1 : Nat) (Q1 : Nat) (F1 : Nat) (Xf : Nat → Nat) (Wf : Nat → Nat) : Bool × uS :=
  if (nI F1) ≤ (0 : Int32) then ((fX5_failed (uI S 10 0 0 (0 : Int32)) (1 : Int32)).1, ((fX5_failed (uI S 10 0 0 (0 : Int32)) (1 : Int32)).2))
  else if (S.2.2 12 1 0) = false then ((fX5_failed (uI S 10 0 0 (0 : Int32)) (1 : Int32)).1, ((fX5_failed (uI S 10 0 0 (0 : Int32)) (1 : Int32)).2))
    else ((fX5_learn (uI S 10 0 0 (0 : Int32)) P1 Q1 (F1 - 1) (Xf 0) (Wf 0) (S.2.2 12 2 0)).1, ((fX5_learn (uI S 10 0 0 (0 : Int32)) P1 Q1 (F1 - 1) (Xf 0) (Wf 0) (S.2.2 12 2 0)).2))
abbrev rmX5_commit : Room := { frames := 3, cells := 0, slots := 0, locals := 72 }
set_option maxHeartbeats 4000000 in
set_option maxRecDepth 100000 in
theorem cX5c_commit (l : Launch) (G : gG) (Z : va_W) (S : uS) (P1 : Nat) (h_P1 : S.1 10 0 1 = nI P1) (h_P1b : P1 ≤ 8) (Q1 : Nat) (h_Q1 : S.1 10 0 2 = nI Q1) (h_Q1b : Q1 ≤ 8) (F1 : Nat) (h_F1 : S.1 10 0 7 = nI F1) (h_F1b : F1 ≤ 16) (Xf : Nat → Nat) (h_Xf : ∀ j, j < 16 → S.1 11 2 j = nI (Xf j) ∧ Xf j < 65536) (Wf : Nat → Nat) (h_Wf : ∀ j, j < 16 → S.1 11 3 j = nI (Wf j) ∧ Wf j < 256) : kMet l yX5_commit wsX5_commit rmX5_commit G kM Z S [.ref (G.2.2 (10, 0))] (some (.int (bI ((fX5_commit S P1 Q1 F1 Xf Wf).1)))) ((fX5_commit S P1 Q1 F1 Xf Wf).2) := by
  refine kMet_of (cc := cX5_commit) (maxL := 1) (ret := (some .boolean)) (by decide) rfl (Nat.le_of_ble_eq_true rfl) ?_
  intro p e s m below meth c hx hb hr hml hlocks hts hown hK hN A hZ hA H locs hw ls hl
  have hl : lv_has ls 1 [(0, .ref (G.2.2 (10, 0)))] := hl
  have hiX5 : ∀ w ∈ wsX50, w ∈ wsX5_commit := by decide +kernel
  refine lv_aload_n hx hb dX5_commit_0 rfl (lv_at hl 0 rfl) ?_
  refine lv_iconst (v := 0) hx hb dX5_commit_1 (by decide) ?_
  refine p_10_0 (v := (0 : Int32)) hx hb hts hiX5 hown hK hw kM_10 (hts (.fieldLink RX5 58 "BranchPredictorModel" "thrown" "I") (by decide +kernel)) dX5_commit_2 (fun H locs hw => ?_)
  refine lv_aload_n hx hb dX5_commit_5 rfl (lv_at hl 0 rfl) ?_
  refine g_10_7 hx hb hts hiX5 hown hK hw kM_10 (hts (.fieldLink RX5 74 "BranchPredictorModel" "flying" "I") (by decide +kernel)) dX5_commit_6 ?_
  refine k_topi (z := S.1 10 0 7) (by simp [uI, uL, uF]) ?_
  refine k_topi (z := nI F1) (h_F1) ?_
  refine lv_if_le (x := nI F1) (tgt := 28) hx hb dX5_commit_9 (by decide) (fun c_1 => ?_) (fun c_1 => ?_)
  · skip
    refine lv_aload_n hx hb dX5_commit_28 rfl (lv_at hl 0 rfl) ?_
    refine lv_iconst (v := 1) hx hb dX5_commit_29 (by decide) ?_
    refine k_callV (C := RX5) (n := 1) (rest := []) ⟨hx, hb, hml, hown, hts⟩ (cX5c_failed l G Z (uI S 10 0 0 (0 : Int32)) (1 : Int32)) (cwV 1 hts gX5_commit_X5_failed rfl rfl rfl (by decide +kernel) ⟨Nat.le_of_ble_eq_true rfl, Nat.le_of_ble_eq_true rfl⟩) (k_recv hK hw kM_10 rfl rfl) hK hN hZ hA hw (Nat.zero_le _) (Nat.zero_le _) rfl hl.1 rfl (Nat.le_of_ble_eq_true rfl) dX5_commit_30 (fun H locs hw => ?_)
    refine W.eq (g2 := F0 m 33 ls [.int (bI ((fX5_failed (uI S 10 0 0 (0 : Int32)) (1 : Int32)).1))]) rfl ?_
    exact k_zret (r := (fX5_failed (uI S 10 0 0 (0 : Int32)) (1 : Int32)).1) hx hb hr hlocks hK hw (congrArg (fun z : Bool × uS => some (Value.int (bI (z.1)))) (show (fX5_commit S P1 Q1 F1 Xf Wf) = ((fX5_failed (uI S 10 0 0 (0 : Int32)) (1 : Int32)).1, ((fX5_failed (uI S 10 0 0 (0 : Int32)) (1 : Int32)).2)) from by unfold fX5_commit; rw [if_pos c_1])) (congrArg (a₁ := (fX5_commit S P1 Q1 F1 Xf Wf)) (a₂ := ((fX5_failed (uI S 10 0 0 (0 : Int32)) (1 : Int32)).1, ((fX5_failed (uI S 10 0 0 (0 : Int32)) (1 : Int32)).2))) (fun z : Bool × uS => z.2) (show (fX5_commit S P1 Q1 F1 Xf Wf) = ((fX5_failed (uI S 10 0 0 (0 : Int32)) (1 : Int32)).1, ((fX5_failed (uI S 10 0 0 (0 : Int32)) (1 : Int32)).2)) from by unfold fX5_commit; rw [if_pos c_1])) dX5_commit_33
  · skip
    refine lv_aload_n hx hb dX5_commit_12 rfl (lv_at hl 0 rfl) ?_
    refine g_10_11 hx hb hts hiX5 hown hK hw kM_10 (hts (.fieldLink RX5 26 "BranchPredictorModel" "areResolved" "[Z") (by decide +kernel)) dX5_commit_13 ?_
    refine lv_iconst (v := 0) hx hb dX5_commit_16 (by decide) ?_
    refine ld_12_1 hx hb hK hw kM_12_1 (by unfold vp_in; decide) dX5_commit_17 ?_
    refine k_topz (z := (uI S 10 0 0 (0 : Int32)).2.2 12 1 0) rfl ?_
    refine k_topz (z := S.2.2 12 1 0) (by simp [uI, uL, uF]) ?_
    refine k_if_eq (b := S.2.2 12 1 0) (tgt := 28) hx hb dX5_commit_18 (by decide) (fun c_2 => ?_) (fun c_2 => ?_)
    · skip
      refine lv_aload_n hx hb dX5_commit_28 rfl (lv_at hl 0 rfl) ?_
      refine lv_iconst (v := 1) hx hb dX5_commit_29 (by decide) ?_
      refine k_callV (C := RX5) (n := 1) (rest := []) ⟨hx, hb, hml, hown, hts⟩ (cX5c_failed l G Z (uI S 10 0 0 (0 : Int32)) (1 : Int32)) (cwV 1 hts gX5_commit_X5_failed rfl rfl rfl (by decide +kernel) ⟨Nat.le_of_ble_eq_true rfl, Nat.le_of_ble_eq_true rfl⟩) (k_recv hK hw kM_10 rfl rfl) hK hN hZ hA hw (Nat.zero_le _) (Nat.zero_le _) rfl hl.1 rfl (Nat.le_of_ble_eq_true rfl) dX5_commit_30 (fun H locs hw => ?_)
      refine W.eq (g2 := F0 m 33 ls [.int (bI ((fX5_failed (uI S 10 0 0 (0 : Int32)) (1 : Int32)).1))]) rfl ?_
      exact k_zret (r := (fX5_failed (uI S 10 0 0 (0 : Int32)) (1 : Int32)).1) hx hb hr hlocks hK hw (congrArg (fun z : Bool × uS => some (Value.int (bI (z.1)))) (show (fX5_commit S P1 Q1 F1 Xf Wf) = ((fX5_failed (uI S 10 0 0 (0 : Int32)) (1 : Int32)).1, ((fX5_failed (uI S 10 0 0 (0 : Int32)) (1 : Int32)).2)) from by unfold fX5_commit; rw [if_neg c_1, if_pos c_2])) (congrArg (a₁ := (fX5_commit S P1 Q1 F1 Xf Wf)) (a₂ := ((fX5_failed (uI S 10 0 0 (0 : Int32)) (1 : Int32)).1, ((fX5_failed (uI S 10 0 0 (0 : Int32)) (1 : Int32)).2))) (fun z : Bool × uS => z.2) (show (fX5_commit S P1 Q1 F1 Xf Wf) = ((fX5_failed (uI S 10 0 0 (0 : Int32)) (1 : Int32)).1, ((fX5_failed (uI S 10 0 0 (0 : Int32)) (1 : Int32)).2)) from by unfold fX5_commit; rw [if_neg c_1, if_pos c_2])) dX5_commit_33
    · skip
      refine lv_aload_n hx hb dX5_commit_21 rfl (lv_at hl 0 rfl) ?_
      refine k_callV (C := RX5) (n := 0) (rest := []) ⟨hx, hb, hml, hown, hts⟩ (cX5c_learn l G Z (uI S 10 0 0 (0 : Int32)) P1 h_P1 h_P1b Q1 h_Q1 h_Q1b (F1 - 1) (h_F1.trans (congrArg nI (Nat.sub_add_cancel (m_pos (by omega) c_1)).symm)) (by omega) (Xf 0) (h_Xf 0 (by decide)).1 (h_Xf 0 (by decide)).2 (Wf 0) (h_Wf 0 (by decide)).1 (h_Wf 0 (by decide)).2 (S.2.2 12 2 0) rfl) (cwV 0 hts gX5_commit_X5_learn rfl rfl rfl (by decide +kernel) ⟨Nat.le_of_ble_eq_true rfl, Nat.le_of_ble_eq_true rfl⟩) (k_recv hK hw kM_10 rfl rfl) hK hN hZ hA hw (Nat.zero_le _) (Nat.zero_le _) rfl hl.1 rfl (Nat.le_of_ble_eq_true rfl) dX5_commit_22 (fun H locs hw => ?_)
      refine W.eq (g2 := F0 m 25 ls [.int (bI ((fX5_learn (uI S 10 0 0 (0 : Int32)) P1 Q1 (F1 - 1) (Xf 0) (Wf 0) (S.2.2 12 2 0)).1))]) rfl ?_
      refine lv_goto (tgt := 33) hx hb dX5_commit_25 (by decide) ?_
      exact k_zret (r := (fX5_learn (uI S 10 0 0 (0 : Int32)) P1 Q1 (F1 - 1) (Xf 0) (Wf 0) (S.2.2 12 2 0)).1) hx hb hr hlocks hK hw (congrArg (fun z : Bool × uS => some (Value.int (bI (z.1)))) (show (fX5_commit S P1 Q1 F1 Xf Wf) = ((fX5_learn (uI S 10 0 0 (0 : Int32)) P1 Q1 (F1 - 1) (Xf 0) (Wf 0) (S.2.2 12 2 0)).1, ((fX5_learn (uI S 10 0 0 (0 : Int32)) P1 Q1 (F1 - 1) (Xf 0) (Wf 0) (S.2.2 12 2 0)).2)) from by unfold fX5_commit; rw [if_neg c_1, if_neg c_2])) (congrArg (a₁ := (fX5_commit S P1 Q1 F1 Xf Wf)) (a₂ := ((fX5_learn (uI S 10 0 0 (0 : Int32)) P1 Q1 (F1 - 1) (Xf 0) (Wf 0) (S.2.2 12 2 0)).1, ((fX5_learn (uI S 10 0 0 (0 : Int32)) P1 Q1 (F1 - 1) (Xf 0) (Wf 0) (S.2.2 12 2 0)).2))) (fun z : Bool × uS => z.2) (show (fX5_commit S P1 Q1 F1 Xf Wf) = ((fX5_learn (uI S 10 0 0 (0 : Int32)) P1 Q1 (F1 - 1) (Xf 0) (Wf 0) (S.2.2 12 2 0)).1, ((fX5_learn (uI S 10 0 0 (0 : Int32)) P1 Q1 (F1 - 1) (Xf 0) (Wf 0) (S.2.2 12 2 0)).2)) from by unfold fX5_commit; rw [if_neg c_1, if_neg c_2])) dX5_commit_33
theorem fX5_add_at (S : uS) (P Q H Y F X : Nat) : (fX5_add S P Q H Y F X).2.1 10 0 1 = S.1 10 0 1 ∧ (fX5_add S P Q H Y F X).2.1 10 0 2 = S.1 10 0 2 ∧ (fX5_add S P Q H Y F X).2.1 10 0 3 = S.1 10 0 3 ∧ (fX5_add S P Q H Y F X).2.1 10 0 7 = nI (F + 1) ∧ (fX5_add S P Q H Y F X).2.1 11 2 F = nI X ∧ (fX5_add S P Q H Y F X).2.1 11 3 F = nI Y := by
  unfold fX5_add
  repeat' split
  all_goals simp [uI, uF]
theorem fX5_settle_at (S : uS) (H W : Nat) (b : Bool) (h7 : S.1 10 0 7 = nI 1) : (fX5_settle S 1 H 0 W b).2.1 10 0 1 = S.1 10 0 1 ∧ (fX5_settle S 1 H 0 W b).2.1 10 0 2 = S.1 10 0 2 ∧ (fX5_settle S 1 H 0 W b).2.1 10 0 7 = nI 1 ∧ (fX5_settle S 1 H 0 W b).2.1 11 2 0 = S.1 11 2 0 ∧ (fX5_settle S 1 H 0 W b).2.1 11 3 0 = S.1 11 3 0 ∧ (fX5_settle S 1 H 0 W b).2.2.2 12 2 0 = b := by
  unfold fX5_settle
  split
  · simp [uF, h7]
  · simp [uI, uL, uF]
theorem m_zero {a : Nat} (ha : a < 2 ^ 31) (h : nI a ≤ 0) : a = 0 := by
  have h1 := (nI_leI ha (show 0 < 2 ^ 31 by decide)).mp h
  omega
def fX5_train (S : uS) (P1 : Nat) (Q1 : Nat) (H1 : Nat) (Y1 : Nat) (F1 : Nat) (x1 : Int32) (b1 : Bool) : Bool × uS :=
  if x1 < (0 : Int32) then ((fX5_failed (uI S 10 0 0 (0 : Int32)) (1 : Int32)).1, ((fX5_failed (uI S 10 0 0 (0 : Int32)) (1 : Int32)).2))
  else if x1 < (65536 : Int32) then if (nI F1) ≤ (0 : Int32) then (if ((fX5_learn ((fX5_settle ((fX5_add (uI S 10 0 0 (0 : Int32)) P1 Q1 H1 Y1 F1 (x1.toNatClampNeg)).2) 1 H1 0 Y1 b1).2) P1 Q1 0 (x1.toNatClampNeg) Y1 b1).1) = false then true else false, ((fX5_learn ((fX5_settle ((fX5_add (uI S 10 0 0 (0 : Int32)) P1 Q1 H1 Y1 F1 (x1.toNatClampNeg)).2) 1 H1 0 Y1 b1).2) P1 Q1 0 (x1.toNatClampNeg) Y1 b1).2))
      else ((fX5_failed (uI S 10 0 0 (0 : Int32)) (2 : Int32)).1, ((fX5_failed (uI S 10 0 0 (0 : Int32)) (2 : Int32)).2))
    else ((fX5_failed (uI S 10 0 0 (0 : Int32)) (1 : Int32)).1, ((fX5_failed (uI S 10 0 0 (0 : Int32)) (1 : Int32)).2))
abbrev rmX5_train : Room := { frames := 3, cells := 0, slots := 0, locals := 72 }
set_option maxHeartbeats 4000000 in
set_option maxRecDepth 100000 in
theorem cX5c_train (l : Launch) (G : gG) (Z : va_W) (S : uS) (P1 : Nat) (h_P1 : S.1 10 0 1 = nI P1) (h_P1b : P1 ≤ 8) (Q1 : Nat) (h_Q1 : S.1 10 0 2 = nI Q1) (h_Q1b : Q1 ≤ 8) (H1 : Nat) (h_H1 : S.1 10 0 3 = nI H1) (h_H1b : H1 ≤ 8) (Y1 : Nat) (h_Y1 : S.1 10 0 4 = nI Y1) (h_Y1b : Y1 < 256) (F1 : Nat) (h_F1 : S.1 10 0 7 = nI F1) (h_F1b : F1 ≤ 16) (x1 : Int32) (b1 : Bool) : kMet l yX5_train wsX5_train rmX5_train G kM Z S [.ref (G.2.2 (10, 0)), .int (x1), .int (bI (b1))] (some (.int (bI ((fX5_train S P1 Q1 H1 Y1 F1 x1 b1).1)))) ((fX5_train S P1 Q1 H1 Y1 F1 x1 b1).2) := by
  refine kMet_of (cc := cX5_train) (maxL := 3) (ret := (some .boolean)) (by decide) rfl (Nat.le_of_ble_eq_true rfl) ?_
  intro p e s m below meth c hx hb hr hml hlocks hts hown hK hN A hZ hA H locs hw ls hl
  have hl : lv_has ls 3 [(0, .ref (G.2.2 (10, 0))), (1, .int (x1)), (2, .int (bI (b1)))] := hl
  have hiX5 : ∀ w ∈ wsX50, w ∈ wsX5_train := by decide +kernel
  refine lv_aload_n hx hb dX5_train_0 rfl (lv_at hl 0 rfl) ?_
  refine lv_iconst (v := 0) hx hb dX5_train_1 (by decide) ?_
  refine p_10_0 (v := (0 : Int32)) hx hb hts hiX5 hown hK hw kM_10 (hts (.fieldLink RX5 58 "BranchPredictorModel" "thrown" "I") (by decide +kernel)) dX5_train_2 (fun H locs hw => ?_)
  refine lv_iload_n hx hb dX5_train_5 rfl (lv_at hl 1 rfl) ?_
  refine lv_if_lt (x := x1) (tgt := 15) hx hb dX5_train_6 (by decide) (fun c_1 => ?_) (fun c_1 => ?_)
  · skip
    refine lv_aload_n hx hb dX5_train_15 rfl (lv_at hl 0 rfl) ?_
    refine lv_iconst (v := 1) hx hb dX5_train_16 (by decide) ?_
    refine k_callV (C := RX5) (n := 1) (rest := []) ⟨hx, hb, hml, hown, hts⟩ (cX5c_failed l G Z (uI S 10 0 0 (0 : Int32)) (1 : Int32)) (cwV 1 hts gX5_train_X5_failed rfl rfl rfl (by decide +kernel) ⟨Nat.le_of_ble_eq_true rfl, Nat.le_of_ble_eq_true rfl⟩) (k_recv hK hw kM_10 rfl rfl) hK hN hZ hA hw (Nat.zero_le _) (Nat.zero_le _) rfl hl.1 rfl (Nat.le_of_ble_eq_true rfl) dX5_train_17 (fun H locs hw => ?_)
    refine W.eq (g2 := F0 m 20 ls [.int (bI ((fX5_failed (uI S 10 0 0 (0 : Int32)) (1 : Int32)).1))]) rfl ?_
    exact k_zret (r := (fX5_failed (uI S 10 0 0 (0 : Int32)) (1 : Int32)).1) hx hb hr hlocks hK hw (congrArg (fun z : Bool × uS => some (Value.int (bI (z.1)))) (show (fX5_train S P1 Q1 H1 Y1 F1 x1 b1) = ((fX5_failed (uI S 10 0 0 (0 : Int32)) (1 : Int32)).1, ((fX5_failed (uI S 10 0 0 (0 : Int32)) (1 : Int32)).2)) from by unfold fX5_train; rw [if_pos c_1])) (congrArg (a₁ := (fX5_train S P1 Q1 H1 Y1 F1 x1 b1)) (a₂ := ((fX5_failed (uI S 10 0 0 (0 : Int32)) (1 : Int32)).1, ((fX5_failed (uI S 10 0 0 (0 : Int32)) (1 : Int32)).2))) (fun z : Bool × uS => z.2) (show (fX5_train S P1 Q1 H1 Y1 F1 x1 b1) = ((fX5_failed (uI S 10 0 0 (0 : Int32)) (1 : Int32)).1, ((fX5_failed (uI S 10 0 0 (0 : Int32)) (1 : Int32)).2)) from by unfold fX5_train; rw [if_pos c_1])) dX5_train_20
  · skip
    refine lv_iload_n hx hb dX5_train_9 rfl (lv_at hl 1 rfl) ?_
    refine lv_ldc (v := 65536) hx hb hown (hts (.constant RX5 115 (65536)) (by decide +kernel)) dX5_train_10 ?_
    refine lv_icmp_lt (tgt := 21) hx hb dX5_train_12 (by decide) (fun c_2 => ?_) (fun c_2 => ?_)
    · skip
      refine lv_aload_n hx hb dX5_train_21 rfl (lv_at hl 0 rfl) ?_
      refine g_10_7 hx hb hts hiX5 hown hK hw kM_10 (hts (.fieldLink RX5 74 "BranchPredictorModel" "flying" "I") (by decide +kernel)) dX5_train_22 ?_
      refine k_topi (z := S.1 10 0 7) (by simp [uI, uL, uF]) ?_
      refine k_topi (z := nI F1) (h_F1) ?_
      refine lv_if_le (x := nI F1) (tgt := 34) hx hb dX5_train_25 (by decide) (fun c_3 => ?_) (fun c_3 => ?_)
      · skip
        refine lv_aload_n hx hb dX5_train_34 rfl (lv_at hl 0 rfl) ?_
        refine lv_iload_n hx hb dX5_train_35 rfl (lv_at hl 1 rfl) ?_
        refine k_topi (z := nI (x1.toNatClampNeg)) (i_nI c_1) ?_
        refine k_callV (C := RX5) (n := 1) (rest := []) ⟨hx, hb, hml, hown, hts⟩ (cX5c_add l G Z (uI S 10 0 0 (0 : Int32)) P1 h_P1 h_P1b Q1 h_Q1 h_Q1b H1 h_H1 h_H1b Y1 h_Y1 h_Y1b F1 h_F1 (by have h9 := (m_zero (by omega) c_3); omega) (x1.toNatClampNeg) (i_lt (n := 65536) c_1 c_2 (by decide))) (cwV 1 hts gX5_train_X5_add rfl rfl rfl (by decide +kernel) ⟨Nat.le_of_ble_eq_true rfl, Nat.le_of_ble_eq_true rfl⟩) (k_recv hK hw kM_10 rfl rfl) hK hN hZ hA hw (Nat.zero_le _) (Nat.zero_le _) rfl hl.1 rfl (Nat.le_of_ble_eq_true rfl) dX5_train_36 (fun H locs hw => ?_)
        refine W.eq (g2 := F0 m 39 ls [.int (bI ((fX5_add (uI S 10 0 0 (0 : Int32)) P1 Q1 H1 Y1 F1 (x1.toNatClampNeg)).1))]) rfl ?_
        refine lv_pop hx hb dX5_train_39 rfl ?_
        refine lv_aload_n hx hb dX5_train_40 rfl (lv_at hl 0 rfl) ?_
        refine lv_iconst (v := 0) hx hb dX5_train_41 (by decide) ?_
        refine lv_iload_n hx hb dX5_train_42 rfl (lv_at hl 2 rfl) ?_
        refine k_callV (C := RX5) (n := 2) (rest := []) ⟨hx, hb, hml, hown, hts⟩ (cX5c_settle l G Z ((fX5_add (uI S 10 0 0 (0 : Int32)) P1 Q1 H1 Y1 F1 (x1.toNatClampNeg)).2) 1 ((fX5_add_at (uI S 10 0 0 (0 : Int32)) P1 Q1 H1 Y1 F1 (x1.toNatClampNeg)).2.2.2.1.trans (by rw [(m_zero (by omega) c_3)])) (by decide) H1 ((fX5_add_at (uI S 10 0 0 (0 : Int32)) P1 Q1 H1 Y1 F1 (x1.toNatClampNeg)).2.2.1.trans h_H1) h_H1b 0 (by decide) Y1 (by have h9 := (fX5_add_at (uI S 10 0 0 (0 : Int32)) P1 Q1 H1 Y1 F1 (x1.toNatClampNeg)).2.2.2.2.2; rw [(m_zero (by omega) c_3)] at h9 ⊢; exact h9) h_Y1b b1) (cwV 2 hts gX5_train_X5_settle rfl rfl rfl (by decide +kernel) ⟨Nat.le_of_ble_eq_true rfl, Nat.le_of_ble_eq_true rfl⟩) (k_recv hK hw kM_10 rfl rfl) hK hN hZ hA hw (Nat.zero_le _) (Nat.zero_le _) rfl hl.1 rfl (Nat.le_of_ble_eq_true rfl) dX5_train_43 (fun H locs hw => ?_)
        refine W.eq (g2 := F0 m 46 ls [.int ((fX5_settle ((fX5_add (uI S 10 0 0 (0 : Int32)) P1 Q1 H1 Y1 F1 (x1.toNatClampNeg)).2) 1 H1 0 Y1 b1).1)]) rfl ?_
        refine lv_pop hx hb dX5_train_46 rfl ?_
        refine lv_aload_n hx hb dX5_train_47 rfl (lv_at hl 0 rfl) ?_
        refine k_callV (C := RX5) (n := 0) (rest := []) ⟨hx, hb, hml, hown, hts⟩ (cX5c_learn l G Z ((fX5_settle ((fX5_add (uI S 10 0 0 (0 : Int32)) P1 Q1 H1 Y1 F1 (x1.toNatClampNeg)).2) 1 H1 0 Y1 b1).2) P1 ((fX5_settle_at (fX5_add (uI S 10 0 0 (0 : Int32)) P1 Q1 H1 Y1 F1 (x1.toNatClampNeg)).2 H1 Y1 b1 ((fX5_add_at (uI S 10 0 0 (0 : Int32)) P1 Q1 H1 Y1 F1 (x1.toNatClampNeg)).2.2.2.1.trans (by rw [(m_zero (by omega) c_3)]))).1.trans ((fX5_add_at (uI S 10 0 0 (0 : Int32)) P1 Q1 H1 Y1 F1 (x1.toNatClampNeg)).1.trans h_P1)) h_P1b Q1 ((fX5_settle_at (fX5_add (uI S 10 0 0 (0 : Int32)) P1 Q1 H1 Y1 F1 (x1.toNatClampNeg)).2 H1 Y1 b1 ((fX5_add_at (uI S 10 0 0 (0 : Int32)) P1 Q1 H1 Y1 F1 (x1.toNatClampNeg)).2.2.2.1.trans (by rw [(m_zero (by omega) c_3)]))).2.1.trans ((fX5_add_at (uI S 10 0 0 (0 : Int32)) P1 Q1 H1 Y1 F1 (x1.toNatClampNeg)).2.1.trans h_Q1)) h_Q1b 0 (fX5_settle_at (fX5_add (uI S 10 0 0 (0 : Int32)) P1 Q1 H1 Y1 F1 (x1.toNatClampNeg)).2 H1 Y1 b1 ((fX5_add_at (uI S 10 0 0 (0 : Int32)) P1 Q1 H1 Y1 F1 (x1.toNatClampNeg)).2.2.2.1.trans (by rw [(m_zero (by omega) c_3)]))).2.2.1 (by decide) (x1.toNatClampNeg) ((fX5_settle_at (fX5_add (uI S 10 0 0 (0 : Int32)) P1 Q1 H1 Y1 F1 (x1.toNatClampNeg)).2 H1 Y1 b1 ((fX5_add_at (uI S 10 0 0 (0 : Int32)) P1 Q1 H1 Y1 F1 (x1.toNatClampNeg)).2.2.2.1.trans (by rw [(m_zero (by omega) c_3)]))).2.2.2.1.trans (by have h9 := (fX5_add_at (uI S 10 0 0 (0 : Int32)) P1 Q1 H1 Y1 F1 (x1.toNatClampNeg)).2.2.2.2.1; rw [(m_zero (by omega) c_3)] at h9 ⊢; exact h9)) (i_lt (n := 65536) c_1 c_2 (by decide)) Y1 ((fX5_settle_at (fX5_add (uI S 10 0 0 (0 : Int32)) P1 Q1 H1 Y1 F1 (x1.toNatClampNeg)).2 H1 Y1 b1 ((fX5_add_at (uI S 10 0 0 (0 : Int32)) P1 Q1 H1 Y1 F1 (x1.toNatClampNeg)).2.2.2.1.trans (by rw [(m_zero (by omega) c_3)]))).2.2.2.2.1.trans (by have h9 := (fX5_add_at (uI S 10 0 0 (0 : Int32)) P1 Q1 H1 Y1 F1 (x1.toNatClampNeg)).2.2.2.2.2; rw [(m_zero (by omega) c_3)] at h9 ⊢; exact h9)) h_Y1b b1 (fX5_settle_at (fX5_add (uI S 10 0 0 (0 : Int32)) P1 Q1 H1 Y1 F1 (x1.toNatClampNeg)).2 H1 Y1 b1 ((fX5_add_at (uI S 10 0 0 (0 : Int32)) P1 Q1 H1 Y1 F1 (x1.toNatClampNeg)).2.2.2.1.trans (by rw [(m_zero (by omega) c_3)]))).2.2.2.2.2) (cwV 0 hts gX5_train_X5_learn rfl rfl rfl (by decide +kernel) ⟨Nat.le_of_ble_eq_true rfl, Nat.le_of_ble_eq_true rfl⟩) (k_recv hK hw kM_10 rfl rfl) hK hN hZ hA hw (Nat.zero_le _) (Nat.zero_le _) rfl hl.1 rfl (Nat.le_of_ble_eq_true rfl) dX5_train_48 (fun H locs hw => ?_)
        refine W.eq (g2 := F0 m 51 ls [.int (bI ((fX5_learn ((fX5_settle ((fX5_add (uI S 10 0 0 (0 : Int32)) P1 Q1 H1 Y1 F1 (x1.toNatClampNeg)).2) 1 H1 0 Y1 b1).2) P1 Q1 0 (x1.toNatClampNeg) Y1 b1).1))]) rfl ?_
        refine k_join (P := fun x9 : Bool => W p l e rmX5_train s m [.ref (G.2.2 (10, 0)), .int (x1), .int (bI (b1))].toArray below meth c H locs 0 0 (MQ below (kQ G kM Z A (some (.int (bI ((fX5_train S P1 Q1 H1 Y1 F1 x1 b1).1)))) ((fX5_train S P1 Q1 H1 Y1 F1 x1 b1).2)) [.ref (G.2.2 (10, 0)), .int (x1), .int (bI (b1))].toArray s 0 0 A) (F0 m 59 ls [.int (bI (x9))])) (C := ((fX5_learn ((fX5_settle ((fX5_add (uI S 10 0 0 (0 : Int32)) P1 Q1 H1 Y1 F1 (x1.toNatClampNeg)).2) 1 H1 0 Y1 b1).2) P1 Q1 0 (x1.toNatClampNeg) Y1 b1).1) = false) (a := true) (b := false) ?_ (fun ka kb => ?_)
        rotate_left
        · refine k_if_ne (b := (fX5_learn ((fX5_settle ((fX5_add (uI S 10 0 0 (0 : Int32)) P1 Q1 H1 Y1 F1 (x1.toNatClampNeg)).2) 1 H1 0 Y1 b1).2) P1 Q1 0 (x1.toNatClampNeg) Y1 b1).1) (tgt := 58) hx hb dX5_train_51 (by decide) (fun c_4 => ?_) (fun c_4 => ?_)
          · skip
            refine lv_iconst (v := 0) hx hb dX5_train_58 (by decide) ?_
            exact kb c_4
          · skip
            refine lv_iconst (v := 1) hx hb dX5_train_54 (by decide) ?_
            refine lv_goto (tgt := 59) hx hb dX5_train_55 (by decide) ?_
            exact ka c_4
        show W p l e rmX5_train s m [.ref (G.2.2 (10, 0)), .int (x1), .int (bI (b1))].toArray below meth c H locs 0 0 (MQ below (kQ G kM Z A (some (.int (bI ((fX5_train S P1 Q1 H1 Y1 F1 x1 b1).1)))) ((fX5_train S P1 Q1 H1 Y1 F1 x1 b1).2)) [.ref (G.2.2 (10, 0)), .int (x1), .int (bI (b1))].toArray s 0 0 A) (F0 m 59 ls [.int (bI (if ((fX5_learn ((fX5_settle ((fX5_add (uI S 10 0 0 (0 : Int32)) P1 Q1 H1 Y1 F1 (x1.toNatClampNeg)).2) 1 H1 0 Y1 b1).2) P1 Q1 0 (x1.toNatClampNeg) Y1 b1).1) = false then true else false))])
        exact k_zret (r := if ((fX5_learn ((fX5_settle ((fX5_add (uI S 10 0 0 (0 : Int32)) P1 Q1 H1 Y1 F1 (x1.toNatClampNeg)).2) 1 H1 0 Y1 b1).2) P1 Q1 0 (x1.toNatClampNeg) Y1 b1).1) = false then true else false) hx hb hr hlocks hK hw (congrArg (fun z : Bool × uS => some (Value.int (bI (z.1)))) (show (fX5_train S P1 Q1 H1 Y1 F1 x1 b1) = (if ((fX5_learn ((fX5_settle ((fX5_add (uI S 10 0 0 (0 : Int32)) P1 Q1 H1 Y1 F1 (x1.toNatClampNeg)).2) 1 H1 0 Y1 b1).2) P1 Q1 0 (x1.toNatClampNeg) Y1 b1).1) = false then true else false, ((fX5_learn ((fX5_settle ((fX5_add (uI S 10 0 0 (0 : Int32)) P1 Q1 H1 Y1 F1 (x1.toNatClampNeg)).2) 1 H1 0 Y1 b1).2) P1 Q1 0 (x1.toNatClampNeg) Y1 b1).2)) from by unfold fX5_train; rw [if_neg c_1, if_pos c_2, if_pos c_3])) (congrArg (a₁ := (fX5_train S P1 Q1 H1 Y1 F1 x1 b1)) (a₂ := (if ((fX5_learn ((fX5_settle ((fX5_add (uI S 10 0 0 (0 : Int32)) P1 Q1 H1 Y1 F1 (x1.toNatClampNeg)).2) 1 H1 0 Y1 b1).2) P1 Q1 0 (x1.toNatClampNeg) Y1 b1).1) = false then true else false, ((fX5_learn ((fX5_settle ((fX5_add (uI S 10 0 0 (0 : Int32)) P1 Q1 H1 Y1 F1 (x1.toNatClampNeg)).2) 1 H1 0 Y1 b1).2) P1 Q1 0 (x1.toNatClampNeg) Y1 b1).2))) (fun z : Bool × uS => z.2) (show (fX5_train S P1 Q1 H1 Y1 F1 x1 b1) = (if ((fX5_learn ((fX5_settle ((fX5_add (uI S 10 0 0 (0 : Int32)) P1 Q1 H1 Y1 F1 (x1.toNatClampNeg)).2) 1 H1 0 Y1 b1).2) P1 Q1 0 (x1.toNatClampNeg) Y1 b1).1) = false then true else false, ((fX5_learn ((fX5_settle ((fX5_add (uI S 10 0 0 (0 : Int32)) P1 Q1 H1 Y1 F1 (x1.toNatClampNeg)).2) 1 H1 0 Y1 b1).2) P1 Q1 0 (x1.toNatClampNeg) Y1 b1).2)) from by unfold fX5_train; rw [if_neg c_1, if_pos c_2, if_pos c_3])) dX5_train_59
      · skip
        refine lv_aload_n hx hb dX5_train_28 rfl (lv_at hl 0 rfl) ?_
        refine lv_iconst (v := 2) hx hb dX5_train_29 (by decide) ?_
        refine k_callV (C := RX5) (n := 1) (rest := []) ⟨hx, hb, hml, hown, hts⟩ (cX5c_failed l G Z (uI S 10 0 0 (0 : Int32)) (2 : Int32)) (cwV 1 hts gX5_train_X5_failed rfl rfl rfl (by decide +kernel) ⟨Nat.le_of_ble_eq_true rfl, Nat.le_of_ble_eq_true rfl⟩) (k_recv hK hw kM_10 rfl rfl) hK hN hZ hA hw (Nat.zero_le _) (Nat.zero_le _) rfl hl.1 rfl (Nat.le_of_ble_eq_true rfl) dX5_train_30 (fun H locs hw => ?_)
        refine W.eq (g2 := F0 m 33 ls [.int (bI ((fX5_failed (uI S 10 0 0 (0 : Int32)) (2 : Int32)).1))]) rfl ?_
        exact k_zret (r := (fX5_failed (uI S 10 0 0 (0 : Int32)) (2 : Int32)).1) hx hb hr hlocks hK hw (congrArg (fun z : Bool × uS => some (Value.int (bI (z.1)))) (show (fX5_train S P1 Q1 H1 Y1 F1 x1 b1) = ((fX5_failed (uI S 10 0 0 (0 : Int32)) (2 : Int32)).1, ((fX5_failed (uI S 10 0 0 (0 : Int32)) (2 : Int32)).2)) from by unfold fX5_train; rw [if_neg c_1, if_pos c_2, if_neg c_3])) (congrArg (a₁ := (fX5_train S P1 Q1 H1 Y1 F1 x1 b1)) (a₂ := ((fX5_failed (uI S 10 0 0 (0 : Int32)) (2 : Int32)).1, ((fX5_failed (uI S 10 0 0 (0 : Int32)) (2 : Int32)).2))) (fun z : Bool × uS => z.2) (show (fX5_train S P1 Q1 H1 Y1 F1 x1 b1) = ((fX5_failed (uI S 10 0 0 (0 : Int32)) (2 : Int32)).1, ((fX5_failed (uI S 10 0 0 (0 : Int32)) (2 : Int32)).2)) from by unfold fX5_train; rw [if_neg c_1, if_pos c_2, if_neg c_3])) dX5_train_33
    · skip
      refine lv_aload_n hx hb dX5_train_15 rfl (lv_at hl 0 rfl) ?_
      refine lv_iconst (v := 1) hx hb dX5_train_16 (by decide) ?_
      refine k_callV (C := RX5) (n := 1) (rest := []) ⟨hx, hb, hml, hown, hts⟩ (cX5c_failed l G Z (uI S 10 0 0 (0 : Int32)) (1 : Int32)) (cwV 1 hts gX5_train_X5_failed rfl rfl rfl (by decide +kernel) ⟨Nat.le_of_ble_eq_true rfl, Nat.le_of_ble_eq_true rfl⟩) (k_recv hK hw kM_10 rfl rfl) hK hN hZ hA hw (Nat.zero_le _) (Nat.zero_le _) rfl hl.1 rfl (Nat.le_of_ble_eq_true rfl) dX5_train_17 (fun H locs hw => ?_)
      refine W.eq (g2 := F0 m 20 ls [.int (bI ((fX5_failed (uI S 10 0 0 (0 : Int32)) (1 : Int32)).1))]) rfl ?_
      exact k_zret (r := (fX5_failed (uI S 10 0 0 (0 : Int32)) (1 : Int32)).1) hx hb hr hlocks hK hw (congrArg (fun z : Bool × uS => some (Value.int (bI (z.1)))) (show (fX5_train S P1 Q1 H1 Y1 F1 x1 b1) = ((fX5_failed (uI S 10 0 0 (0 : Int32)) (1 : Int32)).1, ((fX5_failed (uI S 10 0 0 (0 : Int32)) (1 : Int32)).2)) from by unfold fX5_train; rw [if_neg c_1, if_neg c_2])) (congrArg (a₁ := (fX5_train S P1 Q1 H1 Y1 F1 x1 b1)) (a₂ := ((fX5_failed (uI S 10 0 0 (0 : Int32)) (1 : Int32)).1, ((fX5_failed (uI S 10 0 0 (0 : Int32)) (1 : Int32)).2))) (fun z : Bool × uS => z.2) (show (fX5_train S P1 Q1 H1 Y1 F1 x1 b1) = ((fX5_failed (uI S 10 0 0 (0 : Int32)) (1 : Int32)).1, ((fX5_failed (uI S 10 0 0 (0 : Int32)) (1 : Int32)).2)) from by unfold fX5_train; rw [if_neg c_1, if_neg c_2])) dX5_train_20
theorem i_pos {x : Int32} (h0 : ¬ x < 0) (h : ¬ x ≤ 0) : 0 < x.toNatClampNeg := by
  obtain ⟨j, h1, h2⟩ := nI_of h0
  rw [h2] at h ⊢
  rw [nI_clamp h1]
  exact m_pos h1 h
def fX5_flush (S : uS) (F1 : Nat) (x1 : Int32) : Int32 × uS :=
  if x1 < (0 : Int32) then ((fX5_fail (uI S 10 0 0 (0 : Int32)) (1 : Int32)).1, ((fX5_fail (uI S 10 0 0 (0 : Int32)) (1 : Int32)).2))
  else if x1 ≤ (nI F1) then if x1 ≤ (0 : Int32) then (nI (F1 - x1.toNatClampNeg), (uL (uI (uI S 10 0 0 (0 : Int32)) 10 0 7 (nI (F1 - x1.toNatClampNeg))) 10 0 19 ((S.2.1 10 0 19) + ((x1).toInt64))))
      else (nI (F1 - x1.toNatClampNeg), (uI (uL (uI (uI S 10 0 0 (0 : Int32)) 10 0 7 (nI (F1 - x1.toNatClampNeg))) 10 0 19 ((S.2.1 10 0 19) + ((x1).toInt64))) 10 0 4 (S.1 11 3 (F1 - x1.toNatClampNeg))))
    else ((fX5_fail (uI S 10 0 0 (0 : Int32)) (1 : Int32)).1, ((fX5_fail (uI S 10 0 0 (0 : Int32)) (1 : Int32)).2))
abbrev rmX5_flush : Room := { frames := 1, cells := 0, slots := 0, locals := 21 }
set_option maxHeartbeats 4000000 in
set_option maxRecDepth 100000 in
theorem cX5c_flush (l : Launch) (G : gG) (Z : va_W) (S : uS) (F1 : Nat) (h_F1 : S.1 10 0 7 = nI F1) (h_F1b : F1 ≤ 16) (x1 : Int32) : kMet l yX5_flush wsX5_flush rmX5_flush G kM Z S [.ref (G.2.2 (10, 0)), .int (x1)] (some (.int ((fX5_flush S F1 x1).1))) ((fX5_flush S F1 x1).2) := by
  refine kMet_of (cc := cX5_flush) (maxL := 2) (ret := (some .int)) (by decide) rfl (Nat.le_of_ble_eq_true rfl) ?_
  intro p e s m below meth c hx hb hr hml hlocks hts hown hK hN A hZ hA H locs hw ls hl
  have hl : lv_has ls 2 [(0, .ref (G.2.2 (10, 0))), (1, .int (x1))] := hl
  have hiX5 : ∀ w ∈ wsX50, w ∈ wsX5_flush := by decide +kernel
  refine lv_aload_n hx hb dX5_flush_0 rfl (lv_at hl 0 rfl) ?_
  refine lv_iconst (v := 0) hx hb dX5_flush_1 (by decide) ?_
  refine p_10_0 (v := (0 : Int32)) hx hb hts hiX5 hown hK hw kM_10 (hts (.fieldLink RX5 58 "BranchPredictorModel" "thrown" "I") (by decide +kernel)) dX5_flush_2 (fun H locs hw => ?_)
  refine lv_iload_n hx hb dX5_flush_5 rfl (lv_at hl 1 rfl) ?_
  refine lv_if_lt (x := x1) (tgt := 17) hx hb dX5_flush_6 (by decide) (fun c_1 => ?_) (fun c_1 => ?_)
  · skip
    refine lv_aload_n hx hb dX5_flush_17 rfl (lv_at hl 0 rfl) ?_
    refine lv_iconst (v := 1) hx hb dX5_flush_18 (by decide) ?_
    refine k_callV (C := RX5) (n := 1) (rest := []) ⟨hx, hb, hml, hown, hts⟩ (cX5c_fail l G Z (uI S 10 0 0 (0 : Int32)) (1 : Int32)) (cwV 1 hts gX5_flush_X5_fail rfl rfl rfl (by decide +kernel) ⟨Nat.le_of_ble_eq_true rfl, Nat.le_of_ble_eq_true rfl⟩) (k_recv hK hw kM_10 rfl rfl) hK hN hZ hA hw (Nat.zero_le _) (Nat.zero_le _) rfl hl.1 rfl (Nat.le_of_ble_eq_true rfl) dX5_flush_19 (fun H locs hw => ?_)
    refine W.eq (g2 := F0 m 22 ls [.int ((fX5_fail (uI S 10 0 0 (0 : Int32)) (1 : Int32)).1)]) rfl ?_
    exact k_iret hx hb hr hlocks hK hw (congrArg (fun z : Int32 × uS => some (Value.int (z.1))) (show (fX5_flush S F1 x1) = ((fX5_fail (uI S 10 0 0 (0 : Int32)) (1 : Int32)).1, ((fX5_fail (uI S 10 0 0 (0 : Int32)) (1 : Int32)).2)) from by unfold fX5_flush; rw [if_pos c_1])) (congrArg (a₁ := (fX5_flush S F1 x1)) (a₂ := ((fX5_fail (uI S 10 0 0 (0 : Int32)) (1 : Int32)).1, ((fX5_fail (uI S 10 0 0 (0 : Int32)) (1 : Int32)).2))) (fun z : Int32 × uS => z.2) (show (fX5_flush S F1 x1) = ((fX5_fail (uI S 10 0 0 (0 : Int32)) (1 : Int32)).1, ((fX5_fail (uI S 10 0 0 (0 : Int32)) (1 : Int32)).2)) from by unfold fX5_flush; rw [if_pos c_1])) dX5_flush_22
  · skip
    refine lv_iload_n hx hb dX5_flush_9 rfl (lv_at hl 1 rfl) ?_
    refine lv_aload_n hx hb dX5_flush_10 rfl (lv_at hl 0 rfl) ?_
    refine g_10_7 hx hb hts hiX5 hown hK hw kM_10 (hts (.fieldLink RX5 74 "BranchPredictorModel" "flying" "I") (by decide +kernel)) dX5_flush_11 ?_
    refine k_topi (z := S.1 10 0 7) (by simp [uI, uL, uF]) ?_
    refine k_topi (z := nI F1) (h_F1) ?_
    refine lv_icmp_le (tgt := 23) hx hb dX5_flush_14 (by decide) (fun c_2 => ?_) (fun c_2 => ?_)
    · skip
      refine lv_aload_n hx hb dX5_flush_23 rfl (lv_at hl 0 rfl) ?_
      refine lv_dup hx hb dX5_flush_24 rfl ?_
      refine g_10_7 hx hb hts hiX5 hown hK hw kM_10 (hts (.fieldLink RX5 74 "BranchPredictorModel" "flying" "I") (by decide +kernel)) dX5_flush_25 ?_
      refine k_topi (z := S.1 10 0 7) (by simp [uI, uL, uF]) ?_
      refine k_topi (z := nI F1) (h_F1) ?_
      refine lv_iload_n hx hb dX5_flush_28 rfl (lv_at hl 1 rfl) ?_
      refine lv_isub hx hb dX5_flush_29 ?_
      have h_j := i_le (n := F1) c_1 c_2 (by omega)
      refine k_topi (z := nI (F1 - x1.toNatClampNeg)) ((by rw [← pk_sub (i_le (n := F1) c_1 c_2 (by omega)), ← i_nI c_1])) ?_
      refine p_10_7 (v := nI (F1 - x1.toNatClampNeg)) hx hb hts hiX5 hown hK hw kM_10 (hts (.fieldLink RX5 74 "BranchPredictorModel" "flying" "I") (by decide +kernel)) dX5_flush_30 (fun H locs hw => ?_)
      refine lv_aload_n hx hb dX5_flush_33 rfl (lv_at hl 0 rfl) ?_
      refine lv_dup hx hb dX5_flush_34 rfl ?_
      refine g_10_19 hx hb hts hiX5 hown hK hw kM_10 (hts (.fieldLink RX5 81 "BranchPredictorModel" "drops" "J") (by decide +kernel)) dX5_flush_35 ?_
      refine k_topl (z := S.2.1 10 0 19) (by simp [uI, uL, uF]) ?_
      refine lv_iload_n hx hb dX5_flush_38 rfl (lv_at hl 1 rfl) ?_
      refine lv_i2l (v := (x1).toInt64) hx hb dX5_flush_39 rfl ?_
      refine lv_ladd hx hb dX5_flush_40 ?_
      refine p_10_19 (v := (S.2.1 10 0 19) + ((x1).toInt64)) hx hb hts hiX5 hown hK hw kM_10 (hts (.fieldLink RX5 81 "BranchPredictorModel" "drops" "J") (by decide +kernel)) dX5_flush_41 (fun H locs hw => ?_)
      refine lv_iload_n hx hb dX5_flush_44 rfl (lv_at hl 1 rfl) ?_
      refine lv_if_le (x := x1) (tgt := 61) hx hb dX5_flush_45 (by decide) (fun c_3 => ?_) (fun c_3 => ?_)
      · skip
        refine lv_aload_n hx hb dX5_flush_61 rfl (lv_at hl 0 rfl) ?_
        refine g_10_7 hx hb hts hiX5 hown hK hw kM_10 (hts (.fieldLink RX5 74 "BranchPredictorModel" "flying" "I") (by decide +kernel)) dX5_flush_62 ?_
        refine k_topi (z := nI (F1 - x1.toNatClampNeg)) (by simp [uI, uL, uF]) ?_
        exact k_iret hx hb hr hlocks hK hw (congrArg (fun z : Int32 × uS => some (Value.int (z.1))) (show (fX5_flush S F1 x1) = (nI (F1 - x1.toNatClampNeg), (uL (uI (uI S 10 0 0 (0 : Int32)) 10 0 7 (nI (F1 - x1.toNatClampNeg))) 10 0 19 ((S.2.1 10 0 19) + ((x1).toInt64)))) from by unfold fX5_flush; rw [if_neg c_1, if_pos c_2, if_pos c_3])) (congrArg (a₁ := (fX5_flush S F1 x1)) (a₂ := (nI (F1 - x1.toNatClampNeg), (uL (uI (uI S 10 0 0 (0 : Int32)) 10 0 7 (nI (F1 - x1.toNatClampNeg))) 10 0 19 ((S.2.1 10 0 19) + ((x1).toInt64))))) (fun z : Int32 × uS => z.2) (show (fX5_flush S F1 x1) = (nI (F1 - x1.toNatClampNeg), (uL (uI (uI S 10 0 0 (0 : Int32)) 10 0 7 (nI (F1 - x1.toNatClampNeg))) 10 0 19 ((S.2.1 10 0 19) + ((x1).toInt64)))) from by unfold fX5_flush; rw [if_neg c_1, if_pos c_2, if_pos c_3])) dX5_flush_65
      · skip
        refine lv_aload_n hx hb dX5_flush_48 rfl (lv_at hl 0 rfl) ?_
        refine lv_aload_n hx hb dX5_flush_49 rfl (lv_at hl 0 rfl) ?_
        refine g_10_9 hx hb hts hiX5 hown hK hw kM_10 (hts (.fieldLink RX5 19 "BranchPredictorModel" "histories" "[I") (by decide +kernel)) dX5_flush_50 ?_
        refine lv_aload_n hx hb dX5_flush_53 rfl (lv_at hl 0 rfl) ?_
        refine g_10_7 hx hb hts hiX5 hown hK hw kM_10 (hts (.fieldLink RX5 74 "BranchPredictorModel" "flying" "I") (by decide +kernel)) dX5_flush_54 ?_
        refine k_topi (z := nI (F1 - x1.toNatClampNeg)) (by simp [uI, uL, uF]) ?_
        have h_p := i_pos c_1 c_3
        refine k_topi (z := nI (F1 - x1.toNatClampNeg)) (rfl) ?_
        refine ld_11_3 hx hb hK hw kM_11_3 (vp_in_nI (by first | omega | (split <;> omega)) (by decide)) dX5_flush_57 ?_
        refine k_topi (z := (uL (uI (uI S 10 0 0 (0 : Int32)) 10 0 7 (nI (F1 - x1.toNatClampNeg))) 10 0 19 ((S.2.1 10 0 19) + ((x1).toInt64))).1 11 3 (F1 - x1.toNatClampNeg)) (by rw [nI_clamp (show F1 - x1.toNatClampNeg < 2 ^ 31 from by first | omega | (split <;> omega))]) ?_
        refine k_topi (z := S.1 11 3 (F1 - x1.toNatClampNeg)) (by simp [uI, uL, uF]) ?_
        refine p_10_4 (v := S.1 11 3 (F1 - x1.toNatClampNeg)) hx hb hts hiX5 hown hK hw kM_10 (hts (.fieldLink RX5 71 "BranchPredictorModel" "history" "I") (by decide +kernel)) dX5_flush_58 (fun H locs hw => ?_)
        refine lv_aload_n hx hb dX5_flush_61 rfl (lv_at hl 0 rfl) ?_
        refine g_10_7 hx hb hts hiX5 hown hK hw kM_10 (hts (.fieldLink RX5 74 "BranchPredictorModel" "flying" "I") (by decide +kernel)) dX5_flush_62 ?_
        refine k_topi (z := nI (F1 - x1.toNatClampNeg)) (by simp [uI, uL, uF]) ?_
        exact k_iret hx hb hr hlocks hK hw (congrArg (fun z : Int32 × uS => some (Value.int (z.1))) (show (fX5_flush S F1 x1) = (nI (F1 - x1.toNatClampNeg), (uI (uL (uI (uI S 10 0 0 (0 : Int32)) 10 0 7 (nI (F1 - x1.toNatClampNeg))) 10 0 19 ((S.2.1 10 0 19) + ((x1).toInt64))) 10 0 4 (S.1 11 3 (F1 - x1.toNatClampNeg)))) from by unfold fX5_flush; rw [if_neg c_1, if_pos c_2, if_neg c_3])) (congrArg (a₁ := (fX5_flush S F1 x1)) (a₂ := (nI (F1 - x1.toNatClampNeg), (uI (uL (uI (uI S 10 0 0 (0 : Int32)) 10 0 7 (nI (F1 - x1.toNatClampNeg))) 10 0 19 ((S.2.1 10 0 19) + ((x1).toInt64))) 10 0 4 (S.1 11 3 (F1 - x1.toNatClampNeg))))) (fun z : Int32 × uS => z.2) (show (fX5_flush S F1 x1) = (nI (F1 - x1.toNatClampNeg), (uI (uL (uI (uI S 10 0 0 (0 : Int32)) 10 0 7 (nI (F1 - x1.toNatClampNeg))) 10 0 19 ((S.2.1 10 0 19) + ((x1).toInt64))) 10 0 4 (S.1 11 3 (F1 - x1.toNatClampNeg)))) from by unfold fX5_flush; rw [if_neg c_1, if_pos c_2, if_neg c_3])) dX5_flush_65
    · skip
      refine lv_aload_n hx hb dX5_flush_17 rfl (lv_at hl 0 rfl) ?_
      refine lv_iconst (v := 1) hx hb dX5_flush_18 (by decide) ?_
      refine k_callV (C := RX5) (n := 1) (rest := []) ⟨hx, hb, hml, hown, hts⟩ (cX5c_fail l G Z (uI S 10 0 0 (0 : Int32)) (1 : Int32)) (cwV 1 hts gX5_flush_X5_fail rfl rfl rfl (by decide +kernel) ⟨Nat.le_of_ble_eq_true rfl, Nat.le_of_ble_eq_true rfl⟩) (k_recv hK hw kM_10 rfl rfl) hK hN hZ hA hw (Nat.zero_le _) (Nat.zero_le _) rfl hl.1 rfl (Nat.le_of_ble_eq_true rfl) dX5_flush_19 (fun H locs hw => ?_)
      refine W.eq (g2 := F0 m 22 ls [.int ((fX5_fail (uI S 10 0 0 (0 : Int32)) (1 : Int32)).1)]) rfl ?_
      exact k_iret hx hb hr hlocks hK hw (congrArg (fun z : Int32 × uS => some (Value.int (z.1))) (show (fX5_flush S F1 x1) = ((fX5_fail (uI S 10 0 0 (0 : Int32)) (1 : Int32)).1, ((fX5_fail (uI S 10 0 0 (0 : Int32)) (1 : Int32)).2)) from by unfold fX5_flush; rw [if_neg c_1, if_neg c_2])) (congrArg (a₁ := (fX5_flush S F1 x1)) (a₂ := ((fX5_fail (uI S 10 0 0 (0 : Int32)) (1 : Int32)).1, ((fX5_fail (uI S 10 0 0 (0 : Int32)) (1 : Int32)).2))) (fun z : Int32 × uS => z.2) (show (fX5_flush S F1 x1) = ((fX5_fail (uI S 10 0 0 (0 : Int32)) (1 : Int32)).1, ((fX5_fail (uI S 10 0 0 (0 : Int32)) (1 : Int32)).2)) from by unfold fX5_flush; rw [if_neg c_1, if_neg c_2])) dX5_flush_22
def fX5_inFlight (S : uS)  : Int32 × uS :=
  (S.1 10 0 7, (uI S 10 0 0 (0 : Int32)))
abbrev rmX5_inFlight : Room := { frames := 0, cells := 0, slots := 0, locals := 0 }
set_option maxHeartbeats 4000000 in
set_option maxRecDepth 100000 in
theorem cX5c_inFlight (l : Launch) (G : gG) (Z : va_W) (S : uS)  : kMet l yX5_inFlight wsX5_inFlight rmX5_inFlight G kM Z S [.ref (G.2.2 (10, 0))] (some (.int ((fX5_inFlight S).1))) ((fX5_inFlight S).2) := by
  refine kMet_of (cc := cX5_inFlight) (maxL := 1) (ret := (some .int)) (by decide) rfl (Nat.le_of_ble_eq_true rfl) ?_
  intro p e s m below meth c hx hb hr hml hlocks hts hown hK hN A hZ hA H locs hw ls hl
  have hl : lv_has ls 1 [(0, .ref (G.2.2 (10, 0)))] := hl
  have hiX5 : ∀ w ∈ wsX50, w ∈ wsX5_inFlight := by decide +kernel
  refine lv_aload_n hx hb dX5_inFlight_0 rfl (lv_at hl 0 rfl) ?_
  refine lv_iconst (v := 0) hx hb dX5_inFlight_1 (by decide) ?_
  refine p_10_0 (v := (0 : Int32)) hx hb hts hiX5 hown hK hw kM_10 (hts (.fieldLink RX5 58 "BranchPredictorModel" "thrown" "I") (by decide +kernel)) dX5_inFlight_2 (fun H locs hw => ?_)
  refine lv_aload_n hx hb dX5_inFlight_5 rfl (lv_at hl 0 rfl) ?_
  refine g_10_7 hx hb hts hiX5 hown hK hw kM_10 (hts (.fieldLink RX5 74 "BranchPredictorModel" "flying" "I") (by decide +kernel)) dX5_inFlight_6 ?_
  refine k_topi (z := S.1 10 0 7) (by simp [uI, uL, uF]) ?_
  exact k_iret hx hb hr hlocks hK hw (congrArg (fun z : Int32 × uS => some (Value.int (z.1))) (show (fX5_inFlight S) = (S.1 10 0 7, (uI S 10 0 0 (0 : Int32))) from by unfold fX5_inFlight; rfl)) (congrArg (a₁ := (fX5_inFlight S)) (a₂ := (S.1 10 0 7, (uI S 10 0 0 (0 : Int32)))) (fun z : Int32 × uS => z.2) (show (fX5_inFlight S) = (S.1 10 0 7, (uI S 10 0 0 (0 : Int32))) from by unfold fX5_inFlight; rfl)) dX5_inFlight_9
def fX5_history (S : uS)  : Int32 × uS :=
  (S.1 10 0 4, (uI S 10 0 0 (0 : Int32)))
abbrev rmX5_history : Room := { frames := 0, cells := 0, slots := 0, locals := 0 }
set_option maxHeartbeats 4000000 in
set_option maxRecDepth 100000 in
theorem cX5c_history (l : Launch) (G : gG) (Z : va_W) (S : uS)  : kMet l yX5_history wsX5_history rmX5_history G kM Z S [.ref (G.2.2 (10, 0))] (some (.int ((fX5_history S).1))) ((fX5_history S).2) := by
  refine kMet_of (cc := cX5_history) (maxL := 1) (ret := (some .int)) (by decide) rfl (Nat.le_of_ble_eq_true rfl) ?_
  intro p e s m below meth c hx hb hr hml hlocks hts hown hK hN A hZ hA H locs hw ls hl
  have hl : lv_has ls 1 [(0, .ref (G.2.2 (10, 0)))] := hl
  have hiX5 : ∀ w ∈ wsX50, w ∈ wsX5_history := by decide +kernel
  refine lv_aload_n hx hb dX5_history_0 rfl (lv_at hl 0 rfl) ?_
  refine lv_iconst (v := 0) hx hb dX5_history_1 (by decide) ?_
  refine p_10_0 (v := (0 : Int32)) hx hb hts hiX5 hown hK hw kM_10 (hts (.fieldLink RX5 58 "BranchPredictorModel" "thrown" "I") (by decide +kernel)) dX5_history_2 (fun H locs hw => ?_)
  refine lv_aload_n hx hb dX5_history_5 rfl (lv_at hl 0 rfl) ?_
  refine g_10_4 hx hb hts hiX5 hown hK hw kM_10 (hts (.fieldLink RX5 71 "BranchPredictorModel" "history" "I") (by decide +kernel)) dX5_history_6 ?_
  refine k_topi (z := S.1 10 0 4) (by simp [uI, uL, uF]) ?_
  exact k_iret hx hb hr hlocks hK hw (congrArg (fun z : Int32 × uS => some (Value.int (z.1))) (show (fX5_history S) = (S.1 10 0 4, (uI S 10 0 0 (0 : Int32))) from by unfold fX5_history; rfl)) (congrArg (a₁ := (fX5_history S)) (a₂ := (S.1 10 0 4, (uI S 10 0 0 (0 : Int32)))) (fun z : Int32 × uS => z.2) (show (fX5_history S) = (S.1 10 0 4, (uI S 10 0 0 (0 : Int32))) from by unfold fX5_history; rfl)) dX5_history_9
def fX5_commits (S : uS)  : Int64 × uS :=
  (S.2.1 10 0 18, (uI S 10 0 0 (0 : Int32)))
abbrev rmX5_commits : Room := { frames := 0, cells := 0, slots := 0, locals := 0 }
set_option maxHeartbeats 4000000 in
set_option maxRecDepth 100000 in
theorem cX5c_commits (l : Launch) (G : gG) (Z : va_W) (S : uS)  : kMet l yX5_commits wsX5_commits rmX5_commits G kM Z S [.ref (G.2.2 (10, 0))] (some (.long ((fX5_commits S).1))) ((fX5_commits S).2) := by
  refine kMet_of (cc := cX5_commits) (maxL := 1) (ret := (some .long)) (by decide) rfl (Nat.le_of_ble_eq_true rfl) ?_
  intro p e s m below meth c hx hb hr hml hlocks hts hown hK hN A hZ hA H locs hw ls hl
  have hl : lv_has ls 1 [(0, .ref (G.2.2 (10, 0)))] := hl
  have hiX5 : ∀ w ∈ wsX50, w ∈ wsX5_commits := by decide +kernel
  refine lv_aload_n hx hb dX5_commits_0 rfl (lv_at hl 0 rfl) ?_
  refine lv_iconst (v := 0) hx hb dX5_commits_1 (by decide) ?_
  refine p_10_0 (v := (0 : Int32)) hx hb hts hiX5 hown hK hw kM_10 (hts (.fieldLink RX5 58 "BranchPredictorModel" "thrown" "I") (by decide +kernel)) dX5_commits_2 (fun H locs hw => ?_)
  refine lv_aload_n hx hb dX5_commits_5 rfl (lv_at hl 0 rfl) ?_
  refine g_10_18 hx hb hts hiX5 hown hK hw kM_10 (hts (.fieldLink RX5 77 "BranchPredictorModel" "commits" "J") (by decide +kernel)) dX5_commits_6 ?_
  refine k_topl (z := S.2.1 10 0 18) (by simp [uI, uL, uF]) ?_
  exact k_lret hx hb hr hlocks hK hw (congrArg (fun z : Int64 × uS => some (Value.long (z.1))) (show (fX5_commits S) = (S.2.1 10 0 18, (uI S 10 0 0 (0 : Int32))) from by unfold fX5_commits; rfl)) (congrArg (a₁ := (fX5_commits S)) (a₂ := (S.2.1 10 0 18, (uI S 10 0 0 (0 : Int32)))) (fun z : Int64 × uS => z.2) (show (fX5_commits S) = (S.2.1 10 0 18, (uI S 10 0 0 (0 : Int32))) from by unfold fX5_commits; rfl)) dX5_commits_9
def fX5_drops (S : uS)  : Int64 × uS :=
  (S.2.1 10 0 19, (uI S 10 0 0 (0 : Int32)))
abbrev rmX5_drops : Room := { frames := 0, cells := 0, slots := 0, locals := 0 }
set_option maxHeartbeats 4000000 in
set_option maxRecDepth 100000 in
theorem cX5c_drops (l : Launch) (G : gG) (Z : va_W) (S : uS)  : kMet l yX5_drops wsX5_drops rmX5_drops G kM Z S [.ref (G.2.2 (10, 0))] (some (.long ((fX5_drops S).1))) ((fX5_drops S).2) := by
  refine kMet_of (cc := cX5_drops) (maxL := 1) (ret := (some .long)) (by decide) rfl (Nat.le_of_ble_eq_true rfl) ?_
  intro p e s m below meth c hx hb hr hml hlocks hts hown hK hN A hZ hA H locs hw ls hl
  have hl : lv_has ls 1 [(0, .ref (G.2.2 (10, 0)))] := hl
  have hiX5 : ∀ w ∈ wsX50, w ∈ wsX5_drops := by decide +kernel
  refine lv_aload_n hx hb dX5_drops_0 rfl (lv_at hl 0 rfl) ?_
  refine lv_iconst (v := 0) hx hb dX5_drops_1 (by decide) ?_
  refine p_10_0 (v := (0 : Int32)) hx hb hts hiX5 hown hK hw kM_10 (hts (.fieldLink RX5 58 "BranchPredictorModel" "thrown" "I") (by decide +kernel)) dX5_drops_2 (fun H locs hw => ?_)
  refine lv_aload_n hx hb dX5_drops_5 rfl (lv_at hl 0 rfl) ?_
  refine g_10_19 hx hb hts hiX5 hown hK hw kM_10 (hts (.fieldLink RX5 81 "BranchPredictorModel" "drops" "J") (by decide +kernel)) dX5_drops_6 ?_
  refine k_topl (z := S.2.1 10 0 19) (by simp [uI, uL, uF]) ?_
  exact k_lret hx hb hr hlocks hK hw (congrArg (fun z : Int64 × uS => some (Value.long (z.1))) (show (fX5_drops S) = (S.2.1 10 0 19, (uI S 10 0 0 (0 : Int32))) from by unfold fX5_drops; rfl)) (congrArg (a₁ := (fX5_drops S)) (a₂ := (S.2.1 10 0 19, (uI S 10 0 0 (0 : Int32)))) (fun z : Int64 × uS => z.2) (show (fX5_drops S) = (S.2.1 10 0 19, (uI S 10 0 0 (0 : Int32))) from by unfold fX5_drops; rfl)) dX5_drops_9
def fX5_place (S : uS) (F1 : Nat) (x1 : Int32) : Int32 × uS :=
  if (fX5_isFlying S x1) = false then ((fX5_fail (uI S 10 0 0 (0 : Int32)) (1 : Int32)).1, ((fX5_fail (uI S 10 0 0 (0 : Int32)) (1 : Int32)).2))
  else (S.1 11 2 (x1.toNatClampNeg), (uI S 10 0 0 (0 : Int32)))
abbrev rmX5_place : Room := { frames := 1, cells := 0, slots := 0, locals := 21 }
set_option maxHeartbeats 4000000 in
set_option maxRecDepth 100000 in
theorem cX5c_place (l : Launch) (G : gG) (Z : va_W) (S : uS) (F1 : Nat) (h_F1 : S.1 10 0 7 = nI F1) (h_F1b : F1 ≤ 16) (x1 : Int32) : kMet l yX5_place wsX5_place rmX5_place G kM Z S [.ref (G.2.2 (10, 0)), .int (x1)] (some (.int ((fX5_place S F1 x1).1))) ((fX5_place S F1 x1).2) := by
  refine kMet_of (cc := cX5_place) (maxL := 2) (ret := (some .int)) (by decide) rfl (Nat.le_of_ble_eq_true rfl) ?_
  intro p e s m below meth c hx hb hr hml hlocks hts hown hK hN A hZ hA H locs hw ls hl
  have hl : lv_has ls 2 [(0, .ref (G.2.2 (10, 0))), (1, .int (x1))] := hl
  have hiX5 : ∀ w ∈ wsX50, w ∈ wsX5_place := by decide +kernel
  refine lv_aload_n hx hb dX5_place_0 rfl (lv_at hl 0 rfl) ?_
  refine lv_iconst (v := 0) hx hb dX5_place_1 (by decide) ?_
  refine p_10_0 (v := (0 : Int32)) hx hb hts hiX5 hown hK hw kM_10 (hts (.fieldLink RX5 58 "BranchPredictorModel" "thrown" "I") (by decide +kernel)) dX5_place_2 (fun H locs hw => ?_)
  refine lv_aload_n hx hb dX5_place_5 rfl (lv_at hl 0 rfl) ?_
  refine lv_iload_n hx hb dX5_place_6 rfl (lv_at hl 1 rfl) ?_
  refine k_callV (C := RX5) (n := 1) (rest := []) ⟨hx, hb, hml, hown, hts⟩ (cX5c_isFlying l G Z (uI S 10 0 0 (0 : Int32)) x1) (cwV 1 hts gX5_place_X5_isFlying rfl rfl rfl (by decide +kernel) ⟨Nat.le_of_ble_eq_true rfl, Nat.le_of_ble_eq_true rfl⟩) (k_recv hK hw kM_10 rfl rfl) hK hN hZ hA hw (Nat.zero_le _) (Nat.zero_le _) rfl hl.1 rfl (Nat.le_of_ble_eq_true rfl) dX5_place_7 (fun H locs hw => ?_)
  refine W.eq (g2 := F0 m 10 ls [.int (bI ((fX5_isFlying (uI S 10 0 0 (0 : Int32)) x1)))]) rfl ?_
  refine k_topz (z := (fX5_isFlying S x1)) (by first | rfl | simp [fX5_isFlying, uI, uL, uF]) ?_
  refine k_if_eq (b := (fX5_isFlying S x1)) (tgt := 22) hx hb dX5_place_10 (by decide) (fun c_1 => ?_) (fun c_1 => ?_)
  · skip
    refine lv_aload_n hx hb dX5_place_22 rfl (lv_at hl 0 rfl) ?_
    refine lv_iconst (v := 1) hx hb dX5_place_23 (by decide) ?_
    refine k_callV (C := RX5) (n := 1) (rest := []) ⟨hx, hb, hml, hown, hts⟩ (cX5c_fail l G Z (uI S 10 0 0 (0 : Int32)) (1 : Int32)) (cwV 1 hts gX5_place_X5_fail rfl rfl rfl (by decide +kernel) ⟨Nat.le_of_ble_eq_true rfl, Nat.le_of_ble_eq_true rfl⟩) (k_recv hK hw kM_10 rfl rfl) hK hN hZ hA hw (Nat.zero_le _) (Nat.zero_le _) rfl hl.1 rfl (Nat.le_of_ble_eq_true rfl) dX5_place_24 (fun H locs hw => ?_)
    refine W.eq (g2 := F0 m 27 ls [.int ((fX5_fail (uI S 10 0 0 (0 : Int32)) (1 : Int32)).1)]) rfl ?_
    exact k_iret hx hb hr hlocks hK hw (congrArg (fun z : Int32 × uS => some (Value.int (z.1))) (show (fX5_place S F1 x1) = ((fX5_fail (uI S 10 0 0 (0 : Int32)) (1 : Int32)).1, ((fX5_fail (uI S 10 0 0 (0 : Int32)) (1 : Int32)).2)) from by unfold fX5_place; rw [if_pos c_1])) (congrArg (a₁ := (fX5_place S F1 x1)) (a₂ := ((fX5_fail (uI S 10 0 0 (0 : Int32)) (1 : Int32)).1, ((fX5_fail (uI S 10 0 0 (0 : Int32)) (1 : Int32)).2))) (fun z : Int32 × uS => z.2) (show (fX5_place S F1 x1) = ((fX5_fail (uI S 10 0 0 (0 : Int32)) (1 : Int32)).1, ((fX5_fail (uI S 10 0 0 (0 : Int32)) (1 : Int32)).2)) from by unfold fX5_place; rw [if_pos c_1])) dX5_place_27
  · skip
    refine lv_aload_n hx hb dX5_place_13 rfl (lv_at hl 0 rfl) ?_
    refine g_10_8 hx hb hts hiX5 hown hK hw kM_10 (hts (.fieldLink RX5 16 "BranchPredictorModel" "places" "[I") (by decide +kernel)) dX5_place_14 ?_
    refine lv_iload_n hx hb dX5_place_17 rfl (lv_at hl 1 rfl) ?_
    obtain ⟨h_e, h_j⟩ := m_fl h_F1 h_F1b c_1
    refine k_topi (z := nI (x1.toNatClampNeg)) (h_e) ?_
    refine ld_11_2 hx hb hK hw kM_11_2 (vp_in_nI (by first | omega | (split <;> omega)) (by decide)) dX5_place_18 ?_
    refine k_topi (z := (uI S 10 0 0 (0 : Int32)).1 11 2 (x1.toNatClampNeg)) (by rw [nI_clamp (show x1.toNatClampNeg < 2 ^ 31 from by first | omega | (split <;> omega))]) ?_
    refine k_topi (z := S.1 11 2 (x1.toNatClampNeg)) (by simp [uI, uL, uF]) ?_
    refine lv_goto (tgt := 27) hx hb dX5_place_19 (by decide) ?_
    exact k_iret hx hb hr hlocks hK hw (congrArg (fun z : Int32 × uS => some (Value.int (z.1))) (show (fX5_place S F1 x1) = (S.1 11 2 (x1.toNatClampNeg), (uI S 10 0 0 (0 : Int32))) from by unfold fX5_place; rw [if_neg c_1])) (congrArg (a₁ := (fX5_place S F1 x1)) (a₂ := (S.1 11 2 (x1.toNatClampNeg), (uI S 10 0 0 (0 : Int32)))) (fun z : Int32 × uS => z.2) (show (fX5_place S F1 x1) = (S.1 11 2 (x1.toNatClampNeg), (uI S 10 0 0 (0 : Int32))) from by unfold fX5_place; rw [if_neg c_1])) dX5_place_27
def fX5_state (S : uS) (F1 : Nat) (x1 : Int32) : Int32 × uS :=
  if (fX5_isFlying S x1) = false then ((fX5_fail (uI S 10 0 0 (0 : Int32)) (1 : Int32)).1, ((fX5_fail (uI S 10 0 0 (0 : Int32)) (1 : Int32)).2))
  else ((fX5_stateOf (uI S 10 0 0 (0 : Int32)) (x1.toNatClampNeg)), (uI S 10 0 0 (0 : Int32)))
abbrev rmX5_state : Room := { frames := 2, cells := 0, slots := 0, locals := 42 }
set_option maxHeartbeats 4000000 in
set_option maxRecDepth 100000 in
theorem cX5c_state (l : Launch) (G : gG) (Z : va_W) (S : uS) (F1 : Nat) (h_F1 : S.1 10 0 7 = nI F1) (h_F1b : F1 ≤ 16) (x1 : Int32) : kMet l yX5_state wsX5_state rmX5_state G kM Z S [.ref (G.2.2 (10, 0)), .int (x1)] (some (.int ((fX5_state S F1 x1).1))) ((fX5_state S F1 x1).2) := by
  refine kMet_of (cc := cX5_state) (maxL := 2) (ret := (some .int)) (by decide) rfl (Nat.le_of_ble_eq_true rfl) ?_
  intro p e s m below meth c hx hb hr hml hlocks hts hown hK hN A hZ hA H locs hw ls hl
  have hl : lv_has ls 2 [(0, .ref (G.2.2 (10, 0))), (1, .int (x1))] := hl
  have hiX5 : ∀ w ∈ wsX50, w ∈ wsX5_state := by decide +kernel
  refine lv_aload_n hx hb dX5_state_0 rfl (lv_at hl 0 rfl) ?_
  refine lv_iconst (v := 0) hx hb dX5_state_1 (by decide) ?_
  refine p_10_0 (v := (0 : Int32)) hx hb hts hiX5 hown hK hw kM_10 (hts (.fieldLink RX5 58 "BranchPredictorModel" "thrown" "I") (by decide +kernel)) dX5_state_2 (fun H locs hw => ?_)
  refine lv_aload_n hx hb dX5_state_5 rfl (lv_at hl 0 rfl) ?_
  refine lv_iload_n hx hb dX5_state_6 rfl (lv_at hl 1 rfl) ?_
  refine k_callV (C := RX5) (n := 1) (rest := []) ⟨hx, hb, hml, hown, hts⟩ (cX5c_isFlying l G Z (uI S 10 0 0 (0 : Int32)) x1) (cwV 1 hts gX5_state_X5_isFlying rfl rfl rfl (by decide +kernel) ⟨Nat.le_of_ble_eq_true rfl, Nat.le_of_ble_eq_true rfl⟩) (k_recv hK hw kM_10 rfl rfl) hK hN hZ hA hw (Nat.zero_le _) (Nat.zero_le _) rfl hl.1 rfl (Nat.le_of_ble_eq_true rfl) dX5_state_7 (fun H locs hw => ?_)
  refine W.eq (g2 := F0 m 10 ls [.int (bI ((fX5_isFlying (uI S 10 0 0 (0 : Int32)) x1)))]) rfl ?_
  refine k_topz (z := (fX5_isFlying S x1)) (by first | rfl | simp [fX5_isFlying, uI, uL, uF]) ?_
  refine k_if_eq (b := (fX5_isFlying S x1)) (tgt := 21) hx hb dX5_state_10 (by decide) (fun c_1 => ?_) (fun c_1 => ?_)
  · skip
    refine lv_aload_n hx hb dX5_state_21 rfl (lv_at hl 0 rfl) ?_
    refine lv_iconst (v := 1) hx hb dX5_state_22 (by decide) ?_
    refine k_callV (C := RX5) (n := 1) (rest := []) ⟨hx, hb, hml, hown, hts⟩ (cX5c_fail l G Z (uI S 10 0 0 (0 : Int32)) (1 : Int32)) (cwV 1 hts gX5_state_X5_fail rfl rfl rfl (by decide +kernel) ⟨Nat.le_of_ble_eq_true rfl, Nat.le_of_ble_eq_true rfl⟩) (k_recv hK hw kM_10 rfl rfl) hK hN hZ hA hw (Nat.zero_le _) (Nat.zero_le _) rfl hl.1 rfl (Nat.le_of_ble_eq_true rfl) dX5_state_23 (fun H locs hw => ?_)
    refine W.eq (g2 := F0 m 26 ls [.int ((fX5_fail (uI S 10 0 0 (0 : Int32)) (1 : Int32)).1)]) rfl ?_
    exact k_iret hx hb hr hlocks hK hw (congrArg (fun z : Int32 × uS => some (Value.int (z.1))) (show (fX5_state S F1 x1) = ((fX5_fail (uI S 10 0 0 (0 : Int32)) (1 : Int32)).1, ((fX5_fail (uI S 10 0 0 (0 : Int32)) (1 : Int32)).2)) from by unfold fX5_state; rw [if_pos c_1])) (congrArg (a₁ := (fX5_state S F1 x1)) (a₂ := ((fX5_fail (uI S 10 0 0 (0 : Int32)) (1 : Int32)).1, ((fX5_fail (uI S 10 0 0 (0 : Int32)) (1 : Int32)).2))) (fun z : Int32 × uS => z.2) (show (fX5_state S F1 x1) = ((fX5_fail (uI S 10 0 0 (0 : Int32)) (1 : Int32)).1, ((fX5_fail (uI S 10 0 0 (0 : Int32)) (1 : Int32)).2)) from by unfold fX5_state; rw [if_pos c_1])) dX5_state_26
  · skip
    refine lv_aload_n hx hb dX5_state_13 rfl (lv_at hl 0 rfl) ?_
    refine lv_iload_n hx hb dX5_state_14 rfl (lv_at hl 1 rfl) ?_
    obtain ⟨h_e, h_j⟩ := m_fl h_F1 h_F1b c_1
    refine k_topi (z := nI (x1.toNatClampNeg)) (h_e) ?_
    refine k_callV (C := RX5) (n := 1) (rest := []) ⟨hx, hb, hml, hown, hts⟩ (cX5c_stateOf l G Z (uI S 10 0 0 (0 : Int32)) (x1.toNatClampNeg) (by omega)) (cwV 1 hts gX5_state_X5_stateOf rfl rfl rfl (by decide +kernel) ⟨Nat.le_of_ble_eq_true rfl, Nat.le_of_ble_eq_true rfl⟩) (k_recv hK hw kM_10 rfl rfl) hK hN hZ hA hw (Nat.zero_le _) (Nat.zero_le _) rfl hl.1 rfl (Nat.le_of_ble_eq_true rfl) dX5_state_15 (fun H locs hw => ?_)
    refine W.eq (g2 := F0 m 18 ls [.int ((fX5_stateOf (uI S 10 0 0 (0 : Int32)) (x1.toNatClampNeg)))]) rfl ?_
    refine lv_goto (tgt := 26) hx hb dX5_state_18 (by decide) ?_
    exact k_iret hx hb hr hlocks hK hw (congrArg (fun z : Int32 × uS => some (Value.int (z.1))) (show (fX5_state S F1 x1) = ((fX5_stateOf (uI S 10 0 0 (0 : Int32)) (x1.toNatClampNeg)), (uI S 10 0 0 (0 : Int32))) from by unfold fX5_state; rw [if_neg c_1])) (congrArg (a₁ := (fX5_state S F1 x1)) (a₂ := ((fX5_stateOf (uI S 10 0 0 (0 : Int32)) (x1.toNatClampNeg)), (uI S 10 0 0 (0 : Int32)))) (fun z : Int32 × uS => z.2) (show (fX5_state S F1 x1) = ((fX5_stateOf (uI S 10 0 0 (0 : Int32)) (x1.toNatClampNeg)), (uI S 10 0 0 (0 : Int32))) from by unfold fX5_state; rw [if_neg c_1])) dX5_state_26
