theorem fX4_learnChoice_2 (S : uS) (k : Nat) (b : Bool) : (fX4_learnChoice S k b).2 = S.2 := by
  unfold fX4_learnChoice
  split
  · rfl
  · exact fX2_move_2 _ _ _ _
theorem fX4_learnChoice_I (S : uS) (k : Nat) (b : Bool) {a : Nat} (h : a ≠ 2) : (fX4_learnChoice S k b).1 a = S.1 a := by
  unfold fX4_learnChoice
  split
  · rfl
  · exact fX2_move_I _ _ _ _ h
theorem fX4_learnOutcome_F (S : uS) (k j : Nat) (x y : Int32) (b : Bool) : (fX4_learnOutcome S k j x y b).2.2 = S.2.2 := by
  unfold fX4_learnOutcome
  rw [fX2_move_2, fX0_note_F]
theorem fX4_learnOutcome_I (S : uS) (k j : Nat) (x y : Int32) (b : Bool) {a : Nat} (h : a ≠ 2) (h4 : a ≠ 4) : (fX4_learnOutcome S k j x y b).1 a = S.1 a := by
  unfold fX4_learnOutcome
  rw [fX2_move_I _ _ _ _ h, fX0_note_I _ _ _ _ _ h4]
theorem fX4_learnOutcome_L (S : uS) (k j : Nat) (x y : Int32) (b : Bool) {a : Nat} (h : a ≠ 3) : (fX4_learnOutcome S k j x y b).2.1 a = S.2.1 a := by
  unfold fX4_learnOutcome
  rw [fX2_move_2, fX0_note_L _ _ _ _ _ h]
theorem fX4_learnLoop_2 (S : uS) (k : Nat) (b : Bool) : (fX4_learnLoop S k b).2 = S.2 := by
  unfold fX4_learnLoop
  repeat' split
  all_goals first | rfl | exact fX3_learn_2 _ _ _ | exact fX3_startAnew_2 _ _ _
theorem fX4_learnLoop_I (S : uS) (k : Nat) (b : Bool) {a : Nat} (h : a ≠ 9) : (fX4_learnLoop S k b).1 a = S.1 a := by
  unfold fX4_learnLoop
  repeat' split
  all_goals first | rfl | exact fX3_learn_I _ _ _ h | exact fX3_startAnew_I _ _ _ h
def fX4_retire (S : uS)  : Bool × uS :=
  (if (S.1 8 (fIx S (0 : Int32)) 1) = (2 : Int32) then true else false, (uI (uI (uL (fX4_learnLoop (fX4_learnOutcome (fX4_learnOutcome (fX4_learnChoice (lX4_count (fIx S (0 : Int32)) (fX1_isPresumedTaken S (fIx S (0 : Int32))) 4 0 S) (fIx S (0 : Int32)) (fX1_isPresumedTaken S (fIx S (0 : Int32)))) 0 0 (S.1 8 (fIx S (0 : Int32)) 3) (S.1 8 (fIx S (0 : Int32)) 0) (fX1_isPresumedTaken S (fIx S (0 : Int32)))) 1 1 (S.1 8 (fIx S (0 : Int32)) 4) (S.1 8 (fIx S (0 : Int32)) 0) (fX1_isPresumedTaken S (fIx S (0 : Int32)))) (fIx S (0 : Int32)) (fX1_isPresumedTaken S (fIx S (0 : Int32)))) 0 0 14 ((S.2.1 0 0 14) + (1 : Int64))) 0 0 12 (((S.1 0 0 12) + (1 : Int32)) &&& (15 : Int32))) 0 0 13 ((S.1 0 0 13) - (1 : Int32))))
abbrev rmX4_retire : Room := { frames := 3, cells := 0, slots := 0, locals := 69 }
set_option maxHeartbeats 4000000 in
set_option maxRecDepth 100000 in
theorem cX4c_retire (l : Launch) (G : gG) (Z : va_W) (S : uS)  : kMet l yX4_retire wsX4_retire rmX4_retire G kC Z S [.ref (G.2.2 (0, 0))] (some (.int (bI ((fX4_retire S).1)))) ((fX4_retire S).2) := by
  refine kMet_of (cc := cX4_retire) (maxL := 3) (ret := (some .boolean)) (by decide) rfl (Nat.le_of_ble_eq_true rfl) ?_
  intro p e s m below meth c hx hb hr hml hlocks hts hown hK hN A hZ hA H locs hw ls hl
  have hl : lv_has ls 3 [(0, .ref (G.2.2 (0, 0)))] := hl
  have hiX1 : ∀ w ∈ wsX10, w ∈ wsX4_retire := by decide +kernel
  have hiX4 : ∀ w ∈ wsX40, w ∈ wsX4_retire := by decide +kernel
  refine lv_aload_n hx hb dX4_retire_0 rfl (lv_at hl 0 rfl) ?_
  refine lv_iconst (v := 0) hx hb dX4_retire_1 (by decide) ?_
  refine k_callV (C := RX4) (n := 1) (rest := []) ⟨hx, hb, hml, hown, hts⟩ (cX4c_branchAt l G Z S (0 : Int32)) (cwV 1 hts gX4_retire_X4_branchAt rfl rfl rfl (by decide +kernel) ⟨Nat.le_of_ble_eq_true rfl, Nat.le_of_ble_eq_true rfl⟩) (k_recv hK hw kC_0 rfl rfl) hK hN hZ hA hw (Nat.zero_le _) (Nat.zero_le _) rfl hl.1 rfl (Nat.le_of_ble_eq_true rfl) dX4_retire_2 (fun H locs hw => ?_)
  refine W.eq (g2 := F0 m 5 ls [.ref (G.2.2 (8, (fIx S (0 : Int32))))]) rfl ?_
  refine lv_astore_n (lv' := [(1, .ref (G.2.2 (8, (fIx S (0 : Int32))))), (0, .ref (G.2.2 (0, 0)))]) hx hb dX4_retire_5 rfl hl (by decide) rfl (fun ls hl => ?_)
  refine lv_aload_n hx hb dX4_retire_6 rfl (lv_at hl 0 rfl) ?_
  refine k_callV (C := RX1) (n := 0) (rest := []) ⟨hx, hb, hml, hown, hts⟩ (cX1c_isPresumedTaken l G Z S (fIx S (0 : Int32)) (fIx_lt S (0 : Int32))) (cwV 0 hts gX4_retire_X1_isPresumedTaken rfl rfl rfl (by decide +kernel) ⟨Nat.le_of_ble_eq_true rfl, Nat.le_of_ble_eq_true rfl⟩) (k_recv hK hw (kC_8 (fIx_lt S (0 : Int32))) rfl rfl) hK hN hZ hA hw (Nat.zero_le _) (Nat.zero_le _) rfl hl.1 rfl (Nat.le_of_ble_eq_true rfl) dX4_retire_7 (fun H locs hw => ?_)
  refine W.eq (g2 := F0 m 10 ls [.int (bI ((fX1_isPresumedTaken S (fIx S (0 : Int32)))))]) rfl ?_
  refine lv_istore_n (lv' := [(2, .int (bI ((fX1_isPresumedTaken S (fIx S (0 : Int32)))))), (1, .ref (G.2.2 (8, (fIx S (0 : Int32))))), (0, .ref (G.2.2 (0, 0)))]) hx hb dX4_retire_10 rfl hl (by decide) rfl (fun ls hl => ?_)
  refine lv_aload_n hx hb dX4_retire_11 rfl (lv_at hl 2 rfl) ?_
  refine lv_aload_n hx hb dX4_retire_12 rfl (lv_at hl 1 rfl) ?_
  refine lv_iload_n hx hb dX4_retire_13 rfl (lv_at hl 0 rfl) ?_
  refine k_callV (C := RX4) (n := 2) (rest := []) ⟨hx, hb, hml, hown, hts⟩ (cX4c_countMisses l G Z S (fIx S (0 : Int32)) (fIx_lt S (0 : Int32)) (fX1_isPresumedTaken S (fIx S (0 : Int32)))) (cwV 2 hts gX4_retire_X4_countMisses rfl rfl rfl (by decide +kernel) ⟨Nat.le_of_ble_eq_true rfl, Nat.le_of_ble_eq_true rfl⟩) (k_recv hK hw kC_0 rfl rfl) hK hN hZ hA hw (Nat.zero_le _) (Nat.zero_le _) rfl hl.1 rfl (Nat.le_of_ble_eq_true rfl) dX4_retire_14 (fun H locs hw => ?_)
  refine W.eq (g2 := F0 m 17 ls []) rfl ?_
  refine lv_aload_n hx hb dX4_retire_17 rfl (lv_at hl 2 rfl) ?_
  refine lv_aload_n hx hb dX4_retire_18 rfl (lv_at hl 1 rfl) ?_
  refine lv_iload_n hx hb dX4_retire_19 rfl (lv_at hl 0 rfl) ?_
  refine k_callV (C := RX4) (n := 2) (rest := []) ⟨hx, hb, hml, hown, hts⟩ (cX4c_learnChoice l G Z (lX4_count (fIx S (0 : Int32)) (fX1_isPresumedTaken S (fIx S (0 : Int32))) 4 0 S) (fIx S (0 : Int32)) (fIx_lt S (0 : Int32)) (fX1_isPresumedTaken S (fIx S (0 : Int32)))) (cwV 2 hts gX4_retire_X4_learnChoice rfl rfl rfl (by decide +kernel) ⟨Nat.le_of_ble_eq_true rfl, Nat.le_of_ble_eq_true rfl⟩) (k_recv hK hw kC_0 rfl rfl) hK hN hZ hA hw (Nat.zero_le _) (Nat.zero_le _) rfl hl.1 rfl (Nat.le_of_ble_eq_true rfl) dX4_retire_20 (fun H locs hw => ?_)
  refine W.eq (g2 := F0 m 23 ls []) rfl ?_
  refine lv_aload_n hx hb dX4_retire_23 rfl (lv_at hl 2 rfl) ?_
  refine g_0_0 hx hb hts hiX4 hown hK hw kC_0 (hts (.fieldLink RX4 12 "BranchPredictor" "plainTable" "LBranchPredictor$CounterTable;") (by decide +kernel)) dX4_retire_24 ?_
  refine lv_aload_n hx hb dX4_retire_27 rfl (lv_at hl 2 rfl) ?_
  refine g_0_3 hx hb hts hiX4 hown hK hw kC_0 (hts (.fieldLink RX4 25 "BranchPredictor" "plainAudit" "LBranchPredictor$Audit;") (by decide +kernel)) dX4_retire_28 ?_
  refine lv_aload_n hx hb dX4_retire_31 rfl (lv_at hl 1 rfl) ?_
  refine g_8_3 hx hb hts hiX1 hown hK hw (kC_8 (fIx_lt S (0 : Int32))) (hts (.fieldLink RX4 216 "BranchPredictor$Branch" "plainIndex" "I") (by decide +kernel)) dX4_retire_32 ?_
  refine k_topi (z := S.1 8 (fIx S (0 : Int32)) 3) (by simp [uI, uL, uF, fX4_learnChoice_2, fX4_learnChoice_I _ _ _ (show (0 : Nat) ≠ 2 from by decide), fX4_learnChoice_I _ _ _ (show (8 : Nat) ≠ 2 from by decide), fX4_learnChoice_I _ _ _ (show (9 : Nat) ≠ 2 from by decide), lX4_count_1, lX4_count_F, lX4_count_L _ _ (show (0 : Nat) ≠ 7 by decide)]) ?_
  refine lv_aload_n hx hb dX4_retire_35 rfl (lv_at hl 1 rfl) ?_
  refine g_8_0 hx hb hts hiX1 hown hK hw (kC_8 (fIx_lt S (0 : Int32))) (hts (.fieldLink RX4 126 "BranchPredictor$Branch" "place" "I") (by decide +kernel)) dX4_retire_36 ?_
  refine k_topi (z := S.1 8 (fIx S (0 : Int32)) 0) (by simp [uI, uL, uF, fX4_learnChoice_2, fX4_learnChoice_I _ _ _ (show (0 : Nat) ≠ 2 from by decide), fX4_learnChoice_I _ _ _ (show (8 : Nat) ≠ 2 from by decide), fX4_learnChoice_I _ _ _ (show (9 : Nat) ≠ 2 from by decide), lX4_count_1, lX4_count_F, lX4_count_L _ _ (show (0 : Nat) ≠ 7 by decide)]) ?_
  refine lv_iload_n hx hb dX4_retire_39 rfl (lv_at hl 0 rfl) ?_
  refine k_callS (n := 5) (rest := []) ⟨hx, hb, hml, hown, hts⟩ (cX4c_learnOutcome l G Z (fX4_learnChoice (lX4_count (fIx S (0 : Int32)) (fX1_isPresumedTaken S (fIx S (0 : Int32))) 4 0 S) (fIx S (0 : Int32)) (fX1_isPresumedTaken S (fIx S (0 : Int32)))) 0 (show (0 : Nat) < 3 from by decide) 0 (show (0 : Nat) < 2 from by decide) (S.1 8 (fIx S (0 : Int32)) 3) (S.1 8 (fIx S (0 : Int32)) 0) (fX1_isPresumedTaken S (fIx S (0 : Int32)))) (va_cwS 5 hts gX4_retire_X4_learnOutcome rfl rfl rfl (by decide +kernel) ⟨Nat.le_of_ble_eq_true rfl, Nat.le_of_ble_eq_true rfl⟩) hK hN hZ hA hw (Nat.zero_le _) (Nat.zero_le _) rfl hl.1 rfl (Nat.le_of_ble_eq_true rfl) dX4_retire_40 (fun H locs hw => ?_)
  refine W.eq (g2 := F0 m 43 ls []) rfl ?_
  refine lv_aload_n hx hb dX4_retire_43 rfl (lv_at hl 2 rfl) ?_
  refine g_0_1 hx hb hts hiX4 hown hK hw kC_0 (hts (.fieldLink RX4 16 "BranchPredictor" "globalTable" "LBranchPredictor$CounterTable;") (by decide +kernel)) dX4_retire_44 ?_
  refine lv_aload_n hx hb dX4_retire_47 rfl (lv_at hl 2 rfl) ?_
  refine g_0_4 hx hb hts hiX4 hown hK hw kC_0 (hts (.fieldLink RX4 29 "BranchPredictor" "globalAudit" "LBranchPredictor$Audit;") (by decide +kernel)) dX4_retire_48 ?_
  refine lv_aload_n hx hb dX4_retire_51 rfl (lv_at hl 1 rfl) ?_
  refine g_8_4 hx hb hts hiX1 hown hK hw (kC_8 (fIx_lt S (0 : Int32))) (hts (.fieldLink RX4 219 "BranchPredictor$Branch" "globalIndex" "I") (by decide +kernel)) dX4_retire_52 ?_
  refine k_topi (z := S.1 8 (fIx S (0 : Int32)) 4) (by simp [uI, uL, uF, fX4_learnOutcome_F, fX4_learnOutcome_I _ _ _ _ _ _ (show (0 : Nat) ≠ 2 from by decide) (show (0 : Nat) ≠ 4 from by decide), fX4_learnOutcome_I _ _ _ _ _ _ (show (8 : Nat) ≠ 2 from by decide) (show (8 : Nat) ≠ 4 from by decide), fX4_learnOutcome_I _ _ _ _ _ _ (show (9 : Nat) ≠ 2 from by decide) (show (9 : Nat) ≠ 4 from by decide), fX4_learnOutcome_L _ _ _ _ _ _ (show (0 : Nat) ≠ 3 from by decide), fX4_learnChoice_2, fX4_learnChoice_I _ _ _ (show (0 : Nat) ≠ 2 from by decide), fX4_learnChoice_I _ _ _ (show (8 : Nat) ≠ 2 from by decide), fX4_learnChoice_I _ _ _ (show (9 : Nat) ≠ 2 from by decide), lX4_count_1, lX4_count_F, lX4_count_L _ _ (show (0 : Nat) ≠ 7 by decide)]) ?_
  refine lv_aload_n hx hb dX4_retire_55 rfl (lv_at hl 1 rfl) ?_
  refine g_8_0 hx hb hts hiX1 hown hK hw (kC_8 (fIx_lt S (0 : Int32))) (hts (.fieldLink RX4 126 "BranchPredictor$Branch" "place" "I") (by decide +kernel)) dX4_retire_56 ?_
  refine k_topi (z := S.1 8 (fIx S (0 : Int32)) 0) (by simp [uI, uL, uF, fX4_learnOutcome_F, fX4_learnOutcome_I _ _ _ _ _ _ (show (0 : Nat) ≠ 2 from by decide) (show (0 : Nat) ≠ 4 from by decide), fX4_learnOutcome_I _ _ _ _ _ _ (show (8 : Nat) ≠ 2 from by decide) (show (8 : Nat) ≠ 4 from by decide), fX4_learnOutcome_I _ _ _ _ _ _ (show (9 : Nat) ≠ 2 from by decide) (show (9 : Nat) ≠ 4 from by decide), fX4_learnOutcome_L _ _ _ _ _ _ (show (0 : Nat) ≠ 3 from by decide), fX4_learnChoice_2, fX4_learnChoice_I _ _ _ (show (0 : Nat) ≠ 2 from by decide), fX4_learnChoice_I _ _ _ (show (8 : Nat) ≠ 2 from by decide), fX4_learnChoice_I _ _ _ (show (9 : Nat) ≠ 2 from by decide), lX4_count_1, lX4_count_F, lX4_count_L _ _ (show (0 : Nat) ≠ 7 by decide)]) ?_
  refine lv_iload_n hx hb dX4_retire_59 rfl (lv_at hl 0 rfl) ?_
  refine k_callS (n := 5) (rest := []) ⟨hx, hb, hml, hown, hts⟩ (cX4c_learnOutcome l G Z (fX4_learnOutcome (fX4_learnChoice (lX4_count (fIx S (0 : Int32)) (fX1_isPresumedTaken S (fIx S (0 : Int32))) 4 0 S) (fIx S (0 : Int32)) (fX1_isPresumedTaken S (fIx S (0 : Int32)))) 0 0 (S.1 8 (fIx S (0 : Int32)) 3) (S.1 8 (fIx S (0 : Int32)) 0) (fX1_isPresumedTaken S (fIx S (0 : Int32)))) 1 (show (1 : Nat) < 3 from by decide) 1 (show (1 : Nat) < 2 from by decide) (S.1 8 (fIx S (0 : Int32)) 4) (S.1 8 (fIx S (0 : Int32)) 0) (fX1_isPresumedTaken S (fIx S (0 : Int32)))) (va_cwS 5 hts gX4_retire_X4_learnOutcome rfl rfl rfl (by decide +kernel) ⟨Nat.le_of_ble_eq_true rfl, Nat.le_of_ble_eq_true rfl⟩) hK hN hZ hA hw (Nat.zero_le _) (Nat.zero_le _) rfl hl.1 rfl (Nat.le_of_ble_eq_true rfl) dX4_retire_60 (fun H locs hw => ?_)
  refine W.eq (g2 := F0 m 63 ls []) rfl ?_
  refine lv_aload_n hx hb dX4_retire_63 rfl (lv_at hl 2 rfl) ?_
  refine lv_aload_n hx hb dX4_retire_64 rfl (lv_at hl 1 rfl) ?_
  refine lv_iload_n hx hb dX4_retire_65 rfl (lv_at hl 0 rfl) ?_
  refine k_callV (C := RX4) (n := 2) (rest := []) ⟨hx, hb, hml, hown, hts⟩ (cX4c_learnLoop l G Z (fX4_learnOutcome (fX4_learnOutcome (fX4_learnChoice (lX4_count (fIx S (0 : Int32)) (fX1_isPresumedTaken S (fIx S (0 : Int32))) 4 0 S) (fIx S (0 : Int32)) (fX1_isPresumedTaken S (fIx S (0 : Int32)))) 0 0 (S.1 8 (fIx S (0 : Int32)) 3) (S.1 8 (fIx S (0 : Int32)) 0) (fX1_isPresumedTaken S (fIx S (0 : Int32)))) 1 1 (S.1 8 (fIx S (0 : Int32)) 4) (S.1 8 (fIx S (0 : Int32)) 0) (fX1_isPresumedTaken S (fIx S (0 : Int32)))) (fIx S (0 : Int32)) (fIx_lt S (0 : Int32)) (fX1_isPresumedTaken S (fIx S (0 : Int32)))) (cwV 2 hts gX4_retire_X4_learnLoop rfl rfl rfl (by decide +kernel) ⟨Nat.le_of_ble_eq_true rfl, Nat.le_of_ble_eq_true rfl⟩) (k_recv hK hw kC_0 rfl rfl) hK hN hZ hA hw (Nat.zero_le _) (Nat.zero_le _) rfl hl.1 rfl (Nat.le_of_ble_eq_true rfl) dX4_retire_66 (fun H locs hw => ?_)
  refine W.eq (g2 := F0 m 69 ls []) rfl ?_
  refine lv_aload_n hx hb dX4_retire_69 rfl (lv_at hl 2 rfl) ?_
  refine lv_dup hx hb dX4_retire_70 rfl ?_
  refine g_0_14 hx hb hts hiX4 hown hK hw kC_0 (hts (.fieldLink RX4 171 "BranchPredictor" "committed" "J") (by decide +kernel)) dX4_retire_71 ?_
  refine k_topl (z := S.2.1 0 0 14) (by simp [uI, uL, uF, fX4_learnLoop_2, fX4_learnLoop_I _ _ _ (show (0 : Nat) ≠ 9 from by decide), fX4_learnLoop_I _ _ _ (show (8 : Nat) ≠ 9 from by decide), fX4_learnOutcome_F, fX4_learnOutcome_I _ _ _ _ _ _ (show (0 : Nat) ≠ 2 from by decide) (show (0 : Nat) ≠ 4 from by decide), fX4_learnOutcome_I _ _ _ _ _ _ (show (8 : Nat) ≠ 2 from by decide) (show (8 : Nat) ≠ 4 from by decide), fX4_learnOutcome_I _ _ _ _ _ _ (show (9 : Nat) ≠ 2 from by decide) (show (9 : Nat) ≠ 4 from by decide), fX4_learnOutcome_L _ _ _ _ _ _ (show (0 : Nat) ≠ 3 from by decide), fX4_learnOutcome_F, fX4_learnOutcome_I _ _ _ _ _ _ (show (0 : Nat) ≠ 2 from by decide) (show (0 : Nat) ≠ 4 from by decide), fX4_learnOutcome_I _ _ _ _ _ _ (show (8 : Nat) ≠ 2 from by decide) (show (8 : Nat) ≠ 4 from by decide), fX4_learnOutcome_I _ _ _ _ _ _ (show (9 : Nat) ≠ 2 from by decide) (show (9 : Nat) ≠ 4 from by decide), fX4_learnOutcome_L _ _ _ _ _ _ (show (0 : Nat) ≠ 3 from by decide), fX4_learnChoice_2, fX4_learnChoice_I _ _ _ (show (0 : Nat) ≠ 2 from by decide), fX4_learnChoice_I _ _ _ (show (8 : Nat) ≠ 2 from by decide), fX4_learnChoice_I _ _ _ (show (9 : Nat) ≠ 2 from by decide), lX4_count_1, lX4_count_F, lX4_count_L _ _ (show (0 : Nat) ≠ 7 by decide)]) ?_
  refine lv_lconst (v := 1) hx hb dX4_retire_74 (by decide) ?_
  refine lv_ladd hx hb dX4_retire_75 ?_
  refine p_0_14 (v := (S.2.1 0 0 14) + (1 : Int64)) hx hb hts hiX4 hown hK hw kC_0 (hts (.fieldLink RX4 171 "BranchPredictor" "committed" "J") (by decide +kernel)) dX4_retire_76 (fun H locs hw => ?_)
  refine lv_aload_n hx hb dX4_retire_79 rfl (lv_at hl 2 rfl) ?_
  refine lv_aload_n hx hb dX4_retire_80 rfl (lv_at hl 2 rfl) ?_
  refine g_0_12 hx hb hts hiX4 hown hK hw kC_0 (hts (.fieldLink RX4 210 "BranchPredictor" "oldest" "I") (by decide +kernel)) dX4_retire_81 ?_
  refine k_topi (z := S.1 0 0 12) (by simp [uI, uL, uF, fX4_learnLoop_2, fX4_learnLoop_I _ _ _ (show (0 : Nat) ≠ 9 from by decide), fX4_learnLoop_I _ _ _ (show (8 : Nat) ≠ 9 from by decide), fX4_learnOutcome_F, fX4_learnOutcome_I _ _ _ _ _ _ (show (0 : Nat) ≠ 2 from by decide) (show (0 : Nat) ≠ 4 from by decide), fX4_learnOutcome_I _ _ _ _ _ _ (show (8 : Nat) ≠ 2 from by decide) (show (8 : Nat) ≠ 4 from by decide), fX4_learnOutcome_I _ _ _ _ _ _ (show (9 : Nat) ≠ 2 from by decide) (show (9 : Nat) ≠ 4 from by decide), fX4_learnOutcome_L _ _ _ _ _ _ (show (0 : Nat) ≠ 3 from by decide), fX4_learnOutcome_F, fX4_learnOutcome_I _ _ _ _ _ _ (show (0 : Nat) ≠ 2 from by decide) (show (0 : Nat) ≠ 4 from by decide), fX4_learnOutcome_I _ _ _ _ _ _ (show (8 : Nat) ≠ 2 from by decide) (show (8 : Nat) ≠ 4 from by decide), fX4_learnOutcome_I _ _ _ _ _ _ (show (9 : Nat) ≠ 2 from by decide) (show (9 : Nat) ≠ 4 from by decide), fX4_learnOutcome_L _ _ _ _ _ _ (show (0 : Nat) ≠ 3 from by decide), fX4_learnChoice_2, fX4_learnChoice_I _ _ _ (show (0 : Nat) ≠ 2 from by decide), fX4_learnChoice_I _ _ _ (show (8 : Nat) ≠ 2 from by decide), fX4_learnChoice_I _ _ _ (show (9 : Nat) ≠ 2 from by decide), lX4_count_1, lX4_count_F, lX4_count_L _ _ (show (0 : Nat) ≠ 7 by decide)]) ?_
  refine lv_iconst (v := 1) hx hb dX4_retire_84 (by decide) ?_
  refine lv_iadd hx hb dX4_retire_85 ?_
  refine lv_bipush (v := 15) hx hb dX4_retire_86 (by decide) ?_
  refine lv_iand hx hb dX4_retire_88 ?_
  refine p_0_12 (v := ((S.1 0 0 12) + (1 : Int32)) &&& (15 : Int32)) hx hb hts hiX4 hown hK hw kC_0 (hts (.fieldLink RX4 210 "BranchPredictor" "oldest" "I") (by decide +kernel)) dX4_retire_89 (fun H locs hw => ?_)
  refine lv_aload_n hx hb dX4_retire_92 rfl (lv_at hl 2 rfl) ?_
  refine lv_dup hx hb dX4_retire_93 rfl ?_
  refine g_0_13 hx hb hts hiX4 hown hK hw kC_0 (hts (.fieldLink RX4 79 "BranchPredictor" "flying" "I") (by decide +kernel)) dX4_retire_94 ?_
  refine k_topi (z := S.1 0 0 13) (by simp [uI, uL, uF, fX4_learnLoop_2, fX4_learnLoop_I _ _ _ (show (0 : Nat) ≠ 9 from by decide), fX4_learnLoop_I _ _ _ (show (8 : Nat) ≠ 9 from by decide), fX4_learnOutcome_F, fX4_learnOutcome_I _ _ _ _ _ _ (show (0 : Nat) ≠ 2 from by decide) (show (0 : Nat) ≠ 4 from by decide), fX4_learnOutcome_I _ _ _ _ _ _ (show (8 : Nat) ≠ 2 from by decide) (show (8 : Nat) ≠ 4 from by decide), fX4_learnOutcome_I _ _ _ _ _ _ (show (9 : Nat) ≠ 2 from by decide) (show (9 : Nat) ≠ 4 from by decide), fX4_learnOutcome_L _ _ _ _ _ _ (show (0 : Nat) ≠ 3 from by decide), fX4_learnOutcome_F, fX4_learnOutcome_I _ _ _ _ _ _ (show (0 : Nat) ≠ 2 from by decide) (show (0 : Nat) ≠ 4 from by decide), fX4_learnOutcome_I _ _ _ _ _ _ (show (8 : Nat) ≠ 2 from by decide) (show (8 : Nat) ≠ 4 from by decide), fX4_learnOutcome_I _ _ _ _ _ _ (show (9 : Nat) ≠ 2 from by decide) (show (9 : Nat) ≠ 4 from by decide), fX4_learnOutcome_L _ _ _ _ _ _ (show (0 : Nat) ≠ 3 from by decide), fX4_learnChoice_2, fX4_learnChoice_I _ _ _ (show (0 : Nat) ≠ 2 from by decide), fX4_learnChoice_I _ _ _ (show (8 : Nat) ≠ 2 from by decide), fX4_learnChoice_I _ _ _ (show (9 : Nat) ≠ 2 from by decide), lX4_count_1, lX4_count_F, lX4_count_L _ _ (show (0 : Nat) ≠ 7 by decide)]) ?_
  refine lv_iconst (v := 1) hx hb dX4_retire_97 (by decide) ?_
  refine lv_isub hx hb dX4_retire_98 ?_
  refine p_0_13 (v := (S.1 0 0 13) - (1 : Int32)) hx hb hts hiX4 hown hK hw kC_0 (hts (.fieldLink RX4 79 "BranchPredictor" "flying" "I") (by decide +kernel)) dX4_retire_99 (fun H locs hw => ?_)
  refine lv_aload_n hx hb dX4_retire_102 rfl (lv_at hl 1 rfl) ?_
  refine g_8_1 hx hb hts hiX1 hown hK hw (kC_8 (fIx_lt S (0 : Int32))) (hts (.fieldLink RX4 97 "BranchPredictor$Branch" "state" "I") (by decide +kernel)) dX4_retire_103 ?_
  refine k_topi (z := S.1 8 (fIx S (0 : Int32)) 1) (by simp [uI, uL, uF, fX4_learnLoop_2, fX4_learnLoop_I _ _ _ (show (0 : Nat) ≠ 9 from by decide), fX4_learnLoop_I _ _ _ (show (8 : Nat) ≠ 9 from by decide), fX4_learnOutcome_F, fX4_learnOutcome_I _ _ _ _ _ _ (show (0 : Nat) ≠ 2 from by decide) (show (0 : Nat) ≠ 4 from by decide), fX4_learnOutcome_I _ _ _ _ _ _ (show (8 : Nat) ≠ 2 from by decide) (show (8 : Nat) ≠ 4 from by decide), fX4_learnOutcome_I _ _ _ _ _ _ (show (9 : Nat) ≠ 2 from by decide) (show (9 : Nat) ≠ 4 from by decide), fX4_learnOutcome_L _ _ _ _ _ _ (show (0 : Nat) ≠ 3 from by decide), fX4_learnOutcome_F, fX4_learnOutcome_I _ _ _ _ _ _ (show (0 : Nat) ≠ 2 from by decide) (show (0 : Nat) ≠ 4 from by decide), fX4_learnOutcome_I _ _ _ _ _ _ (show (8 : Nat) ≠ 2 from by decide) (show (8 : Nat) ≠ 4 from by decide), fX4_learnOutcome_I _ _ _ _ _ _ (show (9 : Nat) ≠ 2 from by decide) (show (9 : Nat) ≠ 4 from by decide), fX4_learnOutcome_L _ _ _ _ _ _ (show (0 : Nat) ≠ 3 from by decide), fX4_learnChoice_2, fX4_learnChoice_I _ _ _ (show (0 : Nat) ≠ 2 from by decide), fX4_learnChoice_I _ _ _ (show (8 : Nat) ≠ 2 from by decide), fX4_learnChoice_I _ _ _ (show (9 : Nat) ≠ 2 from by decide), lX4_count_1, lX4_count_F, lX4_count_L _ _ (show (0 : Nat) ≠ 7 by decide)]) ?_
  refine lv_iconst (v := 2) hx hb dX4_retire_106 (by decide) ?_
  refine k_join (P := fun x9 : Bool => W p l e rmX4_retire s m [.ref (G.2.2 (0, 0))].toArray below meth c H locs 0 0 (MQ below (kQ G kC Z A (some (.int (bI ((fX4_retire S).1)))) ((fX4_retire S).2)) [.ref (G.2.2 (0, 0))].toArray s 0 0 A) (F0 m 115 ls [.int (bI (x9))])) (C := (S.1 8 (fIx S (0 : Int32)) 1) = (2 : Int32)) (a := true) (b := false) ?_ (fun ka kb => ?_)
  rotate_left
  · refine lv_icmp_ne (tgt := 114) hx hb dX4_retire_107 (by decide) (fun c_1 => ?_) (fun c_1 => ?_)
    · skip
      refine lv_iconst (v := 0) hx hb dX4_retire_114 (by decide) ?_
      exact kb c_1
    · skip
      refine lv_iconst (v := 1) hx hb dX4_retire_110 (by decide) ?_
      refine lv_goto (tgt := 115) hx hb dX4_retire_111 (by decide) ?_
      exact ka c_1
  show W p l e rmX4_retire s m [.ref (G.2.2 (0, 0))].toArray below meth c H locs 0 0 (MQ below (kQ G kC Z A (some (.int (bI ((fX4_retire S).1)))) ((fX4_retire S).2)) [.ref (G.2.2 (0, 0))].toArray s 0 0 A) (F0 m 115 ls [.int (bI (if (S.1 8 (fIx S (0 : Int32)) 1) = (2 : Int32) then true else false))])
  exact k_zret (r := if (S.1 8 (fIx S (0 : Int32)) 1) = (2 : Int32) then true else false) hx hb hr hlocks hK hw (congrArg (fun z : Bool × uS => some (Value.int (bI (z.1)))) (show (fX4_retire S) = (if (S.1 8 (fIx S (0 : Int32)) 1) = (2 : Int32) then true else false, (uI (uI (uL (fX4_learnLoop (fX4_learnOutcome (fX4_learnOutcome (fX4_learnChoice (lX4_count (fIx S (0 : Int32)) (fX1_isPresumedTaken S (fIx S (0 : Int32))) 4 0 S) (fIx S (0 : Int32)) (fX1_isPresumedTaken S (fIx S (0 : Int32)))) 0 0 (S.1 8 (fIx S (0 : Int32)) 3) (S.1 8 (fIx S (0 : Int32)) 0) (fX1_isPresumedTaken S (fIx S (0 : Int32)))) 1 1 (S.1 8 (fIx S (0 : Int32)) 4) (S.1 8 (fIx S (0 : Int32)) 0) (fX1_isPresumedTaken S (fIx S (0 : Int32)))) (fIx S (0 : Int32)) (fX1_isPresumedTaken S (fIx S (0 : Int32)))) 0 0 14 ((S.2.1 0 0 14) + (1 : Int64))) 0 0 12 (((S.1 0 0 12) + (1 : Int32)) &&& (15 : Int32))) 0 0 13 ((S.1 0 0 13) - (1 : Int32)))) from by unfold fX4_retire; rfl)) (congrArg (a₁ := (fX4_retire S)) (a₂ := (if (S.1 8 (fIx S (0 : Int32)) 1) = (2 : Int32) then true else false, (uI (uI (uL (fX4_learnLoop (fX4_learnOutcome (fX4_learnOutcome (fX4_learnChoice (lX4_count (fIx S (0 : Int32)) (fX1_isPresumedTaken S (fIx S (0 : Int32))) 4 0 S) (fIx S (0 : Int32)) (fX1_isPresumedTaken S (fIx S (0 : Int32)))) 0 0 (S.1 8 (fIx S (0 : Int32)) 3) (S.1 8 (fIx S (0 : Int32)) 0) (fX1_isPresumedTaken S (fIx S (0 : Int32)))) 1 1 (S.1 8 (fIx S (0 : Int32)) 4) (S.1 8 (fIx S (0 : Int32)) 0) (fX1_isPresumedTaken S (fIx S (0 : Int32)))) (fIx S (0 : Int32)) (fX1_isPresumedTaken S (fIx S (0 : Int32)))) 0 0 14 ((S.2.1 0 0 14) + (1 : Int64))) 0 0 12 (((S.1 0 0 12) + (1 : Int32)) &&& (15 : Int32))) 0 0 13 ((S.1 0 0 13) - (1 : Int32))))) (fun z : Bool × uS => z.2) (show (fX4_retire S) = (if (S.1 8 (fIx S (0 : Int32)) 1) = (2 : Int32) then true else false, (uI (uI (uL (fX4_learnLoop (fX4_learnOutcome (fX4_learnOutcome (fX4_learnChoice (lX4_count (fIx S (0 : Int32)) (fX1_isPresumedTaken S (fIx S (0 : Int32))) 4 0 S) (fIx S (0 : Int32)) (fX1_isPresumedTaken S (fIx S (0 : Int32)))) 0 0 (S.1 8 (fIx S (0 : Int32)) 3) (S.1 8 (fIx S (0 : Int32)) 0) (fX1_isPresumedTaken S (fIx S (0 : Int32)))) 1 1 (S.1 8 (fIx S (0 : Int32)) 4) (S.1 8 (fIx S (0 : Int32)) 0) (fX1_isPresumedTaken S (fIx S (0 : Int32)))) (fIx S (0 : Int32)) (fX1_isPresumedTaken S (fIx S (0 : Int32)))) 0 0 14 ((S.2.1 0 0 14) + (1 : Int64))) 0 0 12 (((S.1 0 0 12) + (1 : Int32)) &&& (15 : Int32))) 0 0 13 ((S.1 0 0 13) - (1 : Int32)))) from by unfold fX4_retire; rfl)) dX4_retire_115
def lX4_free : Nat → Nat → uS → uS
  | 0, i, S1 => (S1)
  | n + 1, i, S1 => (lX4_free n (i + 1) (uI S1 9 i 0 (-1 : Int32)))
def lX4_zero : Nat → Nat → uS → uS
  | 0, i, S1 => (S1)
  | n + 1, i, S1 => (lX4_zero n (i + 1) (uL S1 7 0 i (0 : Int64)))
def fX4_startAnew (S : uS) (x1 : Int32) (x2 : Int32) (x3 : Int32) : uS :=
  (uL (uL (uI (uI (uI (lX4_zero 4 0 (lX4_free 8 0 (fX0_startAnew (fX0_startAnew (fX2_startAnew (fX2_startAnew (fX2_startAnew (uI (uI (uI S 0 0 8 x1) 0 0 9 x2) 0 0 10 x3) 0 x1) 1 x2) 2 x1) 0) 1))) 0 0 11 (0 : Int32)) 0 0 12 (0 : Int32)) 0 0 13 (0 : Int32)) 0 0 14 (0 : Int64)) 0 0 15 (0 : Int64))
abbrev rmX4_startAnew : Room := { frames := 1, cells := 0, slots := 0, locals := 22 }
set_option maxHeartbeats 4000000 in
set_option maxRecDepth 100000 in
theorem cX4c_startAnew (l : Launch) (G : gG) (Z : va_W) (S : uS) (x1 : Int32) (x2 : Int32) (x3 : Int32) : kMet l yX4_startAnew wsX4_startAnew rmX4_startAnew G kC Z S [.ref (G.2.2 (0, 0)), .int (x1), .int (x2), .int (x3)] none (fX4_startAnew S x1 x2 x3) := by
  refine kMet_of (cc := cX4_startAnew) (maxL := 5) (ret := none) (by decide) rfl (Nat.le_of_ble_eq_true rfl) ?_
  intro p e s m below meth c hx hb hr hml hlocks hts hown hK hN A hZ hA H locs hw ls hl
  have hl : lv_has ls 5 [(0, .ref (G.2.2 (0, 0))), (1, .int (x1)), (2, .int (x2)), (3, .int (x3))] := hl
  have hiX3 : ∀ w ∈ wsX30, w ∈ wsX4_startAnew := by decide +kernel
  have hiX4 : ∀ w ∈ wsX40, w ∈ wsX4_startAnew := by decide +kernel
  refine lv_aload_n hx hb dX4_startAnew_0 rfl (lv_at hl 0 rfl) ?_
  refine lv_iload_n hx hb dX4_startAnew_1 rfl (lv_at hl 1 rfl) ?_
  refine p_0_8 (v := x1) hx hb hts hiX4 hown hK hw kC_0 (hts (.fieldLink RX4 48 "BranchPredictor" "plainBits" "I") (by decide +kernel)) dX4_startAnew_2 (fun H locs hw => ?_)
  refine lv_aload_n hx hb dX4_startAnew_5 rfl (lv_at hl 0 rfl) ?_
  refine lv_iload_n hx hb dX4_startAnew_6 rfl (lv_at hl 2 rfl) ?_
  refine p_0_9 (v := x2) hx hb hts hiX4 hown hK hw kC_0 (hts (.fieldLink RX4 52 "BranchPredictor" "globalBits" "I") (by decide +kernel)) dX4_startAnew_7 (fun H locs hw => ?_)
  refine lv_aload_n hx hb dX4_startAnew_10 rfl (lv_at hl 0 rfl) ?_
  refine lv_iload_n hx hb dX4_startAnew_11 rfl (lv_at hl 3 rfl) ?_
  refine p_0_10 (v := x3) hx hb hts hiX4 hown hK hw kC_0 (hts (.fieldLink RX4 55 "BranchPredictor" "historyBits" "I") (by decide +kernel)) dX4_startAnew_12 (fun H locs hw => ?_)
  refine lv_aload_n hx hb dX4_startAnew_15 rfl (lv_at hl 0 rfl) ?_
  refine g_0_0 hx hb hts hiX4 hown hK hw kC_0 (hts (.fieldLink RX4 12 "BranchPredictor" "plainTable" "LBranchPredictor$CounterTable;") (by decide +kernel)) dX4_startAnew_16 ?_
  refine lv_iload_n hx hb dX4_startAnew_19 rfl (lv_at hl 1 rfl) ?_
  refine k_callV (C := RX2) (n := 1) (rest := []) ⟨hx, hb, hml, hown, hts⟩ (cX2c_startAnew l G Z (uI (uI (uI S 0 0 8 x1) 0 0 9 x2) 0 0 10 x3) 0 (show (0 : Nat) < 3 from by decide) x1) (cwV 1 hts gX4_startAnew_X2_startAnew rfl rfl rfl (by decide +kernel) ⟨Nat.le_of_ble_eq_true rfl, Nat.le_of_ble_eq_true rfl⟩) (k_recv hK hw (kC_1 (show (0 : Nat) < 3 from by decide)) rfl rfl) hK hN hZ hA hw (Nat.zero_le _) (Nat.zero_le _) rfl hl.1 rfl (Nat.le_of_ble_eq_true rfl) dX4_startAnew_20 (fun H locs hw => ?_)
  refine W.eq (g2 := F0 m 23 ls []) rfl ?_
  refine lv_aload_n hx hb dX4_startAnew_23 rfl (lv_at hl 0 rfl) ?_
  refine g_0_1 hx hb hts hiX4 hown hK hw kC_0 (hts (.fieldLink RX4 16 "BranchPredictor" "globalTable" "LBranchPredictor$CounterTable;") (by decide +kernel)) dX4_startAnew_24 ?_
  refine lv_iload_n hx hb dX4_startAnew_27 rfl (lv_at hl 2 rfl) ?_
  refine k_callV (C := RX2) (n := 1) (rest := []) ⟨hx, hb, hml, hown, hts⟩ (cX2c_startAnew l G Z (fX2_startAnew (uI (uI (uI S 0 0 8 x1) 0 0 9 x2) 0 0 10 x3) 0 x1) 1 (show (1 : Nat) < 3 from by decide) x2) (cwV 1 hts gX4_startAnew_X2_startAnew rfl rfl rfl (by decide +kernel) ⟨Nat.le_of_ble_eq_true rfl, Nat.le_of_ble_eq_true rfl⟩) (k_recv hK hw (kC_1 (show (1 : Nat) < 3 from by decide)) rfl rfl) hK hN hZ hA hw (Nat.zero_le _) (Nat.zero_le _) rfl hl.1 rfl (Nat.le_of_ble_eq_true rfl) dX4_startAnew_28 (fun H locs hw => ?_)
  refine W.eq (g2 := F0 m 31 ls []) rfl ?_
  refine lv_aload_n hx hb dX4_startAnew_31 rfl (lv_at hl 0 rfl) ?_
  refine g_0_2 hx hb hts hiX4 hown hK hw kC_0 (hts (.fieldLink RX4 19 "BranchPredictor" "choiceTable" "LBranchPredictor$CounterTable;") (by decide +kernel)) dX4_startAnew_32 ?_
  refine lv_iload_n hx hb dX4_startAnew_35 rfl (lv_at hl 1 rfl) ?_
  refine k_callV (C := RX2) (n := 1) (rest := []) ⟨hx, hb, hml, hown, hts⟩ (cX2c_startAnew l G Z (fX2_startAnew (fX2_startAnew (uI (uI (uI S 0 0 8 x1) 0 0 9 x2) 0 0 10 x3) 0 x1) 1 x2) 2 (show (2 : Nat) < 3 from by decide) x1) (cwV 1 hts gX4_startAnew_X2_startAnew rfl rfl rfl (by decide +kernel) ⟨Nat.le_of_ble_eq_true rfl, Nat.le_of_ble_eq_true rfl⟩) (k_recv hK hw (kC_1 (show (2 : Nat) < 3 from by decide)) rfl rfl) hK hN hZ hA hw (Nat.zero_le _) (Nat.zero_le _) rfl hl.1 rfl (Nat.le_of_ble_eq_true rfl) dX4_startAnew_36 (fun H locs hw => ?_)
  refine W.eq (g2 := F0 m 39 ls []) rfl ?_
  refine lv_aload_n hx hb dX4_startAnew_39 rfl (lv_at hl 0 rfl) ?_
  refine g_0_3 hx hb hts hiX4 hown hK hw kC_0 (hts (.fieldLink RX4 25 "BranchPredictor" "plainAudit" "LBranchPredictor$Audit;") (by decide +kernel)) dX4_startAnew_40 ?_
  refine k_callV (C := RX0) (n := 0) (rest := []) ⟨hx, hb, hml, hown, hts⟩ (cX0c_startAnew l G Z (fX2_startAnew (fX2_startAnew (fX2_startAnew (uI (uI (uI S 0 0 8 x1) 0 0 9 x2) 0 0 10 x3) 0 x1) 1 x2) 2 x1) 0 (show (0 : Nat) < 2 from by decide)) (cwV 0 hts gX4_startAnew_X0_startAnew rfl rfl rfl (by decide +kernel) ⟨Nat.le_of_ble_eq_true rfl, Nat.le_of_ble_eq_true rfl⟩) (k_recv hK hw (kC_3 (show (0 : Nat) < 2 from by decide)) rfl rfl) hK hN hZ hA hw (Nat.zero_le _) (Nat.zero_le _) rfl hl.1 rfl (Nat.le_of_ble_eq_true rfl) dX4_startAnew_43 (fun H locs hw => ?_)
  refine W.eq (g2 := F0 m 46 ls []) rfl ?_
  refine lv_aload_n hx hb dX4_startAnew_46 rfl (lv_at hl 0 rfl) ?_
  refine g_0_4 hx hb hts hiX4 hown hK hw kC_0 (hts (.fieldLink RX4 29 "BranchPredictor" "globalAudit" "LBranchPredictor$Audit;") (by decide +kernel)) dX4_startAnew_47 ?_
  refine k_callV (C := RX0) (n := 0) (rest := []) ⟨hx, hb, hml, hown, hts⟩ (cX0c_startAnew l G Z (fX0_startAnew (fX2_startAnew (fX2_startAnew (fX2_startAnew (uI (uI (uI S 0 0 8 x1) 0 0 9 x2) 0 0 10 x3) 0 x1) 1 x2) 2 x1) 0) 1 (show (1 : Nat) < 2 from by decide)) (cwV 0 hts gX4_startAnew_X0_startAnew rfl rfl rfl (by decide +kernel) ⟨Nat.le_of_ble_eq_true rfl, Nat.le_of_ble_eq_true rfl⟩) (k_recv hK hw (kC_3 (show (1 : Nat) < 2 from by decide)) rfl rfl) hK hN hZ hA hw (Nat.zero_le _) (Nat.zero_le _) rfl hl.1 rfl (Nat.le_of_ble_eq_true rfl) dX4_startAnew_50 (fun H locs hw => ?_)
  refine W.eq (g2 := F0 m 53 ls []) rfl ?_
  refine lv_iconst (v := 0) hx hb dX4_startAnew_53 (by decide) ?_
  refine lv_istore (lv' := [(4, .int ((0 : Int32))), (0, .ref (G.2.2 (0, 0))), (1, .int (x1)), (2, .int (x2)), (3, .int (x3))]) hx hb dX4_startAnew_54 hl (by decide) rfl (fun ls hl => ?_)
  have hloop_lX4_free : ∀ (n i : Nat) (S1 : uS) (H : Heap) (locs : List Loc) (ls : Array Slot), i + n = 8 → kS G kC S1 Z A s.heap H locs → lv_has ls 5 [(0, .ref (G.2.2 (0, 0))), (1, .int (x1)), (2, .int (x2)), (3, .int (x3)), (4, .int (nI i))] → (∀ (H : Heap) (locs : List Loc) (ls : Array Slot), kS G kC (lX4_free n i S1) Z A s.heap H locs → lv_has ls 5 [(0, .ref (G.2.2 (0, 0))), (1, .int (x1)), (2, .int (x2)), (3, .int (x3)), (4, .int (nI 8))] → W p l e rmX4_startAnew s m [.ref (G.2.2 (0, 0)), .int (x1), .int (x2), .int (x3)].toArray below meth c H locs 0 0 (MQ below (kQ G kC Z A none (fX4_startAnew S x1 x2 x3)) [.ref (G.2.2 (0, 0)), .int (x1), .int (x2), .int (x3)].toArray s 0 0 A) (F0 m 80 ls [])) → W p l e rmX4_startAnew s m [.ref (G.2.2 (0, 0)), .int (x1), .int (x2), .int (x3)].toArray below meth c H locs 0 0 (MQ below (kQ G kC Z A none (fX4_startAnew S x1 x2 x3)) [.ref (G.2.2 (0, 0)), .int (x1), .int (x2), .int (x3)].toArray s 0 0 A) (F0 m 56 ls []) := by
    intro n
    induction n with
    | zero =>
      intro i S1 H locs ls hin hw hl kx
      have z_1 : (8 : Int32) ≤ (nI i) := (nI_le (a := 8) (b := i) (by omega) (by omega))
      refine lv_iload hx hb dX4_startAnew_56 (lv_at hl 4 rfl) ?_
      refine lv_bipush (v := 8) hx hb dX4_startAnew_58 (by decide) ?_
      refine lv_icmp_ge (tgt := 80) hx hb dX4_startAnew_60 (by decide) (fun _ => ?_) (fun h9 => absurd z_1 h9)
      have hin : i = 8 := hin
      rw [hin] at hl
      exact kx H locs ls hw (lv_sub hl [0, 1, 2, 3, 4] rfl)
    | succ n ih =>
      intro i S1 H locs ls hin hw hl kx
      have hi : i < 8 := by omega
      have hi31 : i < 2 ^ 31 := Nat.lt_trans hi (by decide)
      have z_2 : ¬ ((8 : Int32) ≤ (nI i)) := (nI_ge (a := i) (b := 8) hi (by decide))
      refine lv_iload hx hb dX4_startAnew_56 (lv_at hl 4 rfl) ?_
      refine lv_bipush (v := 8) hx hb dX4_startAnew_58 (by decide) ?_
      refine lv_icmp_ge (tgt := 80) hx hb dX4_startAnew_60 (by decide) (fun h9 => absurd h9 z_2) (fun _ => ?_)
      refine lv_aload_n hx hb dX4_startAnew_63 rfl (lv_at hl 0 rfl) ?_
      refine g_0_6 hx hb hts hiX4 hown hK hw kC_0 (hts (.fieldLink RX4 40 "BranchPredictor" "loops" "[LBranchPredictor$Loop;") (by decide +kernel)) dX4_startAnew_64 ?_
      refine lv_iload hx hb dX4_startAnew_67 (lv_at hl 4 rfl) ?_
      refine ald_6 hx hb hK hw kC_6 (vp_in_nI (by first | omega | (split <;> omega)) (by decide)) dX4_startAnew_69 ?_
      rw [nI_clamp hi31]
      refine lv_iconst (v := -1) hx hb dX4_startAnew_70 (by decide) ?_
      refine p_9_0 (v := (-1 : Int32)) hx hb hts hiX3 hown hK hw (kC_9 (Nat.lt_of_lt_of_le hi (by decide))) (hts (.fieldLink RX4 157 "BranchPredictor$Loop" "place" "I") (by decide +kernel)) dX4_startAnew_71 (fun H locs hw => ?_)
      refine lv_iinc (v := nI (i + 1)) (lv' := [(4, .int (nI (i + 1))), (0, .ref (G.2.2 (0, 0))), (1, .int (x1)), (2, .int (x2)), (3, .int (x3))]) hx hb dX4_startAnew_74 hl (k := 4) rfl (by rw [← nI_1]; rfl) (by decide) rfl (fun ls hl => ?_)
      refine lv_goto (tgt := 56) hx hb dX4_startAnew_77 (by decide) ?_
      exact ih (i + 1) (uI S1 9 i 0 (-1 : Int32)) H locs ls (by omega) hw (lv_sub hl [1, 2, 3, 4, 0] rfl) (by rw [(show (lX4_free (n + 1) i S1) = (lX4_free n (i + 1) (uI S1 9 i 0 (-1 : Int32))) from by rw [lX4_free])] at kx; exact kx)
  refine hloop_lX4_free 8 0 (fX0_startAnew (fX0_startAnew (fX2_startAnew (fX2_startAnew (fX2_startAnew (uI (uI (uI S 0 0 8 x1) 0 0 9 x2) 0 0 10 x3) 0 x1) 1 x2) 2 x1) 0) 1) H locs ls (by omega) hw (lv_sub hl [1, 2, 3, 4, 0] rfl) (fun H locs ls hw hl => ?_)
  refine lv_iconst (v := 0) hx hb dX4_startAnew_80 (by decide) ?_
  refine lv_istore (lv' := [(4, .int ((0 : Int32))), (0, .ref (G.2.2 (0, 0))), (1, .int (x1)), (2, .int (x2)), (3, .int (x3))]) hx hb dX4_startAnew_81 hl (by decide) rfl (fun ls hl => ?_)
  have hloop_lX4_zero : ∀ (n i : Nat) (S1 : uS) (H : Heap) (locs : List Loc) (ls : Array Slot), i + n = 4 → kS G kC S1 Z A s.heap H locs → lv_has ls 5 [(0, .ref (G.2.2 (0, 0))), (1, .int (x1)), (2, .int (x2)), (3, .int (x3)), (4, .int (nI i))] → (∀ (H : Heap) (locs : List Loc) (ls : Array Slot), kS G kC (lX4_zero n i S1) Z A s.heap H locs → lv_has ls 5 [(0, .ref (G.2.2 (0, 0))), (1, .int (x1)), (2, .int (x2)), (3, .int (x3)), (4, .int (nI 4))] → W p l e rmX4_startAnew s m [.ref (G.2.2 (0, 0)), .int (x1), .int (x2), .int (x3)].toArray below meth c H locs 0 0 (MQ below (kQ G kC Z A none (fX4_startAnew S x1 x2 x3)) [.ref (G.2.2 (0, 0)), .int (x1), .int (x2), .int (x3)].toArray s 0 0 A) (F0 m 103 ls [])) → W p l e rmX4_startAnew s m [.ref (G.2.2 (0, 0)), .int (x1), .int (x2), .int (x3)].toArray below meth c H locs 0 0 (MQ below (kQ G kC Z A none (fX4_startAnew S x1 x2 x3)) [.ref (G.2.2 (0, 0)), .int (x1), .int (x2), .int (x3)].toArray s 0 0 A) (F0 m 83 ls []) := by
    intro n
    induction n with
    | zero =>
      intro i S1 H locs ls hin hw hl kx
      have z_3 : (4 : Int32) ≤ (nI i) := (nI_le (a := 4) (b := i) (by omega) (by omega))
      refine lv_iload hx hb dX4_startAnew_83 (lv_at hl 4 rfl) ?_
      refine lv_iconst (v := 4) hx hb dX4_startAnew_85 (by decide) ?_
      refine lv_icmp_ge (tgt := 103) hx hb dX4_startAnew_86 (by decide) (fun _ => ?_) (fun h9 => absurd z_3 h9)
      have hin : i = 4 := hin
      rw [hin] at hl
      exact kx H locs ls hw (lv_sub hl [0, 1, 2, 3, 4] rfl)
    | succ n ih =>
      intro i S1 H locs ls hin hw hl kx
      have hi : i < 4 := by omega
      have hi31 : i < 2 ^ 31 := Nat.lt_trans hi (by decide)
      have z_4 : ¬ ((4 : Int32) ≤ (nI i)) := (nI_ge (a := i) (b := 4) hi (by decide))
      refine lv_iload hx hb dX4_startAnew_83 (lv_at hl 4 rfl) ?_
      refine lv_iconst (v := 4) hx hb dX4_startAnew_85 (by decide) ?_
      refine lv_icmp_ge (tgt := 103) hx hb dX4_startAnew_86 (by decide) (fun h9 => absurd h9 z_4) (fun _ => ?_)
      refine lv_aload_n hx hb dX4_startAnew_89 rfl (lv_at hl 0 rfl) ?_
      refine g_0_7 hx hb hts hiX4 hown hK hw kC_0 (hts (.fieldLink RX4 44 "BranchPredictor" "missed" "[J") (by decide +kernel)) dX4_startAnew_90 ?_
      refine lv_iload hx hb dX4_startAnew_93 (lv_at hl 4 rfl) ?_
      refine lv_lconst (v := 0) hx hb dX4_startAnew_95 (by decide) ?_
      refine st_7_0 (x := (0 : Int64)) hx hb hK hw kC_7 (vp_in_nI (by first | omega | (split <;> omega)) (by decide)) dX4_startAnew_96 (fun H locs hw => ?_)
      rw [nI_clamp hi31] at hw
      refine lv_iinc (v := nI (i + 1)) (lv' := [(4, .int (nI (i + 1))), (0, .ref (G.2.2 (0, 0))), (1, .int (x1)), (2, .int (x2)), (3, .int (x3))]) hx hb dX4_startAnew_97 hl (k := 4) rfl (by rw [← nI_1]; rfl) (by decide) rfl (fun ls hl => ?_)
      refine lv_goto (tgt := 83) hx hb dX4_startAnew_100 (by decide) ?_
      exact ih (i + 1) (uL S1 7 0 i (0 : Int64)) H locs ls (by omega) hw (lv_sub hl [1, 2, 3, 4, 0] rfl) (by rw [(show (lX4_zero (n + 1) i S1) = (lX4_zero n (i + 1) (uL S1 7 0 i (0 : Int64))) from by rw [lX4_zero])] at kx; exact kx)
  refine hloop_lX4_zero 4 0 (lX4_free 8 0 (fX0_startAnew (fX0_startAnew (fX2_startAnew (fX2_startAnew (fX2_startAnew (uI (uI (uI S 0 0 8 x1) 0 0 9 x2) 0 0 10 x3) 0 x1) 1 x2) 2 x1) 0) 1)) H locs ls (by omega) hw (lv_sub hl [1, 2, 3, 4, 0] rfl) (fun H locs ls hw hl => ?_)
  refine lv_aload_n hx hb dX4_startAnew_103 rfl (lv_at hl 0 rfl) ?_
  refine lv_iconst (v := 0) hx hb dX4_startAnew_104 (by decide) ?_
  refine p_0_11 (v := (0 : Int32)) hx hb hts hiX4 hown hK hw kC_0 (hts (.fieldLink RX4 119 "BranchPredictor" "outcomes" "I") (by decide +kernel)) dX4_startAnew_105 (fun H locs hw => ?_)
  refine lv_aload_n hx hb dX4_startAnew_108 rfl (lv_at hl 0 rfl) ?_
  refine lv_iconst (v := 0) hx hb dX4_startAnew_109 (by decide) ?_
  refine p_0_12 (v := (0 : Int32)) hx hb hts hiX4 hown hK hw kC_0 (hts (.fieldLink RX4 210 "BranchPredictor" "oldest" "I") (by decide +kernel)) dX4_startAnew_110 (fun H locs hw => ?_)
  refine lv_aload_n hx hb dX4_startAnew_113 rfl (lv_at hl 0 rfl) ?_
  refine lv_iconst (v := 0) hx hb dX4_startAnew_114 (by decide) ?_
  refine p_0_13 (v := (0 : Int32)) hx hb hts hiX4 hown hK hw kC_0 (hts (.fieldLink RX4 79 "BranchPredictor" "flying" "I") (by decide +kernel)) dX4_startAnew_115 (fun H locs hw => ?_)
  refine lv_aload_n hx hb dX4_startAnew_118 rfl (lv_at hl 0 rfl) ?_
  refine lv_lconst (v := 0) hx hb dX4_startAnew_119 (by decide) ?_
  refine p_0_14 (v := (0 : Int64)) hx hb hts hiX4 hown hK hw kC_0 (hts (.fieldLink RX4 171 "BranchPredictor" "committed" "J") (by decide +kernel)) dX4_startAnew_120 (fun H locs hw => ?_)
  refine lv_aload_n hx hb dX4_startAnew_123 rfl (lv_at hl 0 rfl) ?_
  refine lv_lconst (v := 0) hx hb dX4_startAnew_124 (by decide) ?_
  refine p_0_15 (v := (0 : Int64)) hx hb hts hiX4 hown hK hw kC_0 (hts (.fieldLink RX4 175 "BranchPredictor" "dropped" "J") (by decide +kernel)) dX4_startAnew_125 (fun H locs hw => ?_)
  exact k_vret hx hb hr hlocks hK hw rfl (by unfold fX4_startAnew; rfl) dX4_startAnew_128
def fX3_mixInto (S : uS) (k4 : Nat) (z1 : Int64) : Int64 :=
  (((((((z1 * (31 : Int64)) + (if (fX3_isFree S k4) = false then (S.1 9 k4 0).toInt64 else (-1 : Int64))) * (31 : Int64)) + (if (fX3_isFree S k4) = false then (S.1 9 k4 1).toInt64 else (-1 : Int64))) * (31 : Int64)) + (if (fX3_isFree S k4) = false then (S.1 9 k4 2).toInt64 else (-1 : Int64))) * (31 : Int64)) + (if (fX3_isFree S k4) = false then (S.1 9 k4 3).toInt64 else (-1 : Int64))
abbrev rmX3_mixInto : Room := { frames := 1, cells := 0, slots := 0, locals := 23 }
set_option maxHeartbeats 4000000 in
set_option maxRecDepth 100000 in
theorem cX3c_mixInto (l : Launch) (G : gG) (Z : va_W) (S : uS) (k4 : Nat) (h_k4 : k4 < 8) (z1 : Int64) : kMet l yX3_mixInto wsX3_mixInto rmX3_mixInto G kC Z S [.ref (G.2.2 (9, k4)), .long (z1)] (some (.long ((fX3_mixInto S k4 z1)))) S := by
  refine kMet_of (cc := cX3_mixInto) (maxL := 6) (ret := (some .long)) (by decide) rfl (Nat.le_of_ble_eq_true rfl) ?_
  intro p e s m below meth c hx hb hr hml hlocks hts hown hK hN A hZ hA H locs hw ls hl
  have hl : lv_has ls 6 [(0, .ref (G.2.2 (9, k4))), (1, .long (z1))] := hl
  have hiX3 : ∀ w ∈ wsX30, w ∈ wsX3_mixInto := by decide +kernel
  refine lv_aload_n hx hb dX3_mixInto_0 rfl (lv_at hl 0 rfl) ?_
  refine k_callV (C := RX3) (n := 0) (rest := []) ⟨hx, hb, hml, hown, hts⟩ (cX3c_isFree l G Z S k4 h_k4) (cwV 0 hts gX3_mixInto_X3_isFree rfl rfl rfl (by decide +kernel) ⟨Nat.le_of_ble_eq_true rfl, Nat.le_of_ble_eq_true rfl⟩) (k_recv hK hw (kC_9 h_k4) rfl rfl) hK hN hZ hA hw (Nat.zero_le _) (Nat.zero_le _) rfl hl.1 rfl (Nat.le_of_ble_eq_true rfl) dX3_mixInto_1 (fun H locs hw => ?_)
  refine W.eq (g2 := F0 m 4 ls [.int (bI ((fX3_isFree S k4)))]) rfl ?_
  refine lv_istore_n (lv' := [(3, .int (bI ((fX3_isFree S k4)))), (0, .ref (G.2.2 (9, k4))), (1, .long (z1))]) hx hb dX3_mixInto_4 rfl hl (by decide) rfl (fun ls hl => ?_)
  refine lv_lload_n hx hb dX3_mixInto_5 rfl (lv_at hl 2 rfl) ?_
  refine lv_iload_n hx hb dX3_mixInto_6 rfl (lv_at hl 0 rfl) ?_
  refine k_join (P := fun x9 : Int64 => W p l e rmX3_mixInto s m [.ref (G.2.2 (9, k4)), .long (z1)].toArray below meth c H locs 0 0 (MQ below (kQ G kC Z A (some (.long ((fX3_mixInto S k4 z1)))) S) [.ref (G.2.2 (9, k4)), .long (z1)].toArray s 0 0 A) (F0 m 21 ls [.long (x9), .long (z1)])) (C := (fX3_isFree S k4) = false) (a := (S.1 9 k4 0).toInt64) (b := (-1 : Int64)) ?_ (fun ka kb => ?_)
  rotate_left
  · refine k_if_eq (b := (fX3_isFree S k4)) (tgt := 16) hx hb dX3_mixInto_7 (by decide) (fun c_1 => ?_) (fun c_1 => ?_)
    · skip
      refine lv_aload_n hx hb dX3_mixInto_16 rfl (lv_at hl 1 rfl) ?_
      refine g_9_0 hx hb hts hiX3 hown hK hw (kC_9 h_k4) (hts (.fieldLink RX3 9 "BranchPredictor$Loop" "place" "I") (by decide +kernel)) dX3_mixInto_17 ?_
      refine lv_i2l (v := (S.1 9 k4 0).toInt64) hx hb dX3_mixInto_20 rfl ?_
      exact ka c_1
    · skip
      refine lv_ldc2 (v := -1) hx hb hown (hts (.constantLong RX3 34 (-1)) (by decide +kernel)) dX3_mixInto_10 ?_
      refine lv_goto (tgt := 21) hx hb dX3_mixInto_13 (by decide) ?_
      exact kb c_1
  show W p l e rmX3_mixInto s m [.ref (G.2.2 (9, k4)), .long (z1)].toArray below meth c H locs 0 0 (MQ below (kQ G kC Z A (some (.long ((fX3_mixInto S k4 z1)))) S) [.ref (G.2.2 (9, k4)), .long (z1)].toArray s 0 0 A) (F0 m 21 ls [.long (if (fX3_isFree S k4) = false then (S.1 9 k4 0).toInt64 else (-1 : Int64)), .long (z1)])
  refine k_callSN (host := "BranchPredictor") (n := 2) (rest := []) ⟨hx, hb, hml, hown, hts⟩ (cX4c_mix l G Z S z1 (if (fX3_isFree S k4) = false then (S.1 9 k4 0).toInt64 else (-1 : Int64))) ⟨va_cnB 2 hts gX3_mixInto_X4_mix_n36 rfl rfl rfl hN.2.2.1 (hts (.initialized RX4) (by decide +kernel)) (by decide +kernel) ⟨Nat.le_of_ble_eq_true rfl, Nat.le_of_ble_eq_true rfl⟩, (hts (.static yX4_mix) (by decide +kernel)), trivial⟩ hK hN hZ hA hw (Nat.zero_le _) (Nat.zero_le _) rfl hl.1 rfl (Nat.le_of_ble_eq_true rfl) dX3_mixInto_21 (fun H locs hw => ?_)
  refine W.eq (g2 := F0 m 24 ls [.long ((z1 * (31 : Int64)) + (if (fX3_isFree S k4) = false then (S.1 9 k4 0).toInt64 else (-1 : Int64)))]) rfl ?_
  refine lv_lstore (lv' := [(4, .long ((z1 * (31 : Int64)) + (if (fX3_isFree S k4) = false then (S.1 9 k4 0).toInt64 else (-1 : Int64)))), (3, .int (bI ((fX3_isFree S k4)))), (0, .ref (G.2.2 (9, k4))), (1, .long (z1))]) hx hb dX3_mixInto_24 hl (by decide) rfl (fun ls hl => ?_)
  refine lv_lload hx hb dX3_mixInto_26 (lv_at hl 0 rfl) ?_
  refine lv_iload_n hx hb dX3_mixInto_28 rfl (lv_at hl 1 rfl) ?_
  refine k_join (P := fun x9 : Int64 => W p l e rmX3_mixInto s m [.ref (G.2.2 (9, k4)), .long (z1)].toArray below meth c H locs 0 0 (MQ below (kQ G kC Z A (some (.long ((fX3_mixInto S k4 z1)))) S) [.ref (G.2.2 (9, k4)), .long (z1)].toArray s 0 0 A) (F0 m 43 ls [.long (x9), .long ((z1 * (31 : Int64)) + (if (fX3_isFree S k4) = false then (S.1 9 k4 0).toInt64 else (-1 : Int64)))])) (C := (fX3_isFree S k4) = false) (a := (S.1 9 k4 1).toInt64) (b := (-1 : Int64)) ?_ (fun ka kb => ?_)
  rotate_left
  · refine k_if_eq (b := (fX3_isFree S k4)) (tgt := 38) hx hb dX3_mixInto_29 (by decide) (fun c_2 => ?_) (fun c_2 => ?_)
    · skip
      refine lv_aload_n hx hb dX3_mixInto_38 rfl (lv_at hl 2 rfl) ?_
      refine g_9_1 hx hb hts hiX3 hown hK hw (kC_9 h_k4) (hts (.fieldLink RX3 15 "BranchPredictor$Loop" "count" "I") (by decide +kernel)) dX3_mixInto_39 ?_
      refine lv_i2l (v := (S.1 9 k4 1).toInt64) hx hb dX3_mixInto_42 rfl ?_
      exact ka c_2
    · skip
      refine lv_ldc2 (v := -1) hx hb hown (hts (.constantLong RX3 34 (-1)) (by decide +kernel)) dX3_mixInto_32 ?_
      refine lv_goto (tgt := 43) hx hb dX3_mixInto_35 (by decide) ?_
      exact kb c_2
  show W p l e rmX3_mixInto s m [.ref (G.2.2 (9, k4)), .long (z1)].toArray below meth c H locs 0 0 (MQ below (kQ G kC Z A (some (.long ((fX3_mixInto S k4 z1)))) S) [.ref (G.2.2 (9, k4)), .long (z1)].toArray s 0 0 A) (F0 m 43 ls [.long (if (fX3_isFree S k4) = false then (S.1 9 k4 1).toInt64 else (-1 : Int64)), .long ((z1 * (31 : Int64)) + (if (fX3_isFree S k4) = false then (S.1 9 k4 0).toInt64 else (-1 : Int64)))])
  refine k_callSN (host := "BranchPredictor") (n := 2) (rest := []) ⟨hx, hb, hml, hown, hts⟩ (cX4c_mix l G Z S ((z1 * (31 : Int64)) + (if (fX3_isFree S k4) = false then (S.1 9 k4 0).toInt64 else (-1 : Int64))) (if (fX3_isFree S k4) = false then (S.1 9 k4 1).toInt64 else (-1 : Int64))) ⟨va_cnB 2 hts gX3_mixInto_X4_mix_n36 rfl rfl rfl hN.2.2.1 (hts (.initialized RX4) (by decide +kernel)) (by decide +kernel) ⟨Nat.le_of_ble_eq_true rfl, Nat.le_of_ble_eq_true rfl⟩, (hts (.static yX4_mix) (by decide +kernel)), trivial⟩ hK hN hZ hA hw (Nat.zero_le _) (Nat.zero_le _) rfl hl.1 rfl (Nat.le_of_ble_eq_true rfl) dX3_mixInto_43 (fun H locs hw => ?_)
  refine W.eq (g2 := F0 m 46 ls [.long ((((z1 * (31 : Int64)) + (if (fX3_isFree S k4) = false then (S.1 9 k4 0).toInt64 else (-1 : Int64))) * (31 : Int64)) + (if (fX3_isFree S k4) = false then (S.1 9 k4 1).toInt64 else (-1 : Int64)))]) rfl ?_
  refine lv_lstore (lv' := [(4, .long ((((z1 * (31 : Int64)) + (if (fX3_isFree S k4) = false then (S.1 9 k4 0).toInt64 else (-1 : Int64))) * (31 : Int64)) + (if (fX3_isFree S k4) = false then (S.1 9 k4 1).toInt64 else (-1 : Int64)))), (3, .int (bI ((fX3_isFree S k4)))), (0, .ref (G.2.2 (9, k4))), (1, .long (z1))]) hx hb dX3_mixInto_46 hl (by decide) rfl (fun ls hl => ?_)
  refine lv_lload hx hb dX3_mixInto_48 (lv_at hl 0 rfl) ?_
  refine lv_iload_n hx hb dX3_mixInto_50 rfl (lv_at hl 1 rfl) ?_
  refine k_join (P := fun x9 : Int64 => W p l e rmX3_mixInto s m [.ref (G.2.2 (9, k4)), .long (z1)].toArray below meth c H locs 0 0 (MQ below (kQ G kC Z A (some (.long ((fX3_mixInto S k4 z1)))) S) [.ref (G.2.2 (9, k4)), .long (z1)].toArray s 0 0 A) (F0 m 65 ls [.long (x9), .long ((((z1 * (31 : Int64)) + (if (fX3_isFree S k4) = false then (S.1 9 k4 0).toInt64 else (-1 : Int64))) * (31 : Int64)) + (if (fX3_isFree S k4) = false then (S.1 9 k4 1).toInt64 else (-1 : Int64)))])) (C := (fX3_isFree S k4) = false) (a := (S.1 9 k4 2).toInt64) (b := (-1 : Int64)) ?_ (fun ka kb => ?_)
  rotate_left
  · refine k_if_eq (b := (fX3_isFree S k4)) (tgt := 60) hx hb dX3_mixInto_51 (by decide) (fun c_3 => ?_) (fun c_3 => ?_)
    · skip
      refine lv_aload_n hx hb dX3_mixInto_60 rfl (lv_at hl 2 rfl) ?_
      refine g_9_2 hx hb hts hiX3 hown hK hw (kC_9 h_k4) (hts (.fieldLink RX3 18 "BranchPredictor$Loop" "trip" "I") (by decide +kernel)) dX3_mixInto_61 ?_
      refine lv_i2l (v := (S.1 9 k4 2).toInt64) hx hb dX3_mixInto_64 rfl ?_
      exact ka c_3
    · skip
      refine lv_ldc2 (v := -1) hx hb hown (hts (.constantLong RX3 34 (-1)) (by decide +kernel)) dX3_mixInto_54 ?_
      refine lv_goto (tgt := 65) hx hb dX3_mixInto_57 (by decide) ?_
      exact kb c_3
  show W p l e rmX3_mixInto s m [.ref (G.2.2 (9, k4)), .long (z1)].toArray below meth c H locs 0 0 (MQ below (kQ G kC Z A (some (.long ((fX3_mixInto S k4 z1)))) S) [.ref (G.2.2 (9, k4)), .long (z1)].toArray s 0 0 A) (F0 m 65 ls [.long (if (fX3_isFree S k4) = false then (S.1 9 k4 2).toInt64 else (-1 : Int64)), .long ((((z1 * (31 : Int64)) + (if (fX3_isFree S k4) = false then (S.1 9 k4 0).toInt64 else (-1 : Int64))) * (31 : Int64)) + (if (fX3_isFree S k4) = false then (S.1 9 k4 1).toInt64 else (-1 : Int64)))])
  refine k_callSN (host := "BranchPredictor") (n := 2) (rest := []) ⟨hx, hb, hml, hown, hts⟩ (cX4c_mix l G Z S ((((z1 * (31 : Int64)) + (if (fX3_isFree S k4) = false then (S.1 9 k4 0).toInt64 else (-1 : Int64))) * (31 : Int64)) + (if (fX3_isFree S k4) = false then (S.1 9 k4 1).toInt64 else (-1 : Int64))) (if (fX3_isFree S k4) = false then (S.1 9 k4 2).toInt64 else (-1 : Int64))) ⟨va_cnB 2 hts gX3_mixInto_X4_mix_n36 rfl rfl rfl hN.2.2.1 (hts (.initialized RX4) (by decide +kernel)) (by decide +kernel) ⟨Nat.le_of_ble_eq_true rfl, Nat.le_of_ble_eq_true rfl⟩, (hts (.static yX4_mix) (by decide +kernel)), trivial⟩ hK hN hZ hA hw (Nat.zero_le _) (Nat.zero_le _) rfl hl.1 rfl (Nat.le_of_ble_eq_true rfl) dX3_mixInto_65 (fun H locs hw => ?_)
  refine W.eq (g2 := F0 m 68 ls [.long ((((((z1 * (31 : Int64)) + (if (fX3_isFree S k4) = false then (S.1 9 k4 0).toInt64 else (-1 : Int64))) * (31 : Int64)) + (if (fX3_isFree S k4) = false then (S.1 9 k4 1).toInt64 else (-1 : Int64))) * (31 : Int64)) + (if (fX3_isFree S k4) = false then (S.1 9 k4 2).toInt64 else (-1 : Int64)))]) rfl ?_
  refine lv_lstore (lv' := [(4, .long ((((((z1 * (31 : Int64)) + (if (fX3_isFree S k4) = false then (S.1 9 k4 0).toInt64 else (-1 : Int64))) * (31 : Int64)) + (if (fX3_isFree S k4) = false then (S.1 9 k4 1).toInt64 else (-1 : Int64))) * (31 : Int64)) + (if (fX3_isFree S k4) = false then (S.1 9 k4 2).toInt64 else (-1 : Int64)))), (3, .int (bI ((fX3_isFree S k4)))), (0, .ref (G.2.2 (9, k4))), (1, .long (z1))]) hx hb dX3_mixInto_68 hl (by decide) rfl (fun ls hl => ?_)
  refine lv_lload hx hb dX3_mixInto_70 (lv_at hl 0 rfl) ?_
  refine lv_iload_n hx hb dX3_mixInto_72 rfl (lv_at hl 1 rfl) ?_
  refine k_join (P := fun x9 : Int64 => W p l e rmX3_mixInto s m [.ref (G.2.2 (9, k4)), .long (z1)].toArray below meth c H locs 0 0 (MQ below (kQ G kC Z A (some (.long ((fX3_mixInto S k4 z1)))) S) [.ref (G.2.2 (9, k4)), .long (z1)].toArray s 0 0 A) (F0 m 87 ls [.long (x9), .long ((((((z1 * (31 : Int64)) + (if (fX3_isFree S k4) = false then (S.1 9 k4 0).toInt64 else (-1 : Int64))) * (31 : Int64)) + (if (fX3_isFree S k4) = false then (S.1 9 k4 1).toInt64 else (-1 : Int64))) * (31 : Int64)) + (if (fX3_isFree S k4) = false then (S.1 9 k4 2).toInt64 else (-1 : Int64)))])) (C := (fX3_isFree S k4) = false) (a := (S.1 9 k4 3).toInt64) (b := (-1 : Int64)) ?_ (fun ka kb => ?_)
  rotate_left
  · refine k_if_eq (b := (fX3_isFree S k4)) (tgt := 82) hx hb dX3_mixInto_73 (by decide) (fun c_4 => ?_) (fun c_4 => ?_)
    · skip
      refine lv_aload_n hx hb dX3_mixInto_82 rfl (lv_at hl 2 rfl) ?_
      refine g_9_3 hx hb hts hiX3 hown hK hw (kC_9 h_k4) (hts (.fieldLink RX3 21 "BranchPredictor$Loop" "trust" "I") (by decide +kernel)) dX3_mixInto_83 ?_
      refine lv_i2l (v := (S.1 9 k4 3).toInt64) hx hb dX3_mixInto_86 rfl ?_
      exact ka c_4
    · skip
      refine lv_ldc2 (v := -1) hx hb hown (hts (.constantLong RX3 34 (-1)) (by decide +kernel)) dX3_mixInto_76 ?_
      refine lv_goto (tgt := 87) hx hb dX3_mixInto_79 (by decide) ?_
      exact kb c_4
  show W p l e rmX3_mixInto s m [.ref (G.2.2 (9, k4)), .long (z1)].toArray below meth c H locs 0 0 (MQ below (kQ G kC Z A (some (.long ((fX3_mixInto S k4 z1)))) S) [.ref (G.2.2 (9, k4)), .long (z1)].toArray s 0 0 A) (F0 m 87 ls [.long (if (fX3_isFree S k4) = false then (S.1 9 k4 3).toInt64 else (-1 : Int64)), .long ((((((z1 * (31 : Int64)) + (if (fX3_isFree S k4) = false then (S.1 9 k4 0).toInt64 else (-1 : Int64))) * (31 : Int64)) + (if (fX3_isFree S k4) = false then (S.1 9 k4 1).toInt64 else (-1 : Int64))) * (31 : Int64)) + (if (fX3_isFree S k4) = false then (S.1 9 k4 2).toInt64 else (-1 : Int64)))])
  refine k_callSN (host := "BranchPredictor") (n := 2) (rest := []) ⟨hx, hb, hml, hown, hts⟩ (cX4c_mix l G Z S ((((((z1 * (31 : Int64)) + (if (fX3_isFree S k4) = false then (S.1 9 k4 0).toInt64 else (-1 : Int64))) * (31 : Int64)) + (if (fX3_isFree S k4) = false then (S.1 9 k4 1).toInt64 else (-1 : Int64))) * (31 : Int64)) + (if (fX3_isFree S k4) = false then (S.1 9 k4 2).toInt64 else (-1 : Int64))) (if (fX3_isFree S k4) = false then (S.1 9 k4 3).toInt64 else (-1 : Int64))) ⟨va_cnB 2 hts gX3_mixInto_X4_mix_n36 rfl rfl rfl hN.2.2.1 (hts (.initialized RX4) (by decide +kernel)) (by decide +kernel) ⟨Nat.le_of_ble_eq_true rfl, Nat.le_of_ble_eq_true rfl⟩, (hts (.static yX4_mix) (by decide +kernel)), trivial⟩ hK hN hZ hA hw (Nat.zero_le _) (Nat.zero_le _) rfl hl.1 rfl (Nat.le_of_ble_eq_true rfl) dX3_mixInto_87 (fun H locs hw => ?_)
  refine W.eq (g2 := F0 m 90 ls [.long ((((((((z1 * (31 : Int64)) + (if (fX3_isFree S k4) = false then (S.1 9 k4 0).toInt64 else (-1 : Int64))) * (31 : Int64)) + (if (fX3_isFree S k4) = false then (S.1 9 k4 1).toInt64 else (-1 : Int64))) * (31 : Int64)) + (if (fX3_isFree S k4) = false then (S.1 9 k4 2).toInt64 else (-1 : Int64))) * (31 : Int64)) + (if (fX3_isFree S k4) = false then (S.1 9 k4 3).toInt64 else (-1 : Int64)))]) rfl ?_
  exact k_lret hx hb hr hlocks hK hw (congrArg (fun z : Int64 => some (Value.long (z))) (show (fX3_mixInto S k4 z1) = (((((((z1 * (31 : Int64)) + (if (fX3_isFree S k4) = false then (S.1 9 k4 0).toInt64 else (-1 : Int64))) * (31 : Int64)) + (if (fX3_isFree S k4) = false then (S.1 9 k4 1).toInt64 else (-1 : Int64))) * (31 : Int64)) + (if (fX3_isFree S k4) = false then (S.1 9 k4 2).toInt64 else (-1 : Int64))) * (31 : Int64)) + (if (fX3_isFree S k4) = false then (S.1 9 k4 3).toInt64 else (-1 : Int64)) from by unfold fX3_mixInto; rfl)) rfl dX3_mixInto_90
def lX4_dgL : Nat → Nat → Int64 → uS → Int64
  | 0, i, a1, S => (a1)
  | n + 1, i, a1, S => (lX4_dgL n (i + 1) (fX3_mixInto S i a1) S)
def lX4_dgB : Nat → Nat → Int64 → uS → Int64
  | 0, i, a1, S => (a1)
  | n + 1, i, a1, S => (lX4_dgB n (i + 1) ((((a1 * (31 : Int64)) + ((S.1 8 (fIx S (nI i)) 0).toInt64)) * (31 : Int64)) + ((S.1 8 (fIx S (nI i)) 1).toInt64)) S)
def fX4_digest (S : uS) (M0 : Nat) (M1 : Nat) (M2 : Nat) (N1 : Nat) : Int64 :=
  ((((((((lX4_dgB N1 0 (lX4_dgL 8 0 (lX2_mix 2 M2 0 (lX2_mix 1 M1 0 (lX2_mix 0 M0 0 (((((((((71 : Int64) * (31 : Int64)) + ((S.1 0 0 8).toInt64)) * (31 : Int64)) + ((S.1 0 0 9).toInt64)) * (31 : Int64)) + ((S.1 0 0 10).toInt64)) * (31 : Int64)) + ((S.1 0 0 11).toInt64)) S) S) S) S) S) * (31 : Int64)) + (S.2.1 0 0 14)) * (31 : Int64)) + (S.2.1 0 0 15)) * (31 : Int64)) + (S.2.1 3 0 1)) * (31 : Int64)) + (S.2.1 3 1 1)
abbrev rmX4_digest : Room := { frames := 2, cells := 0, slots := 0, locals := 48 }
set_option maxHeartbeats 4000000 in
set_option maxRecDepth 100000 in
theorem cX4c_digest (l : Launch) (G : gG) (Z : va_W) (S : uS) (M0 : Nat) (h_M0 : S.1 1 0 1 = nI M0) (h_M0b : M0 ≤ 256) (M1 : Nat) (h_M1 : S.1 1 1 1 = nI M1) (h_M1b : M1 ≤ 256) (M2 : Nat) (h_M2 : S.1 1 2 1 = nI M2) (h_M2b : M2 ≤ 256) (N1 : Nat) (h_N1 : S.1 0 0 13 = nI N1) (h_N1b : N1 < 2 ^ 31) : kMet l yX4_digest wsX4_digest rmX4_digest G kC Z S [.ref (G.2.2 (0, 0))] (some (.long ((fX4_digest S M0 M1 M2 N1)))) S := by
  refine kMet_of (cc := cX4_digest) (maxL := 4) (ret := (some .long)) (by decide) rfl (Nat.le_of_ble_eq_true rfl) ?_
  intro p e s m below meth c hx hb hr hml hlocks hts hown hK hN A hZ hA H locs hw ls hl
  have hl : lv_has ls 4 [(0, .ref (G.2.2 (0, 0)))] := hl
  have hiX0 : ∀ w ∈ wsX00, w ∈ wsX4_digest := by decide +kernel
  have hiX1 : ∀ w ∈ wsX10, w ∈ wsX4_digest := by decide +kernel
  have hiX4 : ∀ w ∈ wsX40, w ∈ wsX4_digest := by decide +kernel
  refine lv_ldc2 (v := 71) hx hb hown (hts (.constantLong RX4 186 (71)) (by decide +kernel)) dX4_digest_0 ?_
  refine lv_lstore_n (lv' := [(1, .long ((71 : Int64))), (0, .ref (G.2.2 (0, 0)))]) hx hb dX4_digest_3 rfl hl (by decide) rfl (fun ls hl => ?_)
  refine lv_lload_n hx hb dX4_digest_4 rfl (lv_at hl 0 rfl) ?_
  refine lv_aload_n hx hb dX4_digest_5 rfl (lv_at hl 1 rfl) ?_
  refine g_0_8 hx hb hts hiX4 hown hK hw kC_0 (hts (.fieldLink RX4 48 "BranchPredictor" "plainBits" "I") (by decide +kernel)) dX4_digest_6 ?_
  refine lv_i2l (v := (S.1 0 0 8).toInt64) hx hb dX4_digest_9 rfl ?_
  refine k_callS (n := 2) (rest := []) ⟨hx, hb, hml, hown, hts⟩ (cX4c_mix l G Z S (71 : Int64) ((S.1 0 0 8).toInt64)) (va_cwS 2 hts gX4_digest_X4_mix rfl rfl rfl (by decide +kernel) ⟨Nat.le_of_ble_eq_true rfl, Nat.le_of_ble_eq_true rfl⟩) hK hN hZ hA hw (Nat.zero_le _) (Nat.zero_le _) rfl hl.1 rfl (Nat.le_of_ble_eq_true rfl) dX4_digest_10 (fun H locs hw => ?_)
  refine W.eq (g2 := F0 m 13 ls [.long (((71 : Int64) * (31 : Int64)) + ((S.1 0 0 8).toInt64))]) rfl ?_
  refine lv_lstore_n (lv' := [(1, .long (((71 : Int64) * (31 : Int64)) + ((S.1 0 0 8).toInt64))), (0, .ref (G.2.2 (0, 0)))]) hx hb dX4_digest_13 rfl hl (by decide) rfl (fun ls hl => ?_)
  refine lv_lload_n hx hb dX4_digest_14 rfl (lv_at hl 0 rfl) ?_
  refine lv_aload_n hx hb dX4_digest_15 rfl (lv_at hl 1 rfl) ?_
  refine g_0_9 hx hb hts hiX4 hown hK hw kC_0 (hts (.fieldLink RX4 52 "BranchPredictor" "globalBits" "I") (by decide +kernel)) dX4_digest_16 ?_
  refine lv_i2l (v := (S.1 0 0 9).toInt64) hx hb dX4_digest_19 rfl ?_
  refine k_callS (n := 2) (rest := []) ⟨hx, hb, hml, hown, hts⟩ (cX4c_mix l G Z S (((71 : Int64) * (31 : Int64)) + ((S.1 0 0 8).toInt64)) ((S.1 0 0 9).toInt64)) (va_cwS 2 hts gX4_digest_X4_mix rfl rfl rfl (by decide +kernel) ⟨Nat.le_of_ble_eq_true rfl, Nat.le_of_ble_eq_true rfl⟩) hK hN hZ hA hw (Nat.zero_le _) (Nat.zero_le _) rfl hl.1 rfl (Nat.le_of_ble_eq_true rfl) dX4_digest_20 (fun H locs hw => ?_)
  refine W.eq (g2 := F0 m 23 ls [.long (((((71 : Int64) * (31 : Int64)) + ((S.1 0 0 8).toInt64)) * (31 : Int64)) + ((S.1 0 0 9).toInt64))]) rfl ?_
  refine lv_lstore_n (lv' := [(1, .long (((((71 : Int64) * (31 : Int64)) + ((S.1 0 0 8).toInt64)) * (31 : Int64)) + ((S.1 0 0 9).toInt64))), (0, .ref (G.2.2 (0, 0)))]) hx hb dX4_digest_23 rfl hl (by decide) rfl (fun ls hl => ?_)
  refine lv_lload_n hx hb dX4_digest_24 rfl (lv_at hl 0 rfl) ?_
  refine lv_aload_n hx hb dX4_digest_25 rfl (lv_at hl 1 rfl) ?_
  refine g_0_10 hx hb hts hiX4 hown hK hw kC_0 (hts (.fieldLink RX4 55 "BranchPredictor" "historyBits" "I") (by decide +kernel)) dX4_digest_26 ?_
  refine lv_i2l (v := (S.1 0 0 10).toInt64) hx hb dX4_digest_29 rfl ?_
  refine k_callS (n := 2) (rest := []) ⟨hx, hb, hml, hown, hts⟩ (cX4c_mix l G Z S (((((71 : Int64) * (31 : Int64)) + ((S.1 0 0 8).toInt64)) * (31 : Int64)) + ((S.1 0 0 9).toInt64)) ((S.1 0 0 10).toInt64)) (va_cwS 2 hts gX4_digest_X4_mix rfl rfl rfl (by decide +kernel) ⟨Nat.le_of_ble_eq_true rfl, Nat.le_of_ble_eq_true rfl⟩) hK hN hZ hA hw (Nat.zero_le _) (Nat.zero_le _) rfl hl.1 rfl (Nat.le_of_ble_eq_true rfl) dX4_digest_30 (fun H locs hw => ?_)
  refine W.eq (g2 := F0 m 33 ls [.long (((((((71 : Int64) * (31 : Int64)) + ((S.1 0 0 8).toInt64)) * (31 : Int64)) + ((S.1 0 0 9).toInt64)) * (31 : Int64)) + ((S.1 0 0 10).toInt64))]) rfl ?_
  refine lv_lstore_n (lv' := [(1, .long (((((((71 : Int64) * (31 : Int64)) + ((S.1 0 0 8).toInt64)) * (31 : Int64)) + ((S.1 0 0 9).toInt64)) * (31 : Int64)) + ((S.1 0 0 10).toInt64))), (0, .ref (G.2.2 (0, 0)))]) hx hb dX4_digest_33 rfl hl (by decide) rfl (fun ls hl => ?_)
  refine lv_lload_n hx hb dX4_digest_34 rfl (lv_at hl 0 rfl) ?_
  refine lv_aload_n hx hb dX4_digest_35 rfl (lv_at hl 1 rfl) ?_
  refine g_0_11 hx hb hts hiX4 hown hK hw kC_0 (hts (.fieldLink RX4 119 "BranchPredictor" "outcomes" "I") (by decide +kernel)) dX4_digest_36 ?_
  refine lv_i2l (v := (S.1 0 0 11).toInt64) hx hb dX4_digest_39 rfl ?_
  refine k_callS (n := 2) (rest := []) ⟨hx, hb, hml, hown, hts⟩ (cX4c_mix l G Z S (((((((71 : Int64) * (31 : Int64)) + ((S.1 0 0 8).toInt64)) * (31 : Int64)) + ((S.1 0 0 9).toInt64)) * (31 : Int64)) + ((S.1 0 0 10).toInt64)) ((S.1 0 0 11).toInt64)) (va_cwS 2 hts gX4_digest_X4_mix rfl rfl rfl (by decide +kernel) ⟨Nat.le_of_ble_eq_true rfl, Nat.le_of_ble_eq_true rfl⟩) hK hN hZ hA hw (Nat.zero_le _) (Nat.zero_le _) rfl hl.1 rfl (Nat.le_of_ble_eq_true rfl) dX4_digest_40 (fun H locs hw => ?_)
  refine W.eq (g2 := F0 m 43 ls [.long (((((((((71 : Int64) * (31 : Int64)) + ((S.1 0 0 8).toInt64)) * (31 : Int64)) + ((S.1 0 0 9).toInt64)) * (31 : Int64)) + ((S.1 0 0 10).toInt64)) * (31 : Int64)) + ((S.1 0 0 11).toInt64))]) rfl ?_
  refine lv_lstore_n (lv' := [(1, .long (((((((((71 : Int64) * (31 : Int64)) + ((S.1 0 0 8).toInt64)) * (31 : Int64)) + ((S.1 0 0 9).toInt64)) * (31 : Int64)) + ((S.1 0 0 10).toInt64)) * (31 : Int64)) + ((S.1 0 0 11).toInt64))), (0, .ref (G.2.2 (0, 0)))]) hx hb dX4_digest_43 rfl hl (by decide) rfl (fun ls hl => ?_)
  refine lv_aload_n hx hb dX4_digest_44 rfl (lv_at hl 1 rfl) ?_
  refine g_0_0 hx hb hts hiX4 hown hK hw kC_0 (hts (.fieldLink RX4 12 "BranchPredictor" "plainTable" "LBranchPredictor$CounterTable;") (by decide +kernel)) dX4_digest_45 ?_
  refine lv_lload_n hx hb dX4_digest_48 rfl (lv_at hl 0 rfl) ?_
  refine k_callV (C := RX2) (n := 1) (rest := []) ⟨hx, hb, hml, hown, hts⟩ (cX2c_mixInto l G Z S 0 (show (0 : Nat) < 3 from by decide) M0 h_M0 h_M0b (((((((((71 : Int64) * (31 : Int64)) + ((S.1 0 0 8).toInt64)) * (31 : Int64)) + ((S.1 0 0 9).toInt64)) * (31 : Int64)) + ((S.1 0 0 10).toInt64)) * (31 : Int64)) + ((S.1 0 0 11).toInt64))) (cwV 1 hts gX4_digest_X2_mixInto rfl rfl rfl (by decide +kernel) ⟨Nat.le_of_ble_eq_true rfl, Nat.le_of_ble_eq_true rfl⟩) (k_recv hK hw (kC_1 (show (0 : Nat) < 3 from by decide)) rfl rfl) hK hN hZ hA hw (Nat.zero_le _) (Nat.zero_le _) rfl hl.1 rfl (Nat.le_of_ble_eq_true rfl) dX4_digest_49 (fun H locs hw => ?_)
  refine W.eq (g2 := F0 m 52 ls [.long ((lX2_mix 0 M0 0 (((((((((71 : Int64) * (31 : Int64)) + ((S.1 0 0 8).toInt64)) * (31 : Int64)) + ((S.1 0 0 9).toInt64)) * (31 : Int64)) + ((S.1 0 0 10).toInt64)) * (31 : Int64)) + ((S.1 0 0 11).toInt64)) S))]) rfl ?_
  refine lv_lstore_n (lv' := [(1, .long ((lX2_mix 0 M0 0 (((((((((71 : Int64) * (31 : Int64)) + ((S.1 0 0 8).toInt64)) * (31 : Int64)) + ((S.1 0 0 9).toInt64)) * (31 : Int64)) + ((S.1 0 0 10).toInt64)) * (31 : Int64)) + ((S.1 0 0 11).toInt64)) S))), (0, .ref (G.2.2 (0, 0)))]) hx hb dX4_digest_52 rfl hl (by decide) rfl (fun ls hl => ?_)
  refine lv_aload_n hx hb dX4_digest_53 rfl (lv_at hl 1 rfl) ?_
  refine g_0_1 hx hb hts hiX4 hown hK hw kC_0 (hts (.fieldLink RX4 16 "BranchPredictor" "globalTable" "LBranchPredictor$CounterTable;") (by decide +kernel)) dX4_digest_54 ?_
  refine lv_lload_n hx hb dX4_digest_57 rfl (lv_at hl 0 rfl) ?_
  refine k_callV (C := RX2) (n := 1) (rest := []) ⟨hx, hb, hml, hown, hts⟩ (cX2c_mixInto l G Z S 1 (show (1 : Nat) < 3 from by decide) M1 h_M1 h_M1b (lX2_mix 0 M0 0 (((((((((71 : Int64) * (31 : Int64)) + ((S.1 0 0 8).toInt64)) * (31 : Int64)) + ((S.1 0 0 9).toInt64)) * (31 : Int64)) + ((S.1 0 0 10).toInt64)) * (31 : Int64)) + ((S.1 0 0 11).toInt64)) S)) (cwV 1 hts gX4_digest_X2_mixInto rfl rfl rfl (by decide +kernel) ⟨Nat.le_of_ble_eq_true rfl, Nat.le_of_ble_eq_true rfl⟩) (k_recv hK hw (kC_1 (show (1 : Nat) < 3 from by decide)) rfl rfl) hK hN hZ hA hw (Nat.zero_le _) (Nat.zero_le _) rfl hl.1 rfl (Nat.le_of_ble_eq_true rfl) dX4_digest_58 (fun H locs hw => ?_)
  refine W.eq (g2 := F0 m 61 ls [.long ((lX2_mix 1 M1 0 (lX2_mix 0 M0 0 (((((((((71 : Int64) * (31 : Int64)) + ((S.1 0 0 8).toInt64)) * (31 : Int64)) + ((S.1 0 0 9).toInt64)) * (31 : Int64)) + ((S.1 0 0 10).toInt64)) * (31 : Int64)) + ((S.1 0 0 11).toInt64)) S) S))]) rfl ?_
  refine lv_lstore_n (lv' := [(1, .long ((lX2_mix 1 M1 0 (lX2_mix 0 M0 0 (((((((((71 : Int64) * (31 : Int64)) + ((S.1 0 0 8).toInt64)) * (31 : Int64)) + ((S.1 0 0 9).toInt64)) * (31 : Int64)) + ((S.1 0 0 10).toInt64)) * (31 : Int64)) + ((S.1 0 0 11).toInt64)) S) S))), (0, .ref (G.2.2 (0, 0)))]) hx hb dX4_digest_61 rfl hl (by decide) rfl (fun ls hl => ?_)
  refine lv_aload_n hx hb dX4_digest_62 rfl (lv_at hl 1 rfl) ?_
  refine g_0_2 hx hb hts hiX4 hown hK hw kC_0 (hts (.fieldLink RX4 19 "BranchPredictor" "choiceTable" "LBranchPredictor$CounterTable;") (by decide +kernel)) dX4_digest_63 ?_
  refine lv_lload_n hx hb dX4_digest_66 rfl (lv_at hl 0 rfl) ?_
  refine k_callV (C := RX2) (n := 1) (rest := []) ⟨hx, hb, hml, hown, hts⟩ (cX2c_mixInto l G Z S 2 (show (2 : Nat) < 3 from by decide) M2 h_M2 h_M2b (lX2_mix 1 M1 0 (lX2_mix 0 M0 0 (((((((((71 : Int64) * (31 : Int64)) + ((S.1 0 0 8).toInt64)) * (31 : Int64)) + ((S.1 0 0 9).toInt64)) * (31 : Int64)) + ((S.1 0 0 10).toInt64)) * (31 : Int64)) + ((S.1 0 0 11).toInt64)) S) S)) (cwV 1 hts gX4_digest_X2_mixInto rfl rfl rfl (by decide +kernel) ⟨Nat.le_of_ble_eq_true rfl, Nat.le_of_ble_eq_true rfl⟩) (k_recv hK hw (kC_1 (show (2 : Nat) < 3 from by decide)) rfl rfl) hK hN hZ hA hw (Nat.zero_le _) (Nat.zero_le _) rfl hl.1 rfl (Nat.le_of_ble_eq_true rfl) dX4_digest_67 (fun H locs hw => ?_)
  refine W.eq (g2 := F0 m 70 ls [.long ((lX2_mix 2 M2 0 (lX2_mix 1 M1 0 (lX2_mix 0 M0 0 (((((((((71 : Int64) * (31 : Int64)) + ((S.1 0 0 8).toInt64)) * (31 : Int64)) + ((S.1 0 0 9).toInt64)) * (31 : Int64)) + ((S.1 0 0 10).toInt64)) * (31 : Int64)) + ((S.1 0 0 11).toInt64)) S) S) S))]) rfl ?_
  refine lv_lstore_n (lv' := [(1, .long ((lX2_mix 2 M2 0 (lX2_mix 1 M1 0 (lX2_mix 0 M0 0 (((((((((71 : Int64) * (31 : Int64)) + ((S.1 0 0 8).toInt64)) * (31 : Int64)) + ((S.1 0 0 9).toInt64)) * (31 : Int64)) + ((S.1 0 0 10).toInt64)) * (31 : Int64)) + ((S.1 0 0 11).toInt64)) S) S) S))), (0, .ref (G.2.2 (0, 0)))]) hx hb dX4_digest_70 rfl hl (by decide) rfl (fun ls hl => ?_)
  refine lv_iconst (v := 0) hx hb dX4_digest_71 (by decide) ?_
  refine lv_istore_n (lv' := [(3, .int ((0 : Int32))), (1, .long ((lX2_mix 2 M2 0 (lX2_mix 1 M1 0 (lX2_mix 0 M0 0 (((((((((71 : Int64) * (31 : Int64)) + ((S.1 0 0 8).toInt64)) * (31 : Int64)) + ((S.1 0 0 9).toInt64)) * (31 : Int64)) + ((S.1 0 0 10).toInt64)) * (31 : Int64)) + ((S.1 0 0 11).toInt64)) S) S) S))), (0, .ref (G.2.2 (0, 0)))]) hx hb dX4_digest_72 rfl hl (by decide) rfl (fun ls hl => ?_)
  have hloop_lX4_dgL : ∀ (n i : Nat) (a1 : Int64) (H : Heap) (locs : List Loc) (ls : Array Slot), i + n = 8 → kS G kC S Z A s.heap H locs → lv_has ls 4 [(0, .ref (G.2.2 (0, 0))), (1, .long (a1)), (3, .int (nI i))] → (∀ (H : Heap) (locs : List Loc) (ls : Array Slot), kS G kC S Z A s.heap H locs → lv_has ls 4 [(0, .ref (G.2.2 (0, 0))), (1, .long ((lX4_dgL n i a1 S))), (3, .int (nI 8))] → W p l e rmX4_digest s m [.ref (G.2.2 (0, 0))].toArray below meth c H locs 0 0 (MQ below (kQ G kC Z A (some (.long ((fX4_digest S M0 M1 M2 N1)))) S) [.ref (G.2.2 (0, 0))].toArray s 0 0 A) (F0 m 96 ls [])) → W p l e rmX4_digest s m [.ref (G.2.2 (0, 0))].toArray below meth c H locs 0 0 (MQ below (kQ G kC Z A (some (.long ((fX4_digest S M0 M1 M2 N1)))) S) [.ref (G.2.2 (0, 0))].toArray s 0 0 A) (F0 m 73 ls []) := by
    intro n
    induction n with
    | zero =>
      intro i a1 H locs ls hin hw hl kx
      have z_1 : (8 : Int32) ≤ (nI i) := (nI_le (a := 8) (b := i) (by omega) (by omega))
      refine lv_iload_n hx hb dX4_digest_73 rfl (lv_at hl 2 rfl) ?_
      refine lv_bipush (v := 8) hx hb dX4_digest_74 (by decide) ?_
      refine lv_icmp_ge (tgt := 96) hx hb dX4_digest_76 (by decide) (fun _ => ?_) (fun h9 => absurd z_1 h9)
      have hin : i = 8 := hin
      rw [hin] at hl
      exact kx H locs ls hw (lv_sub hl [0, 1, 2] rfl)
    | succ n ih =>
      intro i a1 H locs ls hin hw hl kx
      have hi : i < 8 := by omega
      have hi31 : i < 2 ^ 31 := Nat.lt_trans hi (by decide)
      have z_2 : ¬ ((8 : Int32) ≤ (nI i)) := (nI_ge (a := i) (b := 8) hi (by decide))
      refine lv_iload_n hx hb dX4_digest_73 rfl (lv_at hl 2 rfl) ?_
      refine lv_bipush (v := 8) hx hb dX4_digest_74 (by decide) ?_
      refine lv_icmp_ge (tgt := 96) hx hb dX4_digest_76 (by decide) (fun h9 => absurd h9 z_2) (fun _ => ?_)
      refine lv_aload_n hx hb dX4_digest_79 rfl (lv_at hl 0 rfl) ?_
      refine g_0_6 hx hb hts hiX4 hown hK hw kC_0 (hts (.fieldLink RX4 40 "BranchPredictor" "loops" "[LBranchPredictor$Loop;") (by decide +kernel)) dX4_digest_80 ?_
      refine lv_iload_n hx hb dX4_digest_83 rfl (lv_at hl 2 rfl) ?_
      refine ald_6 hx hb hK hw kC_6 (vp_in_nI (by first | omega | (split <;> omega)) (by decide)) dX4_digest_84 ?_
      rw [nI_clamp hi31]
      refine lv_lload_n hx hb dX4_digest_85 rfl (lv_at hl 1 rfl) ?_
      refine k_callV (C := RX3) (n := 1) (rest := []) ⟨hx, hb, hml, hown, hts⟩ (cX3c_mixInto l G Z S i (Nat.lt_of_lt_of_le hi (by decide)) a1) (cwV 1 hts gX4_digest_X3_mixInto rfl rfl rfl (by decide +kernel) ⟨Nat.le_of_ble_eq_true rfl, Nat.le_of_ble_eq_true rfl⟩) (k_recv hK hw (kC_9 (Nat.lt_of_lt_of_le hi (by decide))) rfl rfl) hK hN hZ hA hw (Nat.zero_le _) (Nat.zero_le _) rfl hl.1 rfl (Nat.le_of_ble_eq_true rfl) dX4_digest_86 (fun H locs hw => ?_)
      refine W.eq (g2 := F0 m 89 ls [.long ((fX3_mixInto S i a1))]) rfl ?_
      refine lv_lstore_n (lv' := [(1, .long ((fX3_mixInto S i a1))), (0, .ref (G.2.2 (0, 0))), (3, .int (nI i))]) hx hb dX4_digest_89 rfl hl (by decide) rfl (fun ls hl => ?_)
      refine lv_iinc (v := nI (i + 1)) (lv' := [(3, .int (nI (i + 1))), (1, .long ((fX3_mixInto S i a1))), (0, .ref (G.2.2 (0, 0)))]) hx hb dX4_digest_90 hl (k := 2) rfl (by rw [← nI_1]; rfl) (by decide) rfl (fun ls hl => ?_)
      refine lv_goto (tgt := 73) hx hb dX4_digest_93 (by decide) ?_
      exact ih (i + 1) (fX3_mixInto S i a1) H locs ls (by omega) hw (lv_sub hl [2, 1, 0] rfl) (by rw [(show (lX4_dgL (n + 1) i a1 S) = (lX4_dgL n (i + 1) (fX3_mixInto S i a1) S) from by rw [lX4_dgL])] at kx; exact kx)
  refine hloop_lX4_dgL 8 0 (lX2_mix 2 M2 0 (lX2_mix 1 M1 0 (lX2_mix 0 M0 0 (((((((((71 : Int64) * (31 : Int64)) + ((S.1 0 0 8).toInt64)) * (31 : Int64)) + ((S.1 0 0 9).toInt64)) * (31 : Int64)) + ((S.1 0 0 10).toInt64)) * (31 : Int64)) + ((S.1 0 0 11).toInt64)) S) S) S) H locs ls (by omega) hw (lv_sub hl [2, 1, 0] rfl) (fun H locs ls hw hl => ?_)
  refine lv_iconst (v := 0) hx hb dX4_digest_96 (by decide) ?_
  refine lv_istore_n (lv' := [(3, .int ((0 : Int32))), (0, .ref (G.2.2 (0, 0))), (1, .long ((lX4_dgL 8 0 (lX2_mix 2 M2 0 (lX2_mix 1 M1 0 (lX2_mix 0 M0 0 (((((((((71 : Int64) * (31 : Int64)) + ((S.1 0 0 8).toInt64)) * (31 : Int64)) + ((S.1 0 0 9).toInt64)) * (31 : Int64)) + ((S.1 0 0 10).toInt64)) * (31 : Int64)) + ((S.1 0 0 11).toInt64)) S) S) S) S)))]) hx hb dX4_digest_97 rfl hl (by decide) rfl (fun ls hl => ?_)
  have hloop_lX4_dgB : ∀ (n i : Nat) (a1 : Int64) (H : Heap) (locs : List Loc) (ls : Array Slot), i + n = N1 → kS G kC S Z A s.heap H locs → lv_has ls 4 [(0, .ref (G.2.2 (0, 0))), (1, .long (a1)), (3, .int (nI i))] → (∀ (H : Heap) (locs : List Loc) (ls : Array Slot), kS G kC S Z A s.heap H locs → lv_has ls 4 [(0, .ref (G.2.2 (0, 0))), (1, .long ((lX4_dgB n i a1 S))), (3, .int (nI N1))] → W p l e rmX4_digest s m [.ref (G.2.2 (0, 0))].toArray below meth c H locs 0 0 (MQ below (kQ G kC Z A (some (.long ((fX4_digest S M0 M1 M2 N1)))) S) [.ref (G.2.2 (0, 0))].toArray s 0 0 A) (F0 m 140 ls [])) → W p l e rmX4_digest s m [.ref (G.2.2 (0, 0))].toArray below meth c H locs 0 0 (MQ below (kQ G kC Z A (some (.long ((fX4_digest S M0 M1 M2 N1)))) S) [.ref (G.2.2 (0, 0))].toArray s 0 0 A) (F0 m 98 ls []) := by
    intro n
    induction n with
    | zero =>
      intro i a1 H locs ls hin hw hl kx
      have z_3 : (nI N1) ≤ (nI i) := (nI_le (a := N1) (b := i) (by omega) (by omega))
      refine lv_iload_n hx hb dX4_digest_98 rfl (lv_at hl 2 rfl) ?_
      refine lv_aload_n hx hb dX4_digest_99 rfl (lv_at hl 0 rfl) ?_
      refine g_0_13 hx hb hts hiX4 hown hK hw kC_0 (hts (.fieldLink RX4 79 "BranchPredictor" "flying" "I") (by decide +kernel)) dX4_digest_100 ?_
      refine k_topi (z := nI N1) (h_N1) ?_
      refine lv_icmp_ge (tgt := 140) hx hb dX4_digest_103 (by decide) (fun _ => ?_) (fun h9 => absurd z_3 h9)
      have hin : i = N1 := hin
      rw [hin] at hl
      exact kx H locs ls hw (lv_sub hl [0, 1, 2] rfl)
    | succ n ih =>
      intro i a1 H locs ls hin hw hl kx
      have hi : i < N1 := by omega
      have hi31 : i < 2 ^ 31 := Nat.lt_trans hi h_N1b
      have z_4 : ¬ ((nI N1) ≤ (nI i)) := (nI_ge (a := i) (b := N1) hi (by omega))
      refine lv_iload_n hx hb dX4_digest_98 rfl (lv_at hl 2 rfl) ?_
      refine lv_aload_n hx hb dX4_digest_99 rfl (lv_at hl 0 rfl) ?_
      refine g_0_13 hx hb hts hiX4 hown hK hw kC_0 (hts (.fieldLink RX4 79 "BranchPredictor" "flying" "I") (by decide +kernel)) dX4_digest_100 ?_
      refine k_topi (z := nI N1) (h_N1) ?_
      refine lv_icmp_ge (tgt := 140) hx hb dX4_digest_103 (by decide) (fun h9 => absurd h9 z_4) (fun _ => ?_)
      refine lv_lload_n hx hb dX4_digest_106 rfl (lv_at hl 1 rfl) ?_
      refine lv_aload_n hx hb dX4_digest_107 rfl (lv_at hl 0 rfl) ?_
      refine lv_iload_n hx hb dX4_digest_108 rfl (lv_at hl 2 rfl) ?_
      refine k_callV (C := RX4) (n := 1) (rest := [.long (a1)]) ⟨hx, hb, hml, hown, hts⟩ (cX4c_branchAt l G Z S (nI i)) (cwV 1 hts gX4_digest_X4_branchAt rfl rfl rfl (by decide +kernel) ⟨Nat.le_of_ble_eq_true rfl, Nat.le_of_ble_eq_true rfl⟩) (k_recv hK hw kC_0 rfl rfl) hK hN hZ hA hw (Nat.zero_le _) (Nat.zero_le _) rfl hl.1 rfl (Nat.le_of_ble_eq_true rfl) dX4_digest_109 (fun H locs hw => ?_)
      refine W.eq (g2 := F0 m 112 ls [.ref (G.2.2 (8, (fIx S (nI i)))), .long (a1)]) rfl ?_
      refine g_8_0 hx hb hts hiX1 hown hK hw (kC_8 (fIx_lt S (nI i))) (hts (.fieldLink RX4 126 "BranchPredictor$Branch" "place" "I") (by decide +kernel)) dX4_digest_112 ?_
      refine lv_i2l (v := (S.1 8 (fIx S (nI i)) 0).toInt64) hx hb dX4_digest_115 rfl ?_
      refine k_callS (n := 2) (rest := []) ⟨hx, hb, hml, hown, hts⟩ (cX4c_mix l G Z S a1 ((S.1 8 (fIx S (nI i)) 0).toInt64)) (va_cwS 2 hts gX4_digest_X4_mix rfl rfl rfl (by decide +kernel) ⟨Nat.le_of_ble_eq_true rfl, Nat.le_of_ble_eq_true rfl⟩) hK hN hZ hA hw (Nat.zero_le _) (Nat.zero_le _) rfl hl.1 rfl (Nat.le_of_ble_eq_true rfl) dX4_digest_116 (fun H locs hw => ?_)
      refine W.eq (g2 := F0 m 119 ls [.long ((a1 * (31 : Int64)) + ((S.1 8 (fIx S (nI i)) 0).toInt64))]) rfl ?_
      refine lv_lstore_n (lv' := [(1, .long ((a1 * (31 : Int64)) + ((S.1 8 (fIx S (nI i)) 0).toInt64))), (0, .ref (G.2.2 (0, 0))), (3, .int (nI i))]) hx hb dX4_digest_119 rfl hl (by decide) rfl (fun ls hl => ?_)
      refine lv_lload_n hx hb dX4_digest_120 rfl (lv_at hl 0 rfl) ?_
      refine lv_aload_n hx hb dX4_digest_121 rfl (lv_at hl 1 rfl) ?_
      refine lv_iload_n hx hb dX4_digest_122 rfl (lv_at hl 2 rfl) ?_
      refine k_callV (C := RX4) (n := 1) (rest := [.long ((a1 * (31 : Int64)) + ((S.1 8 (fIx S (nI i)) 0).toInt64))]) ⟨hx, hb, hml, hown, hts⟩ (cX4c_branchAt l G Z S (nI i)) (cwV 1 hts gX4_digest_X4_branchAt rfl rfl rfl (by decide +kernel) ⟨Nat.le_of_ble_eq_true rfl, Nat.le_of_ble_eq_true rfl⟩) (k_recv hK hw kC_0 rfl rfl) hK hN hZ hA hw (Nat.zero_le _) (Nat.zero_le _) rfl hl.1 rfl (Nat.le_of_ble_eq_true rfl) dX4_digest_123 (fun H locs hw => ?_)
      refine W.eq (g2 := F0 m 126 ls [.ref (G.2.2 (8, (fIx S (nI i)))), .long ((a1 * (31 : Int64)) + ((S.1 8 (fIx S (nI i)) 0).toInt64))]) rfl ?_
      refine g_8_1 hx hb hts hiX1 hown hK hw (kC_8 (fIx_lt S (nI i))) (hts (.fieldLink RX4 97 "BranchPredictor$Branch" "state" "I") (by decide +kernel)) dX4_digest_126 ?_
      refine lv_i2l (v := (S.1 8 (fIx S (nI i)) 1).toInt64) hx hb dX4_digest_129 rfl ?_
      refine k_callS (n := 2) (rest := []) ⟨hx, hb, hml, hown, hts⟩ (cX4c_mix l G Z S ((a1 * (31 : Int64)) + ((S.1 8 (fIx S (nI i)) 0).toInt64)) ((S.1 8 (fIx S (nI i)) 1).toInt64)) (va_cwS 2 hts gX4_digest_X4_mix rfl rfl rfl (by decide +kernel) ⟨Nat.le_of_ble_eq_true rfl, Nat.le_of_ble_eq_true rfl⟩) hK hN hZ hA hw (Nat.zero_le _) (Nat.zero_le _) rfl hl.1 rfl (Nat.le_of_ble_eq_true rfl) dX4_digest_130 (fun H locs hw => ?_)
      refine W.eq (g2 := F0 m 133 ls [.long ((((a1 * (31 : Int64)) + ((S.1 8 (fIx S (nI i)) 0).toInt64)) * (31 : Int64)) + ((S.1 8 (fIx S (nI i)) 1).toInt64))]) rfl ?_
      refine lv_lstore_n (lv' := [(1, .long ((((a1 * (31 : Int64)) + ((S.1 8 (fIx S (nI i)) 0).toInt64)) * (31 : Int64)) + ((S.1 8 (fIx S (nI i)) 1).toInt64))), (0, .ref (G.2.2 (0, 0))), (3, .int (nI i))]) hx hb dX4_digest_133 rfl hl (by decide) rfl (fun ls hl => ?_)
      refine lv_iinc (v := nI (i + 1)) (lv' := [(3, .int (nI (i + 1))), (1, .long ((((a1 * (31 : Int64)) + ((S.1 8 (fIx S (nI i)) 0).toInt64)) * (31 : Int64)) + ((S.1 8 (fIx S (nI i)) 1).toInt64))), (0, .ref (G.2.2 (0, 0)))]) hx hb dX4_digest_134 hl (k := 2) rfl (by rw [← nI_1]; rfl) (by decide) rfl (fun ls hl => ?_)
      refine lv_goto (tgt := 98) hx hb dX4_digest_137 (by decide) ?_
      exact ih (i + 1) ((((a1 * (31 : Int64)) + ((S.1 8 (fIx S (nI i)) 0).toInt64)) * (31 : Int64)) + ((S.1 8 (fIx S (nI i)) 1).toInt64)) H locs ls (by omega) hw (lv_sub hl [2, 1, 0] rfl) (by rw [(show (lX4_dgB (n + 1) i a1 S) = (lX4_dgB n (i + 1) ((((a1 * (31 : Int64)) + ((S.1 8 (fIx S (nI i)) 0).toInt64)) * (31 : Int64)) + ((S.1 8 (fIx S (nI i)) 1).toInt64)) S) from by rw [lX4_dgB])] at kx; exact kx)
  refine hloop_lX4_dgB N1 0 (lX4_dgL 8 0 (lX2_mix 2 M2 0 (lX2_mix 1 M1 0 (lX2_mix 0 M0 0 (((((((((71 : Int64) * (31 : Int64)) + ((S.1 0 0 8).toInt64)) * (31 : Int64)) + ((S.1 0 0 9).toInt64)) * (31 : Int64)) + ((S.1 0 0 10).toInt64)) * (31 : Int64)) + ((S.1 0 0 11).toInt64)) S) S) S) S) H locs ls (by omega) hw (lv_sub hl [1, 2, 0] rfl) (fun H locs ls hw hl => ?_)
  refine lv_lload_n hx hb dX4_digest_140 rfl (lv_at hl 1 rfl) ?_
  refine lv_aload_n hx hb dX4_digest_141 rfl (lv_at hl 0 rfl) ?_
  refine g_0_14 hx hb hts hiX4 hown hK hw kC_0 (hts (.fieldLink RX4 171 "BranchPredictor" "committed" "J") (by decide +kernel)) dX4_digest_142 ?_
  refine k_callS (n := 2) (rest := []) ⟨hx, hb, hml, hown, hts⟩ (cX4c_mix l G Z S (lX4_dgB N1 0 (lX4_dgL 8 0 (lX2_mix 2 M2 0 (lX2_mix 1 M1 0 (lX2_mix 0 M0 0 (((((((((71 : Int64) * (31 : Int64)) + ((S.1 0 0 8).toInt64)) * (31 : Int64)) + ((S.1 0 0 9).toInt64)) * (31 : Int64)) + ((S.1 0 0 10).toInt64)) * (31 : Int64)) + ((S.1 0 0 11).toInt64)) S) S) S) S) S) (S.2.1 0 0 14)) (va_cwS 2 hts gX4_digest_X4_mix rfl rfl rfl (by decide +kernel) ⟨Nat.le_of_ble_eq_true rfl, Nat.le_of_ble_eq_true rfl⟩) hK hN hZ hA hw (Nat.zero_le _) (Nat.zero_le _) rfl hl.1 rfl (Nat.le_of_ble_eq_true rfl) dX4_digest_145 (fun H locs hw => ?_)
  refine W.eq (g2 := F0 m 148 ls [.long (((lX4_dgB N1 0 (lX4_dgL 8 0 (lX2_mix 2 M2 0 (lX2_mix 1 M1 0 (lX2_mix 0 M0 0 (((((((((71 : Int64) * (31 : Int64)) + ((S.1 0 0 8).toInt64)) * (31 : Int64)) + ((S.1 0 0 9).toInt64)) * (31 : Int64)) + ((S.1 0 0 10).toInt64)) * (31 : Int64)) + ((S.1 0 0 11).toInt64)) S) S) S) S) S) * (31 : Int64)) + (S.2.1 0 0 14))]) rfl ?_
  refine lv_lstore_n (lv' := [(1, .long (((lX4_dgB N1 0 (lX4_dgL 8 0 (lX2_mix 2 M2 0 (lX2_mix 1 M1 0 (lX2_mix 0 M0 0 (((((((((71 : Int64) * (31 : Int64)) + ((S.1 0 0 8).toInt64)) * (31 : Int64)) + ((S.1 0 0 9).toInt64)) * (31 : Int64)) + ((S.1 0 0 10).toInt64)) * (31 : Int64)) + ((S.1 0 0 11).toInt64)) S) S) S) S) S) * (31 : Int64)) + (S.2.1 0 0 14))), (0, .ref (G.2.2 (0, 0))), (3, .int (nI N1))]) hx hb dX4_digest_148 rfl hl (by decide) rfl (fun ls hl => ?_)
  refine lv_lload_n hx hb dX4_digest_149 rfl (lv_at hl 0 rfl) ?_
  refine lv_aload_n hx hb dX4_digest_150 rfl (lv_at hl 1 rfl) ?_
  refine g_0_15 hx hb hts hiX4 hown hK hw kC_0 (hts (.fieldLink RX4 175 "BranchPredictor" "dropped" "J") (by decide +kernel)) dX4_digest_151 ?_
  refine k_callS (n := 2) (rest := []) ⟨hx, hb, hml, hown, hts⟩ (cX4c_mix l G Z S (((lX4_dgB N1 0 (lX4_dgL 8 0 (lX2_mix 2 M2 0 (lX2_mix 1 M1 0 (lX2_mix 0 M0 0 (((((((((71 : Int64) * (31 : Int64)) + ((S.1 0 0 8).toInt64)) * (31 : Int64)) + ((S.1 0 0 9).toInt64)) * (31 : Int64)) + ((S.1 0 0 10).toInt64)) * (31 : Int64)) + ((S.1 0 0 11).toInt64)) S) S) S) S) S) * (31 : Int64)) + (S.2.1 0 0 14)) (S.2.1 0 0 15)) (va_cwS 2 hts gX4_digest_X4_mix rfl rfl rfl (by decide +kernel) ⟨Nat.le_of_ble_eq_true rfl, Nat.le_of_ble_eq_true rfl⟩) hK hN hZ hA hw (Nat.zero_le _) (Nat.zero_le _) rfl hl.1 rfl (Nat.le_of_ble_eq_true rfl) dX4_digest_154 (fun H locs hw => ?_)
  refine W.eq (g2 := F0 m 157 ls [.long (((((lX4_dgB N1 0 (lX4_dgL 8 0 (lX2_mix 2 M2 0 (lX2_mix 1 M1 0 (lX2_mix 0 M0 0 (((((((((71 : Int64) * (31 : Int64)) + ((S.1 0 0 8).toInt64)) * (31 : Int64)) + ((S.1 0 0 9).toInt64)) * (31 : Int64)) + ((S.1 0 0 10).toInt64)) * (31 : Int64)) + ((S.1 0 0 11).toInt64)) S) S) S) S) S) * (31 : Int64)) + (S.2.1 0 0 14)) * (31 : Int64)) + (S.2.1 0 0 15))]) rfl ?_
  refine lv_lstore_n (lv' := [(1, .long (((((lX4_dgB N1 0 (lX4_dgL 8 0 (lX2_mix 2 M2 0 (lX2_mix 1 M1 0 (lX2_mix 0 M0 0 (((((((((71 : Int64) * (31 : Int64)) + ((S.1 0 0 8).toInt64)) * (31 : Int64)) + ((S.1 0 0 9).toInt64)) * (31 : Int64)) + ((S.1 0 0 10).toInt64)) * (31 : Int64)) + ((S.1 0 0 11).toInt64)) S) S) S) S) S) * (31 : Int64)) + (S.2.1 0 0 14)) * (31 : Int64)) + (S.2.1 0 0 15))), (0, .ref (G.2.2 (0, 0))), (3, .int (nI N1))]) hx hb dX4_digest_157 rfl hl (by decide) rfl (fun ls hl => ?_)
  refine lv_lload_n hx hb dX4_digest_158 rfl (lv_at hl 0 rfl) ?_
  refine lv_aload_n hx hb dX4_digest_159 rfl (lv_at hl 1 rfl) ?_
  refine g_0_3 hx hb hts hiX4 hown hK hw kC_0 (hts (.fieldLink RX4 25 "BranchPredictor" "plainAudit" "LBranchPredictor$Audit;") (by decide +kernel)) dX4_digest_160 ?_
  refine g_3_1 hx hb hts hiX0 hown hK hw (kC_3 (show (0 : Nat) < 2 from by decide)) (hts (.fieldLink RX4 183 "BranchPredictor$Audit" "allMeetings" "J") (by decide +kernel)) dX4_digest_163 ?_
  refine k_callS (n := 2) (rest := []) ⟨hx, hb, hml, hown, hts⟩ (cX4c_mix l G Z S (((((lX4_dgB N1 0 (lX4_dgL 8 0 (lX2_mix 2 M2 0 (lX2_mix 1 M1 0 (lX2_mix 0 M0 0 (((((((((71 : Int64) * (31 : Int64)) + ((S.1 0 0 8).toInt64)) * (31 : Int64)) + ((S.1 0 0 9).toInt64)) * (31 : Int64)) + ((S.1 0 0 10).toInt64)) * (31 : Int64)) + ((S.1 0 0 11).toInt64)) S) S) S) S) S) * (31 : Int64)) + (S.2.1 0 0 14)) * (31 : Int64)) + (S.2.1 0 0 15)) (S.2.1 3 0 1)) (va_cwS 2 hts gX4_digest_X4_mix rfl rfl rfl (by decide +kernel) ⟨Nat.le_of_ble_eq_true rfl, Nat.le_of_ble_eq_true rfl⟩) hK hN hZ hA hw (Nat.zero_le _) (Nat.zero_le _) rfl hl.1 rfl (Nat.le_of_ble_eq_true rfl) dX4_digest_166 (fun H locs hw => ?_)
  refine W.eq (g2 := F0 m 169 ls [.long (((((((lX4_dgB N1 0 (lX4_dgL 8 0 (lX2_mix 2 M2 0 (lX2_mix 1 M1 0 (lX2_mix 0 M0 0 (((((((((71 : Int64) * (31 : Int64)) + ((S.1 0 0 8).toInt64)) * (31 : Int64)) + ((S.1 0 0 9).toInt64)) * (31 : Int64)) + ((S.1 0 0 10).toInt64)) * (31 : Int64)) + ((S.1 0 0 11).toInt64)) S) S) S) S) S) * (31 : Int64)) + (S.2.1 0 0 14)) * (31 : Int64)) + (S.2.1 0 0 15)) * (31 : Int64)) + (S.2.1 3 0 1))]) rfl ?_
  refine lv_lstore_n (lv' := [(1, .long (((((((lX4_dgB N1 0 (lX4_dgL 8 0 (lX2_mix 2 M2 0 (lX2_mix 1 M1 0 (lX2_mix 0 M0 0 (((((((((71 : Int64) * (31 : Int64)) + ((S.1 0 0 8).toInt64)) * (31 : Int64)) + ((S.1 0 0 9).toInt64)) * (31 : Int64)) + ((S.1 0 0 10).toInt64)) * (31 : Int64)) + ((S.1 0 0 11).toInt64)) S) S) S) S) S) * (31 : Int64)) + (S.2.1 0 0 14)) * (31 : Int64)) + (S.2.1 0 0 15)) * (31 : Int64)) + (S.2.1 3 0 1))), (0, .ref (G.2.2 (0, 0))), (3, .int (nI N1))]) hx hb dX4_digest_169 rfl hl (by decide) rfl (fun ls hl => ?_)
  refine lv_lload_n hx hb dX4_digest_170 rfl (lv_at hl 0 rfl) ?_
  refine lv_aload_n hx hb dX4_digest_171 rfl (lv_at hl 1 rfl) ?_
  refine g_0_4 hx hb hts hiX4 hown hK hw kC_0 (hts (.fieldLink RX4 29 "BranchPredictor" "globalAudit" "LBranchPredictor$Audit;") (by decide +kernel)) dX4_digest_172 ?_
  refine g_3_1 hx hb hts hiX0 hown hK hw (kC_3 (show (1 : Nat) < 2 from by decide)) (hts (.fieldLink RX4 183 "BranchPredictor$Audit" "allMeetings" "J") (by decide +kernel)) dX4_digest_175 ?_
  refine k_callS (n := 2) (rest := []) ⟨hx, hb, hml, hown, hts⟩ (cX4c_mix l G Z S (((((((lX4_dgB N1 0 (lX4_dgL 8 0 (lX2_mix 2 M2 0 (lX2_mix 1 M1 0 (lX2_mix 0 M0 0 (((((((((71 : Int64) * (31 : Int64)) + ((S.1 0 0 8).toInt64)) * (31 : Int64)) + ((S.1 0 0 9).toInt64)) * (31 : Int64)) + ((S.1 0 0 10).toInt64)) * (31 : Int64)) + ((S.1 0 0 11).toInt64)) S) S) S) S) S) * (31 : Int64)) + (S.2.1 0 0 14)) * (31 : Int64)) + (S.2.1 0 0 15)) * (31 : Int64)) + (S.2.1 3 0 1)) (S.2.1 3 1 1)) (va_cwS 2 hts gX4_digest_X4_mix rfl rfl rfl (by decide +kernel) ⟨Nat.le_of_ble_eq_true rfl, Nat.le_of_ble_eq_true rfl⟩) hK hN hZ hA hw (Nat.zero_le _) (Nat.zero_le _) rfl hl.1 rfl (Nat.le_of_ble_eq_true rfl) dX4_digest_178 (fun H locs hw => ?_)
  refine W.eq (g2 := F0 m 181 ls [.long (((((((((lX4_dgB N1 0 (lX4_dgL 8 0 (lX2_mix 2 M2 0 (lX2_mix 1 M1 0 (lX2_mix 0 M0 0 (((((((((71 : Int64) * (31 : Int64)) + ((S.1 0 0 8).toInt64)) * (31 : Int64)) + ((S.1 0 0 9).toInt64)) * (31 : Int64)) + ((S.1 0 0 10).toInt64)) * (31 : Int64)) + ((S.1 0 0 11).toInt64)) S) S) S) S) S) * (31 : Int64)) + (S.2.1 0 0 14)) * (31 : Int64)) + (S.2.1 0 0 15)) * (31 : Int64)) + (S.2.1 3 0 1)) * (31 : Int64)) + (S.2.1 3 1 1))]) rfl ?_
  exact k_lret hx hb hr hlocks hK hw (congrArg (fun z : Int64 => some (Value.long (z))) (show (fX4_digest S M0 M1 M2 N1) = ((((((((lX4_dgB N1 0 (lX4_dgL 8 0 (lX2_mix 2 M2 0 (lX2_mix 1 M1 0 (lX2_mix 0 M0 0 (((((((((71 : Int64) * (31 : Int64)) + ((S.1 0 0 8).toInt64)) * (31 : Int64)) + ((S.1 0 0 9).toInt64)) * (31 : Int64)) + ((S.1 0 0 10).toInt64)) * (31 : Int64)) + ((S.1 0 0 11).toInt64)) S) S) S) S) S) * (31 : Int64)) + (S.2.1 0 0 14)) * (31 : Int64)) + (S.2.1 0 0 15)) * (31 : Int64)) + (S.2.1 3 0 1)) * (31 : Int64)) + (S.2.1 3 1 1) from by unfold fX4_digest; rfl)) rfl dX4_digest_181
abbrev rmX4_inFlight : Room := { frames := 0, cells := 0, slots := 0, locals := 0 }
set_option maxHeartbeats 4000000 in
set_option maxRecDepth 100000 in
theorem cX4c_inFlight (l : Launch) (G : gG) (Z : va_W) (S : uS)  : kMet l yX4_inFlight wsX4_inFlight rmX4_inFlight G kC Z S [.ref (G.2.2 (0, 0))] (some (.int (S.1 0 0 13))) S := by
  refine kMet_of (cc := cX4_inFlight) (maxL := 1) (ret := (some .int)) (by decide) rfl (Nat.le_of_ble_eq_true rfl) ?_
  intro p e s m below meth c hx hb hr hml hlocks hts hown hK hN A hZ hA H locs hw ls hl
  have hl : lv_has ls 1 [(0, .ref (G.2.2 (0, 0)))] := hl
  have hiX4 : ∀ w ∈ wsX40, w ∈ wsX4_inFlight := by decide +kernel
  refine lv_aload_n hx hb dX4_inFlight_0 rfl (lv_at hl 0 rfl) ?_
  refine g_0_13 hx hb hts hiX4 hown hK hw kC_0 (hts (.fieldLink RX4 79 "BranchPredictor" "flying" "I") (by decide +kernel)) dX4_inFlight_1 ?_
  exact k_iret hx hb hr hlocks hK hw rfl rfl dX4_inFlight_4
abbrev rmX4_history : Room := { frames := 0, cells := 0, slots := 0, locals := 0 }
set_option maxHeartbeats 4000000 in
set_option maxRecDepth 100000 in
theorem cX4c_history (l : Launch) (G : gG) (Z : va_W) (S : uS)  : kMet l yX4_history wsX4_history rmX4_history G kC Z S [.ref (G.2.2 (0, 0))] (some (.int (S.1 0 0 11))) S := by
  refine kMet_of (cc := cX4_history) (maxL := 1) (ret := (some .int)) (by decide) rfl (Nat.le_of_ble_eq_true rfl) ?_
  intro p e s m below meth c hx hb hr hml hlocks hts hown hK hN A hZ hA H locs hw ls hl
  have hl : lv_has ls 1 [(0, .ref (G.2.2 (0, 0)))] := hl
  have hiX4 : ∀ w ∈ wsX40, w ∈ wsX4_history := by decide +kernel
  refine lv_aload_n hx hb dX4_history_0 rfl (lv_at hl 0 rfl) ?_
  refine g_0_11 hx hb hts hiX4 hown hK hw kC_0 (hts (.fieldLink RX4 119 "BranchPredictor" "outcomes" "I") (by decide +kernel)) dX4_history_1 ?_
  exact k_iret hx hb hr hlocks hK hw rfl rfl dX4_history_4
abbrev rmX4_commits : Room := { frames := 0, cells := 0, slots := 0, locals := 0 }
set_option maxHeartbeats 4000000 in
set_option maxRecDepth 100000 in
theorem cX4c_commits (l : Launch) (G : gG) (Z : va_W) (S : uS)  : kMet l yX4_commits wsX4_commits rmX4_commits G kC Z S [.ref (G.2.2 (0, 0))] (some (.long (S.2.1 0 0 14))) S := by
  refine kMet_of (cc := cX4_commits) (maxL := 1) (ret := (some .long)) (by decide) rfl (Nat.le_of_ble_eq_true rfl) ?_
  intro p e s m below meth c hx hb hr hml hlocks hts hown hK hN A hZ hA H locs hw ls hl
  have hl : lv_has ls 1 [(0, .ref (G.2.2 (0, 0)))] := hl
  have hiX4 : ∀ w ∈ wsX40, w ∈ wsX4_commits := by decide +kernel
  refine lv_aload_n hx hb dX4_commits_0 rfl (lv_at hl 0 rfl) ?_
  refine g_0_14 hx hb hts hiX4 hown hK hw kC_0 (hts (.fieldLink RX4 171 "BranchPredictor" "committed" "J") (by decide +kernel)) dX4_commits_1 ?_
  exact k_lret hx hb hr hlocks hK hw rfl rfl dX4_commits_4
abbrev rmX4_drops : Room := { frames := 0, cells := 0, slots := 0, locals := 0 }
set_option maxHeartbeats 4000000 in
set_option maxRecDepth 100000 in
theorem cX4c_drops (l : Launch) (G : gG) (Z : va_W) (S : uS)  : kMet l yX4_drops wsX4_drops rmX4_drops G kC Z S [.ref (G.2.2 (0, 0))] (some (.long (S.2.1 0 0 15))) S := by
  refine kMet_of (cc := cX4_drops) (maxL := 1) (ret := (some .long)) (by decide) rfl (Nat.le_of_ble_eq_true rfl) ?_
  intro p e s m below meth c hx hb hr hml hlocks hts hown hK hN A hZ hA H locs hw ls hl
  have hl : lv_has ls 1 [(0, .ref (G.2.2 (0, 0)))] := hl
  have hiX4 : ∀ w ∈ wsX40, w ∈ wsX4_drops := by decide +kernel
  refine lv_aload_n hx hb dX4_drops_0 rfl (lv_at hl 0 rfl) ?_
  refine g_0_15 hx hb hts hiX4 hown hK hw kC_0 (hts (.fieldLink RX4 175 "BranchPredictor" "dropped" "J") (by decide +kernel)) dX4_drops_1 ?_
  exact k_lret hx hb hr hlocks hK hw rfl rfl dX4_drops_4
