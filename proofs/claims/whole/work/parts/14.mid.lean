theorem lW_at (x : Int32) (S : uS) : ∀ n i : Nat, i + n = 8 → lX4_loopWith x n i S = -1 ∨ ∃ j : Nat, j < 8 ∧ i ≤ j ∧ lX4_loopWith x n i S = nI j ∧ S.1 9 j 0 = x := by
  intro n
  induction n with
  | zero => intro i _; exact Or.inl rfl
  | succ n ih =>
    intro i h
    by_cases c : S.1 9 i 0 = x
    · exact Or.inr ⟨i, by omega, Nat.le_refl _, by rw [lX4_loopWith, if_pos c], c⟩
    · rcases ih (i + 1) (by omega) with h1 | ⟨j, h1, h2, h3, h4⟩
      · exact Or.inl (by rw [lX4_loopWith, if_neg c]; exact h1)
      · exact Or.inr ⟨j, h1, by omega, by rw [lX4_loopWith, if_neg c]; exact h3, h4⟩
theorem lW_in {x : Int32} {S : uS} (h : ¬ lX4_loopWith x 8 0 S < 0) : vp_in (lX4_loopWith x 8 0 S) 8 := by
  rcases lW_at x S 8 0 rfl with h1 | ⟨j, h1, -, h3, -⟩
  · exact absurd (by rw [h1]; decide) h
  · rw [h3]; exact vp_in_nI h1 (by decide)
theorem lN_at (S : uS) : ∀ n i j : Nat, i + n = 8 → j < 8 → ∃ k : Nat, k < 8 ∧ lX4_number n i j S = nI k := by
  intro n
  induction n with
  | zero => intro i j _ hj; exact ⟨j, hj, rfl⟩
  | succ n ih =>
    intro i j h hj
    rw [lX4_number]
    split
    · split
      · exact ih (i + 1) j (by omega) hj
      · exact ih (i + 1) i (by omega) (by omega)
    · exact ⟨i, by omega, rfl⟩
theorem lN_in (S : uS) : vp_in (lX4_number 8 0 0 S) 8 := by
  obtain ⟨k, h1, h2⟩ := lN_at S 8 0 0 rfl (by decide)
  rw [h2]; exact vp_in_nI h1 (by decide)
theorem lX4_count_1 (k : Nat) (b : Bool) : ∀ (n i : Nat) (S : uS), (lX4_count k b n i S).1 = S.1 := by
  intro n
  induction n with
  | zero => intro i S; rfl
  | succ n ih => intro i S; rw [lX4_count]; split <;> rw [ih] <;> rfl
theorem lX4_count_F (k : Nat) (b : Bool) : ∀ (n i : Nat) (S : uS), (lX4_count k b n i S).2.2 = S.2.2 := by
  intro n
  induction n with
  | zero => intro i S; rfl
  | succ n ih => intro i S; rw [lX4_count]; split <;> rw [ih] <;> rfl
theorem lX4_count_L (k : Nat) (b : Bool) {a : Nat} (h : a ≠ 7) : ∀ (n i : Nat) (S : uS), (lX4_count k b n i S).2.1 a = S.2.1 a := by
  intro n
  induction n with
  | zero => intro i S; rfl
  | succ n ih =>
    intro i S
    rw [lX4_count]
    split <;> rw [ih]
    funext y z
    simp [uL, h]
theorem fX2_move_2 (S : uS) (k : Nat) (x : Int32) (b : Bool) : (fX2_move S k x b).2 = S.2 := by unfold fX2_move; split <;> rfl
theorem fX2_move_I (S : uS) (k : Nat) (x : Int32) (b : Bool) {a : Nat} (h : a ≠ 2) : (fX2_move S k x b).1 a = S.1 a := by
  unfold fX2_move
  split <;> (funext y z; simp [uI, h])
theorem fX0_note_F (S : uS) (k : Nat) (x y : Int32) (b : Bool) : (fX0_note S k x y b).2.2 = S.2.2 := by
  unfold fX0_note
  repeat' split
  all_goals rfl
theorem fX0_note_I (S : uS) (k : Nat) (x y : Int32) (b : Bool) {a : Nat} (h : a ≠ 4) : (fX0_note S k x y b).1 a = S.1 a := by
  unfold fX0_note
  repeat' split
  all_goals (funext u v; simp [uI, uL, h])
theorem fX0_note_L (S : uS) (k : Nat) (x y : Int32) (b : Bool) {a : Nat} (h : a ≠ 3) : (fX0_note S k x y b).2.1 a = S.2.1 a := by
  unfold fX0_note
  repeat' split
  all_goals (funext u v; simp [uI, uL, h])
theorem fX3_learn_2 (S : uS) (k : Nat) (b : Bool) : (fX3_learn S k b).2 = S.2 := by
  unfold fX3_learn
  repeat' split
  all_goals rfl
theorem fX3_learn_I (S : uS) (k : Nat) (b : Bool) {a : Nat} (h : a ≠ 9) : (fX3_learn S k b).1 a = S.1 a := by
  unfold fX3_learn
  repeat' split
  all_goals (funext u v; simp [uI, h])
theorem fX3_startAnew_2 (S : uS) (k : Nat) (x : Int32) : (fX3_startAnew S k x).2 = S.2 := rfl
theorem fX3_startAnew_I (S : uS) (k : Nat) (x : Int32) {a : Nat} (h : a ≠ 9) : (fX3_startAnew S k x).1 a = S.1 a := by
  unfold fX3_startAnew
  funext u v; simp [uI, h]
def fTab (x1 : Int32) : Nat := if x1 = (0 : Int32) then 0 else if x1 = (1 : Int32) then 1 else 2
theorem fTab_lt (x1 : Int32) : fTab x1 < 3 := by unfold fTab; split <;> (try split) <;> decide
abbrev rmX4_tableWith : Room := { frames := 0, cells := 0, slots := 0, locals := 0 }
set_option maxHeartbeats 4000000 in
set_option maxRecDepth 100000 in
theorem cX4c_tableWith (l : Launch) (G : gG) (Z : va_W) (S : uS) (x1 : Int32) : kMet l yX4_tableWith wsX4_tableWith rmX4_tableWith G kC Z S [.ref (G.2.2 (0, 0)), .int (x1)] (some (.ref (G.2.2 (1, (fTab x1))))) S := by
  refine kMet_of (cc := cX4_tableWith) (maxL := 2) (ret := (some (.object "BranchPredictor$CounterTable"))) (by decide) rfl (Nat.le_of_ble_eq_true rfl) ?_
  intro p e s m below meth c hx hb hr hml hlocks hts hown hK hN A hZ hA H locs hw ls hl
  have hl : lv_has ls 2 [(0, .ref (G.2.2 (0, 0))), (1, .int (x1))] := hl
  have hiX4 : ∀ w ∈ wsX40, w ∈ wsX4_tableWith := by decide +kernel
  refine lv_iload_n hx hb dX4_tableWith_0 rfl (lv_at hl 1 rfl) ?_
  refine lv_if_ne (x := x1) (tgt := 9) hx hb dX4_tableWith_1 (by decide) (fun c_1 => ?_) (fun c_1 => ?_)
  · skip
    refine lv_iload_n hx hb dX4_tableWith_9 rfl (lv_at hl 1 rfl) ?_
    refine lv_iconst (v := 1) hx hb dX4_tableWith_10 (by decide) ?_
    refine lv_icmp_ne (tgt := 21) hx hb dX4_tableWith_11 (by decide) (fun c_2 => ?_) (fun c_2 => ?_)
    · skip
      refine lv_aload_n hx hb dX4_tableWith_21 rfl (lv_at hl 0 rfl) ?_
      refine g_0_2 hx hb hts hiX4 hown hK hw kC_0 (hts (.fieldLink RX4 19 "BranchPredictor" "choiceTable" "LBranchPredictor$CounterTable;") (by decide +kernel)) dX4_tableWith_22 ?_
      exact k_aret hx hb hr hlocks hK hw (congrArg (fun z : Nat => some (Value.ref (G.2.2 (1, z)))) (show fTab x1 = 2 from by unfold fTab; rw [if_neg c_1, if_neg c_2])) rfl dX4_tableWith_25
    · skip
      refine lv_aload_n hx hb dX4_tableWith_14 rfl (lv_at hl 0 rfl) ?_
      refine g_0_1 hx hb hts hiX4 hown hK hw kC_0 (hts (.fieldLink RX4 16 "BranchPredictor" "globalTable" "LBranchPredictor$CounterTable;") (by decide +kernel)) dX4_tableWith_15 ?_
      refine lv_goto (tgt := 25) hx hb dX4_tableWith_18 (by decide) ?_
      exact k_aret hx hb hr hlocks hK hw (congrArg (fun z : Nat => some (Value.ref (G.2.2 (1, z)))) (show fTab x1 = 1 from by unfold fTab; rw [if_neg c_1, if_pos c_2])) rfl dX4_tableWith_25
  · skip
    refine lv_aload_n hx hb dX4_tableWith_4 rfl (lv_at hl 0 rfl) ?_
    refine g_0_0 hx hb hts hiX4 hown hK hw kC_0 (hts (.fieldLink RX4 12 "BranchPredictor" "plainTable" "LBranchPredictor$CounterTable;") (by decide +kernel)) dX4_tableWith_5 ?_
    exact k_aret hx hb hr hlocks hK hw (congrArg (fun z : Nat => some (Value.ref (G.2.2 (1, z)))) (show fTab x1 = 0 from by unfold fTab; rw [if_pos c_1])) rfl dX4_tableWith_8
def fX4_loopPrediction (S : uS) (N1 : Nat) (x1 : Int32) (b1 : Bool) : Bool :=
  if (lX4_loopWith x1 8 0 S) < (0 : Int32) then b1
  else if (3 : Int32) ≤ (S.1 9 ((lX4_loopWith x1 8 0 S).toNatClampNeg) 3) then if (S.1 9 ((lX4_loopWith x1 8 0 S).toNatClampNeg) 2) ≤ (lX4_presumed ((lX4_loopWith x1 8 0 S).toNatClampNeg) N1 0 (S.1 9 ((lX4_loopWith x1 8 0 S).toNatClampNeg) 1) S) then false else true
    else b1
abbrev rmX4_loopPrediction : Room := { frames := 2, cells := 0, slots := 0, locals := 45 }
set_option maxHeartbeats 4000000 in
set_option maxRecDepth 100000 in
theorem cX4c_loopPrediction (l : Launch) (G : gG) (Z : va_W) (S : uS) (N1 : Nat) (h_N1 : S.1 0 0 13 = nI N1) (h_N1b : N1 < 2 ^ 31) (x1 : Int32) (b1 : Bool) : kMet l yX4_loopPrediction wsX4_loopPrediction rmX4_loopPrediction G kC Z S [.ref (G.2.2 (0, 0)), .int (x1), .int (bI (b1))] (some (.int (bI ((fX4_loopPrediction S N1 x1 b1))))) S := by
  refine kMet_of (cc := cX4_loopPrediction) (maxL := 4) (ret := (some .boolean)) (by decide) rfl (Nat.le_of_ble_eq_true rfl) ?_
  intro p e s m below meth c hx hb hr hml hlocks hts hown hK hN A hZ hA H locs hw ls hl
  have hl : lv_has ls 4 [(0, .ref (G.2.2 (0, 0))), (1, .int (x1)), (2, .int (bI (b1)))] := hl
  have hiX3 : ∀ w ∈ wsX30, w ∈ wsX4_loopPrediction := by decide +kernel
  have hiX4 : ∀ w ∈ wsX40, w ∈ wsX4_loopPrediction := by decide +kernel
  refine lv_aload_n hx hb dX4_loopPrediction_0 rfl (lv_at hl 0 rfl) ?_
  refine lv_iload_n hx hb dX4_loopPrediction_1 rfl (lv_at hl 1 rfl) ?_
  refine k_callV (C := RX4) (n := 1) (rest := []) ⟨hx, hb, hml, hown, hts⟩ (cX4c_loopWith l G Z S x1) (cwV 1 hts gX4_loopPrediction_X4_loopWith rfl rfl rfl (by decide +kernel) ⟨Nat.le_of_ble_eq_true rfl, Nat.le_of_ble_eq_true rfl⟩) (k_recv hK hw kC_0 rfl rfl) hK hN hZ hA hw (Nat.zero_le _) (Nat.zero_le _) rfl hl.1 rfl (Nat.le_of_ble_eq_true rfl) dX4_loopPrediction_2 (fun H locs hw => ?_)
  refine W.eq (g2 := F0 m 5 ls [.int ((lX4_loopWith x1 8 0 S))]) rfl ?_
  refine lv_istore_n (lv' := [(3, .int ((lX4_loopWith x1 8 0 S))), (0, .ref (G.2.2 (0, 0))), (1, .int (x1)), (2, .int (bI (b1)))]) hx hb dX4_loopPrediction_5 rfl hl (by decide) rfl (fun ls hl => ?_)
  refine lv_iload_n hx hb dX4_loopPrediction_6 rfl (lv_at hl 0 rfl) ?_
  refine lv_if_lt (x := (lX4_loopWith x1 8 0 S)) (tgt := 23) hx hb dX4_loopPrediction_7 (by decide) (fun c_1 => ?_) (fun c_1 => ?_)
  · skip
    refine lv_iload_n hx hb dX4_loopPrediction_23 rfl (lv_at hl 3 rfl) ?_
    exact k_zret (r := b1) hx hb hr hlocks hK hw (congrArg (fun z : Bool => some (Value.int (bI (z)))) (show (fX4_loopPrediction S N1 x1 b1) = b1 from by unfold fX4_loopPrediction; rw [if_pos c_1])) rfl dX4_loopPrediction_24
  · skip
    refine lv_aload_n hx hb dX4_loopPrediction_10 rfl (lv_at hl 1 rfl) ?_
    refine g_0_6 hx hb hts hiX4 hown hK hw kC_0 (hts (.fieldLink RX4 40 "BranchPredictor" "loops" "[LBranchPredictor$Loop;") (by decide +kernel)) dX4_loopPrediction_11 ?_
    refine lv_iload_n hx hb dX4_loopPrediction_14 rfl (lv_at hl 0 rfl) ?_
    refine ald_6 hx hb hK hw kC_6 (lW_in c_1) dX4_loopPrediction_15 ?_
    refine g_9_3 hx hb hts hiX3 hown hK hw (kC_9 (vp_lt (lW_in c_1))) (hts (.fieldLink RX4 164 "BranchPredictor$Loop" "trust" "I") (by decide +kernel)) dX4_loopPrediction_16 ?_
    refine lv_iconst (v := 3) hx hb dX4_loopPrediction_19 (by decide) ?_
    refine lv_icmp_ge (tgt := 25) hx hb dX4_loopPrediction_20 (by decide) (fun c_2 => ?_) (fun c_2 => ?_)
    · skip
      refine lv_aload_n hx hb dX4_loopPrediction_25 rfl (lv_at hl 1 rfl) ?_
      refine lv_aload_n hx hb dX4_loopPrediction_26 rfl (lv_at hl 1 rfl) ?_
      refine g_0_6 hx hb hts hiX4 hown hK hw kC_0 (hts (.fieldLink RX4 40 "BranchPredictor" "loops" "[LBranchPredictor$Loop;") (by decide +kernel)) dX4_loopPrediction_27 ?_
      refine lv_iload_n hx hb dX4_loopPrediction_30 rfl (lv_at hl 0 rfl) ?_
      refine ald_6 hx hb hK hw kC_6 (lW_in c_1) dX4_loopPrediction_31 ?_
      refine k_callV (C := RX4) (n := 1) (rest := []) ⟨hx, hb, hml, hown, hts⟩ (cX4c_presumedCount l G Z S ((lX4_loopWith x1 8 0 S).toNatClampNeg) (vp_lt (lW_in c_1)) N1 h_N1 h_N1b) (cwV 1 hts gX4_loopPrediction_X4_presumedCount rfl rfl rfl (by decide +kernel) ⟨Nat.le_of_ble_eq_true rfl, Nat.le_of_ble_eq_true rfl⟩) (k_recv hK hw kC_0 rfl rfl) hK hN hZ hA hw (Nat.zero_le _) (Nat.zero_le _) rfl hl.1 rfl (Nat.le_of_ble_eq_true rfl) dX4_loopPrediction_32 (fun H locs hw => ?_)
      refine W.eq (g2 := F0 m 35 ls [.int ((lX4_presumed ((lX4_loopWith x1 8 0 S).toNatClampNeg) N1 0 (S.1 9 ((lX4_loopWith x1 8 0 S).toNatClampNeg) 1) S))]) rfl ?_
      refine lv_aload_n hx hb dX4_loopPrediction_35 rfl (lv_at hl 1 rfl) ?_
      refine g_0_6 hx hb hts hiX4 hown hK hw kC_0 (hts (.fieldLink RX4 40 "BranchPredictor" "loops" "[LBranchPredictor$Loop;") (by decide +kernel)) dX4_loopPrediction_36 ?_
      refine lv_iload_n hx hb dX4_loopPrediction_39 rfl (lv_at hl 0 rfl) ?_
      refine ald_6 hx hb hK hw kC_6 (lW_in c_1) dX4_loopPrediction_40 ?_
      refine g_9_2 hx hb hts hiX3 hown hK hw (kC_9 (vp_lt (lW_in c_1))) (hts (.fieldLink RX4 161 "BranchPredictor$Loop" "trip" "I") (by decide +kernel)) dX4_loopPrediction_41 ?_
      refine k_join (P := fun x9 : Bool => W p l e rmX4_loopPrediction s m [.ref (G.2.2 (0, 0)), .int (x1), .int (bI (b1))].toArray below meth c H locs 0 0 (MQ below (kQ G kC Z A (some (.int (bI ((fX4_loopPrediction S N1 x1 b1))))) S) [.ref (G.2.2 (0, 0)), .int (x1), .int (bI (b1))].toArray s 0 0 A) (F0 m 52 ls [.int (bI (x9))])) (C := (S.1 9 ((lX4_loopWith x1 8 0 S).toNatClampNeg) 2) ≤ (lX4_presumed ((lX4_loopWith x1 8 0 S).toNatClampNeg) N1 0 (S.1 9 ((lX4_loopWith x1 8 0 S).toNatClampNeg) 1) S)) (a := false) (b := true) ?_ (fun ka kb => ?_)
      rotate_left
      · refine lv_icmp_ge (tgt := 51) hx hb dX4_loopPrediction_44 (by decide) (fun c_3 => ?_) (fun c_3 => ?_)
        · skip
          refine lv_iconst (v := 0) hx hb dX4_loopPrediction_51 (by decide) ?_
          exact ka c_3
        · skip
          refine lv_iconst (v := 1) hx hb dX4_loopPrediction_47 (by decide) ?_
          refine lv_goto (tgt := 52) hx hb dX4_loopPrediction_48 (by decide) ?_
          exact kb c_3
      show W p l e rmX4_loopPrediction s m [.ref (G.2.2 (0, 0)), .int (x1), .int (bI (b1))].toArray below meth c H locs 0 0 (MQ below (kQ G kC Z A (some (.int (bI ((fX4_loopPrediction S N1 x1 b1))))) S) [.ref (G.2.2 (0, 0)), .int (x1), .int (bI (b1))].toArray s 0 0 A) (F0 m 52 ls [.int (bI (if (S.1 9 ((lX4_loopWith x1 8 0 S).toNatClampNeg) 2) ≤ (lX4_presumed ((lX4_loopWith x1 8 0 S).toNatClampNeg) N1 0 (S.1 9 ((lX4_loopWith x1 8 0 S).toNatClampNeg) 1) S) then false else true))])
      exact k_zret (r := if (S.1 9 ((lX4_loopWith x1 8 0 S).toNatClampNeg) 2) ≤ (lX4_presumed ((lX4_loopWith x1 8 0 S).toNatClampNeg) N1 0 (S.1 9 ((lX4_loopWith x1 8 0 S).toNatClampNeg) 1) S) then false else true) hx hb hr hlocks hK hw (congrArg (fun z : Bool => some (Value.int (bI (z)))) (show (fX4_loopPrediction S N1 x1 b1) = if (S.1 9 ((lX4_loopWith x1 8 0 S).toNatClampNeg) 2) ≤ (lX4_presumed ((lX4_loopWith x1 8 0 S).toNatClampNeg) N1 0 (S.1 9 ((lX4_loopWith x1 8 0 S).toNatClampNeg) 1) S) then false else true from by unfold fX4_loopPrediction; rw [if_neg c_1, if_pos c_2])) rfl dX4_loopPrediction_52
    · skip
      refine lv_iload_n hx hb dX4_loopPrediction_23 rfl (lv_at hl 3 rfl) ?_
      exact k_zret (r := b1) hx hb hr hlocks hK hw (congrArg (fun z : Bool => some (Value.int (bI (z)))) (show (fX4_loopPrediction S N1 x1 b1) = b1 from by unfold fX4_loopPrediction; rw [if_neg c_1, if_neg c_2])) rfl dX4_loopPrediction_24
def fX4_launch (S : uS) (N1 : Nat) (x1 : Int32) : Bool × uS :=
  ((fX4_loopPrediction (uF (uF (uF (uI (uI (uI (uI (uI S 8 (fIx S (S.1 0 0 13)) 0 x1) 8 (fIx S (S.1 0 0 13)) 1 (0 : Int32)) 8 (fIx S (S.1 0 0 13)) 2 (S.1 0 0 11)) 8 (fIx S (S.1 0 0 13)) 3 (x1 &&& (((S.1 1 0 1)) - (1 : Int32)))) 8 (fIx S (S.1 0 0 13)) 4 ((x1 ^^^ (S.1 0 0 11)) &&& (((S.1 1 1 1)) - (1 : Int32)))) 8 (fIx S (S.1 0 0 13)) 5 (fX2_saysTaken S 0 (x1 &&& (((S.1 1 0 1)) - (1 : Int32))))) 8 (fIx S (S.1 0 0 13)) 6 (fX2_saysTaken S 1 ((x1 ^^^ (S.1 0 0 11)) &&& (((S.1 1 1 1)) - (1 : Int32))))) 8 (fIx S (S.1 0 0 13)) 7 (if (fX2_saysTaken S 2 (x1 &&& (((S.1 1 0 1)) - (1 : Int32)))) = false then (fX2_saysTaken S 0 (x1 &&& (((S.1 1 0 1)) - (1 : Int32)))) else (fX2_saysTaken S 1 ((x1 ^^^ (S.1 0 0 11)) &&& (((S.1 1 1 1)) - (1 : Int32)))))) N1 x1 (if (fX2_saysTaken S 2 (x1 &&& (((S.1 1 0 1)) - (1 : Int32)))) = false then (fX2_saysTaken S 0 (x1 &&& (((S.1 1 0 1)) - (1 : Int32)))) else (fX2_saysTaken S 1 ((x1 ^^^ (S.1 0 0 11)) &&& (((S.1 1 1 1)) - (1 : Int32)))))), (uI (uI (uF (uF (uF (uF (uI (uI (uI (uI (uI S 8 (fIx S (S.1 0 0 13)) 0 x1) 8 (fIx S (S.1 0 0 13)) 1 (0 : Int32)) 8 (fIx S (S.1 0 0 13)) 2 (S.1 0 0 11)) 8 (fIx S (S.1 0 0 13)) 3 (x1 &&& (((S.1 1 0 1)) - (1 : Int32)))) 8 (fIx S (S.1 0 0 13)) 4 ((x1 ^^^ (S.1 0 0 11)) &&& (((S.1 1 1 1)) - (1 : Int32)))) 8 (fIx S (S.1 0 0 13)) 5 (fX2_saysTaken S 0 (x1 &&& (((S.1 1 0 1)) - (1 : Int32))))) 8 (fIx S (S.1 0 0 13)) 6 (fX2_saysTaken S 1 ((x1 ^^^ (S.1 0 0 11)) &&& (((S.1 1 1 1)) - (1 : Int32))))) 8 (fIx S (S.1 0 0 13)) 7 (if (fX2_saysTaken S 2 (x1 &&& (((S.1 1 0 1)) - (1 : Int32)))) = false then (fX2_saysTaken S 0 (x1 &&& (((S.1 1 0 1)) - (1 : Int32)))) else (fX2_saysTaken S 1 ((x1 ^^^ (S.1 0 0 11)) &&& (((S.1 1 1 1)) - (1 : Int32)))))) 8 (fIx S (S.1 0 0 13)) 8 (fX4_loopPrediction (uF (uF (uF (uI (uI (uI (uI (uI S 8 (fIx S (S.1 0 0 13)) 0 x1) 8 (fIx S (S.1 0 0 13)) 1 (0 : Int32)) 8 (fIx S (S.1 0 0 13)) 2 (S.1 0 0 11)) 8 (fIx S (S.1 0 0 13)) 3 (x1 &&& (((S.1 1 0 1)) - (1 : Int32)))) 8 (fIx S (S.1 0 0 13)) 4 ((x1 ^^^ (S.1 0 0 11)) &&& (((S.1 1 1 1)) - (1 : Int32)))) 8 (fIx S (S.1 0 0 13)) 5 (fX2_saysTaken S 0 (x1 &&& (((S.1 1 0 1)) - (1 : Int32))))) 8 (fIx S (S.1 0 0 13)) 6 (fX2_saysTaken S 1 ((x1 ^^^ (S.1 0 0 11)) &&& (((S.1 1 1 1)) - (1 : Int32))))) 8 (fIx S (S.1 0 0 13)) 7 (if (fX2_saysTaken S 2 (x1 &&& (((S.1 1 0 1)) - (1 : Int32)))) = false then (fX2_saysTaken S 0 (x1 &&& (((S.1 1 0 1)) - (1 : Int32)))) else (fX2_saysTaken S 1 ((x1 ^^^ (S.1 0 0 11)) &&& (((S.1 1 1 1)) - (1 : Int32)))))) N1 x1 (if (fX2_saysTaken S 2 (x1 &&& (((S.1 1 0 1)) - (1 : Int32)))) = false then (fX2_saysTaken S 0 (x1 &&& (((S.1 1 0 1)) - (1 : Int32)))) else (fX2_saysTaken S 1 ((x1 ^^^ (S.1 0 0 11)) &&& (((S.1 1 1 1)) - (1 : Int32))))))) 0 0 13 ((S.1 0 0 13) + (1 : Int32))) 0 0 11 ((((2 : Int32) * (S.1 0 0 11)) + (if (fX4_loopPrediction (uF (uF (uF (uI (uI (uI (uI (uI S 8 (fIx S (S.1 0 0 13)) 0 x1) 8 (fIx S (S.1 0 0 13)) 1 (0 : Int32)) 8 (fIx S (S.1 0 0 13)) 2 (S.1 0 0 11)) 8 (fIx S (S.1 0 0 13)) 3 (x1 &&& (((S.1 1 0 1)) - (1 : Int32)))) 8 (fIx S (S.1 0 0 13)) 4 ((x1 ^^^ (S.1 0 0 11)) &&& (((S.1 1 1 1)) - (1 : Int32)))) 8 (fIx S (S.1 0 0 13)) 5 (fX2_saysTaken S 0 (x1 &&& (((S.1 1 0 1)) - (1 : Int32))))) 8 (fIx S (S.1 0 0 13)) 6 (fX2_saysTaken S 1 ((x1 ^^^ (S.1 0 0 11)) &&& (((S.1 1 1 1)) - (1 : Int32))))) 8 (fIx S (S.1 0 0 13)) 7 (if (fX2_saysTaken S 2 (x1 &&& (((S.1 1 0 1)) - (1 : Int32)))) = false then (fX2_saysTaken S 0 (x1 &&& (((S.1 1 0 1)) - (1 : Int32)))) else (fX2_saysTaken S 1 ((x1 ^^^ (S.1 0 0 11)) &&& (((S.1 1 1 1)) - (1 : Int32)))))) N1 x1 (if (fX2_saysTaken S 2 (x1 &&& (((S.1 1 0 1)) - (1 : Int32)))) = false then (fX2_saysTaken S 0 (x1 &&& (((S.1 1 0 1)) - (1 : Int32)))) else (fX2_saysTaken S 1 ((x1 ^^^ (S.1 0 0 11)) &&& (((S.1 1 1 1)) - (1 : Int32)))))) = false then (0 : Int32) else (1 : Int32))) &&& (((1 : Int32) <<< (((S.1 0 0 10)) &&& 31)) - (1 : Int32)))))
abbrev rmX4_launch : Room := { frames := 3, cells := 0, slots := 0, locals := 68 }
set_option maxHeartbeats 4000000 in
set_option maxRecDepth 100000 in
theorem cX4c_launch (l : Launch) (G : gG) (Z : va_W) (S : uS) (N1 : Nat) (h_N1 : S.1 0 0 13 = nI N1) (h_N1b : N1 < 2 ^ 31) (x1 : Int32) : kMet l yX4_launch wsX4_launch rmX4_launch G kC Z S [.ref (G.2.2 (0, 0)), .int (x1)] (some (.int (bI ((fX4_launch S N1 x1).1)))) ((fX4_launch S N1 x1).2) := by
  refine kMet_of (cc := cX4_launch) (maxL := 3) (ret := (some .boolean)) (by decide) rfl (Nat.le_of_ble_eq_true rfl) ?_
  intro p e s m below meth c hx hb hr hml hlocks hts hown hK hN A hZ hA H locs hw ls hl
  have hl : lv_has ls 3 [(0, .ref (G.2.2 (0, 0))), (1, .int (x1))] := hl
  have hiX1 : ∀ w ∈ wsX10, w ∈ wsX4_launch := by decide +kernel
  have hiX4 : ∀ w ∈ wsX40, w ∈ wsX4_launch := by decide +kernel
  refine lv_aload_n hx hb dX4_launch_0 rfl (lv_at hl 0 rfl) ?_
  refine lv_aload_n hx hb dX4_launch_1 rfl (lv_at hl 0 rfl) ?_
  refine g_0_13 hx hb hts hiX4 hown hK hw kC_0 (hts (.fieldLink RX4 79 "BranchPredictor" "flying" "I") (by decide +kernel)) dX4_launch_2 ?_
  refine k_callV (C := RX4) (n := 1) (rest := []) ⟨hx, hb, hml, hown, hts⟩ (cX4c_branchAt l G Z S (S.1 0 0 13)) (cwV 1 hts gX4_launch_X4_branchAt rfl rfl rfl (by decide +kernel) ⟨Nat.le_of_ble_eq_true rfl, Nat.le_of_ble_eq_true rfl⟩) (k_recv hK hw kC_0 rfl rfl) hK hN hZ hA hw (Nat.zero_le _) (Nat.zero_le _) rfl hl.1 rfl (Nat.le_of_ble_eq_true rfl) dX4_launch_5 (fun H locs hw => ?_)
  refine W.eq (g2 := F0 m 8 ls [.ref (G.2.2 (8, (fIx S (S.1 0 0 13))))]) rfl ?_
  refine lv_astore_n (lv' := [(2, .ref (G.2.2 (8, (fIx S (S.1 0 0 13))))), (0, .ref (G.2.2 (0, 0))), (1, .int (x1))]) hx hb dX4_launch_8 rfl hl (by decide) rfl (fun ls hl => ?_)
  refine lv_aload_n hx hb dX4_launch_9 rfl (lv_at hl 0 rfl) ?_
  refine lv_iload_n hx hb dX4_launch_10 rfl (lv_at hl 2 rfl) ?_
  refine p_8_0 (v := x1) hx hb hts hiX1 hown hK hw (kC_8 (fIx_lt S (S.1 0 0 13))) (hts (.fieldLink RX4 126 "BranchPredictor$Branch" "place" "I") (by decide +kernel)) dX4_launch_11 (fun H locs hw => ?_)
  refine lv_aload_n hx hb dX4_launch_14 rfl (lv_at hl 0 rfl) ?_
  refine lv_iconst (v := 0) hx hb dX4_launch_15 (by decide) ?_
  refine p_8_1 (v := (0 : Int32)) hx hb hts hiX1 hown hK hw (kC_8 (fIx_lt S (S.1 0 0 13))) (hts (.fieldLink RX4 97 "BranchPredictor$Branch" "state" "I") (by decide +kernel)) dX4_launch_16 (fun H locs hw => ?_)
  refine lv_aload_n hx hb dX4_launch_19 rfl (lv_at hl 0 rfl) ?_
  refine lv_aload_n hx hb dX4_launch_20 rfl (lv_at hl 1 rfl) ?_
  refine g_0_11 hx hb hts hiX4 hown hK hw kC_0 (hts (.fieldLink RX4 119 "BranchPredictor" "outcomes" "I") (by decide +kernel)) dX4_launch_21 ?_
  refine k_topi (z := S.1 0 0 11) (by simp [uI, uL, uF]) ?_
  refine p_8_2 (v := S.1 0 0 11) hx hb hts hiX1 hown hK hw (kC_8 (fIx_lt S (S.1 0 0 13))) (hts (.fieldLink RX4 116 "BranchPredictor$Branch" "historyAhead" "I") (by decide +kernel)) dX4_launch_24 (fun H locs hw => ?_)
  refine lv_aload_n hx hb dX4_launch_27 rfl (lv_at hl 0 rfl) ?_
  refine lv_aload_n hx hb dX4_launch_28 rfl (lv_at hl 1 rfl) ?_
  refine g_0_0 hx hb hts hiX4 hown hK hw kC_0 (hts (.fieldLink RX4 12 "BranchPredictor" "plainTable" "LBranchPredictor$CounterTable;") (by decide +kernel)) dX4_launch_29 ?_
  refine lv_iload_n hx hb dX4_launch_32 rfl (lv_at hl 2 rfl) ?_
  refine k_callV (C := RX2) (n := 1) (rest := [.ref (G.2.2 (8, (fIx S (S.1 0 0 13))))]) ⟨hx, hb, hml, hown, hts⟩ (cX2c_indexFor l G Z (uI (uI (uI S 8 (fIx S (S.1 0 0 13)) 0 x1) 8 (fIx S (S.1 0 0 13)) 1 (0 : Int32)) 8 (fIx S (S.1 0 0 13)) 2 (S.1 0 0 11)) 0 (show (0 : Nat) < 3 from by decide) x1) (cwV 1 hts gX4_launch_X2_indexFor rfl rfl rfl (by decide +kernel) ⟨Nat.le_of_ble_eq_true rfl, Nat.le_of_ble_eq_true rfl⟩) (k_recv hK hw (kC_1 (show (0 : Nat) < 3 from by decide)) rfl rfl) hK hN hZ hA hw (Nat.zero_le _) (Nat.zero_le _) rfl hl.1 rfl (Nat.le_of_ble_eq_true rfl) dX4_launch_33 (fun H locs hw => ?_)
  refine W.eq (g2 := F0 m 36 ls [.int (x1 &&& (((uI (uI (uI S 8 (fIx S (S.1 0 0 13)) 0 x1) 8 (fIx S (S.1 0 0 13)) 1 (0 : Int32)) 8 (fIx S (S.1 0 0 13)) 2 (S.1 0 0 11)).1 1 0 1) - (1 : Int32))), .ref (G.2.2 (8, (fIx S (S.1 0 0 13))))]) rfl ?_
  refine k_topi (z := x1 &&& (((S.1 1 0 1)) - (1 : Int32))) (by first | rfl | simp [uI, uL, uF]) ?_
  refine p_8_3 (v := x1 &&& (((S.1 1 0 1)) - (1 : Int32))) hx hb hts hiX1 hown hK hw (kC_8 (fIx_lt S (S.1 0 0 13))) (hts (.fieldLink RX4 216 "BranchPredictor$Branch" "plainIndex" "I") (by decide +kernel)) dX4_launch_36 (fun H locs hw => ?_)
  refine lv_aload_n hx hb dX4_launch_39 rfl (lv_at hl 0 rfl) ?_
  refine lv_aload_n hx hb dX4_launch_40 rfl (lv_at hl 1 rfl) ?_
  refine g_0_1 hx hb hts hiX4 hown hK hw kC_0 (hts (.fieldLink RX4 16 "BranchPredictor" "globalTable" "LBranchPredictor$CounterTable;") (by decide +kernel)) dX4_launch_41 ?_
  refine lv_iload_n hx hb dX4_launch_44 rfl (lv_at hl 2 rfl) ?_
  refine lv_aload_n hx hb dX4_launch_45 rfl (lv_at hl 1 rfl) ?_
  refine g_0_11 hx hb hts hiX4 hown hK hw kC_0 (hts (.fieldLink RX4 119 "BranchPredictor" "outcomes" "I") (by decide +kernel)) dX4_launch_46 ?_
  refine k_topi (z := S.1 0 0 11) (by simp [uI, uL, uF]) ?_
  refine lv_ixor hx hb dX4_launch_49 ?_
  refine k_callV (C := RX2) (n := 1) (rest := [.ref (G.2.2 (8, (fIx S (S.1 0 0 13))))]) ⟨hx, hb, hml, hown, hts⟩ (cX2c_indexFor l G Z (uI (uI (uI (uI S 8 (fIx S (S.1 0 0 13)) 0 x1) 8 (fIx S (S.1 0 0 13)) 1 (0 : Int32)) 8 (fIx S (S.1 0 0 13)) 2 (S.1 0 0 11)) 8 (fIx S (S.1 0 0 13)) 3 (x1 &&& (((S.1 1 0 1)) - (1 : Int32)))) 1 (show (1 : Nat) < 3 from by decide) (x1 ^^^ (S.1 0 0 11))) (cwV 1 hts gX4_launch_X2_indexFor rfl rfl rfl (by decide +kernel) ⟨Nat.le_of_ble_eq_true rfl, Nat.le_of_ble_eq_true rfl⟩) (k_recv hK hw (kC_1 (show (1 : Nat) < 3 from by decide)) rfl rfl) hK hN hZ hA hw (Nat.zero_le _) (Nat.zero_le _) rfl hl.1 rfl (Nat.le_of_ble_eq_true rfl) dX4_launch_50 (fun H locs hw => ?_)
  refine W.eq (g2 := F0 m 53 ls [.int ((x1 ^^^ (S.1 0 0 11)) &&& (((uI (uI (uI (uI S 8 (fIx S (S.1 0 0 13)) 0 x1) 8 (fIx S (S.1 0 0 13)) 1 (0 : Int32)) 8 (fIx S (S.1 0 0 13)) 2 (S.1 0 0 11)) 8 (fIx S (S.1 0 0 13)) 3 (x1 &&& (((S.1 1 0 1)) - (1 : Int32)))).1 1 1 1) - (1 : Int32))), .ref (G.2.2 (8, (fIx S (S.1 0 0 13))))]) rfl ?_
  refine k_topi (z := (x1 ^^^ (S.1 0 0 11)) &&& (((S.1 1 1 1)) - (1 : Int32))) (by first | rfl | simp [uI, uL, uF]) ?_
  refine p_8_4 (v := (x1 ^^^ (S.1 0 0 11)) &&& (((S.1 1 1 1)) - (1 : Int32))) hx hb hts hiX1 hown hK hw (kC_8 (fIx_lt S (S.1 0 0 13))) (hts (.fieldLink RX4 219 "BranchPredictor$Branch" "globalIndex" "I") (by decide +kernel)) dX4_launch_53 (fun H locs hw => ?_)
  refine lv_aload_n hx hb dX4_launch_56 rfl (lv_at hl 0 rfl) ?_
  refine lv_aload_n hx hb dX4_launch_57 rfl (lv_at hl 1 rfl) ?_
  refine g_0_0 hx hb hts hiX4 hown hK hw kC_0 (hts (.fieldLink RX4 12 "BranchPredictor" "plainTable" "LBranchPredictor$CounterTable;") (by decide +kernel)) dX4_launch_58 ?_
  refine lv_aload_n hx hb dX4_launch_61 rfl (lv_at hl 0 rfl) ?_
  refine g_8_3 hx hb hts hiX1 hown hK hw (kC_8 (fIx_lt S (S.1 0 0 13))) (hts (.fieldLink RX4 216 "BranchPredictor$Branch" "plainIndex" "I") (by decide +kernel)) dX4_launch_62 ?_
  refine k_topi (z := x1 &&& (((S.1 1 0 1)) - (1 : Int32))) (by simp [uI, uL, uF]) ?_
  refine k_callV (C := RX2) (n := 1) (rest := [.ref (G.2.2 (8, (fIx S (S.1 0 0 13))))]) ⟨hx, hb, hml, hown, hts⟩ (cX2c_saysTaken l G Z (uI (uI (uI (uI (uI S 8 (fIx S (S.1 0 0 13)) 0 x1) 8 (fIx S (S.1 0 0 13)) 1 (0 : Int32)) 8 (fIx S (S.1 0 0 13)) 2 (S.1 0 0 11)) 8 (fIx S (S.1 0 0 13)) 3 (x1 &&& (((S.1 1 0 1)) - (1 : Int32)))) 8 (fIx S (S.1 0 0 13)) 4 ((x1 ^^^ (S.1 0 0 11)) &&& (((S.1 1 1 1)) - (1 : Int32)))) 0 (show (0 : Nat) < 3 from by decide) (x1 &&& (((S.1 1 0 1)) - (1 : Int32)))) (cwV 1 hts gX4_launch_X2_saysTaken rfl rfl rfl (by decide +kernel) ⟨Nat.le_of_ble_eq_true rfl, Nat.le_of_ble_eq_true rfl⟩) (k_recv hK hw (kC_1 (show (0 : Nat) < 3 from by decide)) rfl rfl) hK hN hZ hA hw (Nat.zero_le _) (Nat.zero_le _) rfl hl.1 rfl (Nat.le_of_ble_eq_true rfl) dX4_launch_65 (fun H locs hw => ?_)
  refine W.eq (g2 := F0 m 68 ls [.int (bI ((fX2_saysTaken (uI (uI (uI (uI (uI S 8 (fIx S (S.1 0 0 13)) 0 x1) 8 (fIx S (S.1 0 0 13)) 1 (0 : Int32)) 8 (fIx S (S.1 0 0 13)) 2 (S.1 0 0 11)) 8 (fIx S (S.1 0 0 13)) 3 (x1 &&& (((S.1 1 0 1)) - (1 : Int32)))) 8 (fIx S (S.1 0 0 13)) 4 ((x1 ^^^ (S.1 0 0 11)) &&& (((S.1 1 1 1)) - (1 : Int32)))) 0 (x1 &&& (((S.1 1 0 1)) - (1 : Int32)))))), .ref (G.2.2 (8, (fIx S (S.1 0 0 13))))]) rfl ?_
  refine k_topz (z := (fX2_saysTaken S 0 (x1 &&& (((S.1 1 0 1)) - (1 : Int32))))) (by first | rfl | simp [uI, uL, uF, fX2_saysTaken]) ?_
  refine p_8_5 (v := (fX2_saysTaken S 0 (x1 &&& (((S.1 1 0 1)) - (1 : Int32))))) hx hb hts hiX1 hown hK hw (kC_8 (fIx_lt S (S.1 0 0 13))) (hts (.fieldLink RX4 225 "BranchPredictor$Branch" "isPlainTaken" "Z") (by decide +kernel)) dX4_launch_68 (fun H locs hw => ?_)
  refine lv_aload_n hx hb dX4_launch_71 rfl (lv_at hl 0 rfl) ?_
  refine lv_aload_n hx hb dX4_launch_72 rfl (lv_at hl 1 rfl) ?_
  refine g_0_1 hx hb hts hiX4 hown hK hw kC_0 (hts (.fieldLink RX4 16 "BranchPredictor" "globalTable" "LBranchPredictor$CounterTable;") (by decide +kernel)) dX4_launch_73 ?_
  refine lv_aload_n hx hb dX4_launch_76 rfl (lv_at hl 0 rfl) ?_
  refine g_8_4 hx hb hts hiX1 hown hK hw (kC_8 (fIx_lt S (S.1 0 0 13))) (hts (.fieldLink RX4 219 "BranchPredictor$Branch" "globalIndex" "I") (by decide +kernel)) dX4_launch_77 ?_
  refine k_topi (z := (x1 ^^^ (S.1 0 0 11)) &&& (((S.1 1 1 1)) - (1 : Int32))) (by simp [uI, uL, uF]) ?_
  refine k_callV (C := RX2) (n := 1) (rest := [.ref (G.2.2 (8, (fIx S (S.1 0 0 13))))]) ⟨hx, hb, hml, hown, hts⟩ (cX2c_saysTaken l G Z (uF (uI (uI (uI (uI (uI S 8 (fIx S (S.1 0 0 13)) 0 x1) 8 (fIx S (S.1 0 0 13)) 1 (0 : Int32)) 8 (fIx S (S.1 0 0 13)) 2 (S.1 0 0 11)) 8 (fIx S (S.1 0 0 13)) 3 (x1 &&& (((S.1 1 0 1)) - (1 : Int32)))) 8 (fIx S (S.1 0 0 13)) 4 ((x1 ^^^ (S.1 0 0 11)) &&& (((S.1 1 1 1)) - (1 : Int32)))) 8 (fIx S (S.1 0 0 13)) 5 (fX2_saysTaken S 0 (x1 &&& (((S.1 1 0 1)) - (1 : Int32))))) 1 (show (1 : Nat) < 3 from by decide) ((x1 ^^^ (S.1 0 0 11)) &&& (((S.1 1 1 1)) - (1 : Int32)))) (cwV 1 hts gX4_launch_X2_saysTaken rfl rfl rfl (by decide +kernel) ⟨Nat.le_of_ble_eq_true rfl, Nat.le_of_ble_eq_true rfl⟩) (k_recv hK hw (kC_1 (show (1 : Nat) < 3 from by decide)) rfl rfl) hK hN hZ hA hw (Nat.zero_le _) (Nat.zero_le _) rfl hl.1 rfl (Nat.le_of_ble_eq_true rfl) dX4_launch_80 (fun H locs hw => ?_)
  refine W.eq (g2 := F0 m 83 ls [.int (bI ((fX2_saysTaken (uF (uI (uI (uI (uI (uI S 8 (fIx S (S.1 0 0 13)) 0 x1) 8 (fIx S (S.1 0 0 13)) 1 (0 : Int32)) 8 (fIx S (S.1 0 0 13)) 2 (S.1 0 0 11)) 8 (fIx S (S.1 0 0 13)) 3 (x1 &&& (((S.1 1 0 1)) - (1 : Int32)))) 8 (fIx S (S.1 0 0 13)) 4 ((x1 ^^^ (S.1 0 0 11)) &&& (((S.1 1 1 1)) - (1 : Int32)))) 8 (fIx S (S.1 0 0 13)) 5 (fX2_saysTaken S 0 (x1 &&& (((S.1 1 0 1)) - (1 : Int32))))) 1 ((x1 ^^^ (S.1 0 0 11)) &&& (((S.1 1 1 1)) - (1 : Int32)))))), .ref (G.2.2 (8, (fIx S (S.1 0 0 13))))]) rfl ?_
  refine k_topz (z := (fX2_saysTaken S 1 ((x1 ^^^ (S.1 0 0 11)) &&& (((S.1 1 1 1)) - (1 : Int32))))) (by first | rfl | simp [uI, uL, uF, fX2_saysTaken]) ?_
  refine p_8_6 (v := (fX2_saysTaken S 1 ((x1 ^^^ (S.1 0 0 11)) &&& (((S.1 1 1 1)) - (1 : Int32))))) hx hb hts hiX1 hown hK hw (kC_8 (fIx_lt S (S.1 0 0 13))) (hts (.fieldLink RX4 229 "BranchPredictor$Branch" "isGlobalTaken" "Z") (by decide +kernel)) dX4_launch_83 (fun H locs hw => ?_)
  refine lv_aload_n hx hb dX4_launch_86 rfl (lv_at hl 0 rfl) ?_
  refine lv_aload_n hx hb dX4_launch_87 rfl (lv_at hl 1 rfl) ?_
  refine g_0_2 hx hb hts hiX4 hown hK hw kC_0 (hts (.fieldLink RX4 19 "BranchPredictor" "choiceTable" "LBranchPredictor$CounterTable;") (by decide +kernel)) dX4_launch_88 ?_
  refine lv_aload_n hx hb dX4_launch_91 rfl (lv_at hl 0 rfl) ?_
  refine g_8_3 hx hb hts hiX1 hown hK hw (kC_8 (fIx_lt S (S.1 0 0 13))) (hts (.fieldLink RX4 216 "BranchPredictor$Branch" "plainIndex" "I") (by decide +kernel)) dX4_launch_92 ?_
  refine k_topi (z := x1 &&& (((S.1 1 0 1)) - (1 : Int32))) (by simp [uI, uL, uF]) ?_
  refine k_callV (C := RX2) (n := 1) (rest := [.ref (G.2.2 (8, (fIx S (S.1 0 0 13))))]) ⟨hx, hb, hml, hown, hts⟩ (cX2c_saysTaken l G Z (uF (uF (uI (uI (uI (uI (uI S 8 (fIx S (S.1 0 0 13)) 0 x1) 8 (fIx S (S.1 0 0 13)) 1 (0 : Int32)) 8 (fIx S (S.1 0 0 13)) 2 (S.1 0 0 11)) 8 (fIx S (S.1 0 0 13)) 3 (x1 &&& (((S.1 1 0 1)) - (1 : Int32)))) 8 (fIx S (S.1 0 0 13)) 4 ((x1 ^^^ (S.1 0 0 11)) &&& (((S.1 1 1 1)) - (1 : Int32)))) 8 (fIx S (S.1 0 0 13)) 5 (fX2_saysTaken S 0 (x1 &&& (((S.1 1 0 1)) - (1 : Int32))))) 8 (fIx S (S.1 0 0 13)) 6 (fX2_saysTaken S 1 ((x1 ^^^ (S.1 0 0 11)) &&& (((S.1 1 1 1)) - (1 : Int32))))) 2 (show (2 : Nat) < 3 from by decide) (x1 &&& (((S.1 1 0 1)) - (1 : Int32)))) (cwV 1 hts gX4_launch_X2_saysTaken rfl rfl rfl (by decide +kernel) ⟨Nat.le_of_ble_eq_true rfl, Nat.le_of_ble_eq_true rfl⟩) (k_recv hK hw (kC_1 (show (2 : Nat) < 3 from by decide)) rfl rfl) hK hN hZ hA hw (Nat.zero_le _) (Nat.zero_le _) rfl hl.1 rfl (Nat.le_of_ble_eq_true rfl) dX4_launch_95 (fun H locs hw => ?_)
  refine W.eq (g2 := F0 m 98 ls [.int (bI ((fX2_saysTaken (uF (uF (uI (uI (uI (uI (uI S 8 (fIx S (S.1 0 0 13)) 0 x1) 8 (fIx S (S.1 0 0 13)) 1 (0 : Int32)) 8 (fIx S (S.1 0 0 13)) 2 (S.1 0 0 11)) 8 (fIx S (S.1 0 0 13)) 3 (x1 &&& (((S.1 1 0 1)) - (1 : Int32)))) 8 (fIx S (S.1 0 0 13)) 4 ((x1 ^^^ (S.1 0 0 11)) &&& (((S.1 1 1 1)) - (1 : Int32)))) 8 (fIx S (S.1 0 0 13)) 5 (fX2_saysTaken S 0 (x1 &&& (((S.1 1 0 1)) - (1 : Int32))))) 8 (fIx S (S.1 0 0 13)) 6 (fX2_saysTaken S 1 ((x1 ^^^ (S.1 0 0 11)) &&& (((S.1 1 1 1)) - (1 : Int32))))) 2 (x1 &&& (((S.1 1 0 1)) - (1 : Int32)))))), .ref (G.2.2 (8, (fIx S (S.1 0 0 13))))]) rfl ?_
  refine k_topz (z := (fX2_saysTaken S 2 (x1 &&& (((S.1 1 0 1)) - (1 : Int32))))) (by first | rfl | simp [uI, uL, uF, fX2_saysTaken]) ?_
  refine k_join (P := fun x9 : Bool => W p l e rmX4_launch s m [.ref (G.2.2 (0, 0)), .int (x1)].toArray below meth c H locs 0 0 (MQ below (kQ G kC Z A (some (.int (bI ((fX4_launch S N1 x1).1)))) ((fX4_launch S N1 x1).2)) [.ref (G.2.2 (0, 0)), .int (x1)].toArray s 0 0 A) (F0 m 112 ls [.int (bI (x9)), .ref (G.2.2 (8, (fIx S (S.1 0 0 13))))])) (C := (fX2_saysTaken S 2 (x1 &&& (((S.1 1 0 1)) - (1 : Int32)))) = false) (a := (fX2_saysTaken S 0 (x1 &&& (((S.1 1 0 1)) - (1 : Int32))))) (b := (fX2_saysTaken S 1 ((x1 ^^^ (S.1 0 0 11)) &&& (((S.1 1 1 1)) - (1 : Int32))))) ?_ (fun ka kb => ?_)
  rotate_left
  · refine k_if_eq (b := (fX2_saysTaken S 2 (x1 &&& (((S.1 1 0 1)) - (1 : Int32))))) (tgt := 108) hx hb dX4_launch_98 (by decide) (fun c_1 => ?_) (fun c_1 => ?_)
    · skip
      refine lv_aload_n hx hb dX4_launch_108 rfl (lv_at hl 0 rfl) ?_
      refine g_8_5 hx hb hts hiX1 hown hK hw (kC_8 (fIx_lt S (S.1 0 0 13))) (hts (.fieldLink RX4 225 "BranchPredictor$Branch" "isPlainTaken" "Z") (by decide +kernel)) dX4_launch_109 ?_
      refine k_topz (z := (fX2_saysTaken S 0 (x1 &&& (((S.1 1 0 1)) - (1 : Int32))))) (by simp [uI, uL, uF]) ?_
      exact ka c_1
    · skip
      refine lv_aload_n hx hb dX4_launch_101 rfl (lv_at hl 0 rfl) ?_
      refine g_8_6 hx hb hts hiX1 hown hK hw (kC_8 (fIx_lt S (S.1 0 0 13))) (hts (.fieldLink RX4 229 "BranchPredictor$Branch" "isGlobalTaken" "Z") (by decide +kernel)) dX4_launch_102 ?_
      refine k_topz (z := (fX2_saysTaken S 1 ((x1 ^^^ (S.1 0 0 11)) &&& (((S.1 1 1 1)) - (1 : Int32))))) (by simp [uI, uL, uF]) ?_
      refine lv_goto (tgt := 112) hx hb dX4_launch_105 (by decide) ?_
      exact kb c_1
  show W p l e rmX4_launch s m [.ref (G.2.2 (0, 0)), .int (x1)].toArray below meth c H locs 0 0 (MQ below (kQ G kC Z A (some (.int (bI ((fX4_launch S N1 x1).1)))) ((fX4_launch S N1 x1).2)) [.ref (G.2.2 (0, 0)), .int (x1)].toArray s 0 0 A) (F0 m 112 ls [.int (bI (if (fX2_saysTaken S 2 (x1 &&& (((S.1 1 0 1)) - (1 : Int32)))) = false then (fX2_saysTaken S 0 (x1 &&& (((S.1 1 0 1)) - (1 : Int32)))) else (fX2_saysTaken S 1 ((x1 ^^^ (S.1 0 0 11)) &&& (((S.1 1 1 1)) - (1 : Int32)))))), .ref (G.2.2 (8, (fIx S (S.1 0 0 13))))])
  refine p_8_7 (v := if (fX2_saysTaken S 2 (x1 &&& (((S.1 1 0 1)) - (1 : Int32)))) = false then (fX2_saysTaken S 0 (x1 &&& (((S.1 1 0 1)) - (1 : Int32)))) else (fX2_saysTaken S 1 ((x1 ^^^ (S.1 0 0 11)) &&& (((S.1 1 1 1)) - (1 : Int32))))) hx hb hts hiX1 hown hK hw (kC_8 (fIx_lt S (S.1 0 0 13))) (hts (.fieldLink RX4 232 "BranchPredictor$Branch" "isChoiceTaken" "Z") (by decide +kernel)) dX4_launch_112 (fun H locs hw => ?_)
  refine lv_aload_n hx hb dX4_launch_115 rfl (lv_at hl 0 rfl) ?_
  refine lv_aload_n hx hb dX4_launch_116 rfl (lv_at hl 1 rfl) ?_
  refine lv_iload_n hx hb dX4_launch_117 rfl (lv_at hl 2 rfl) ?_
  refine lv_aload_n hx hb dX4_launch_118 rfl (lv_at hl 0 rfl) ?_
  refine g_8_7 hx hb hts hiX1 hown hK hw (kC_8 (fIx_lt S (S.1 0 0 13))) (hts (.fieldLink RX4 232 "BranchPredictor$Branch" "isChoiceTaken" "Z") (by decide +kernel)) dX4_launch_119 ?_
  refine k_topz (z := if (fX2_saysTaken S 2 (x1 &&& (((S.1 1 0 1)) - (1 : Int32)))) = false then (fX2_saysTaken S 0 (x1 &&& (((S.1 1 0 1)) - (1 : Int32)))) else (fX2_saysTaken S 1 ((x1 ^^^ (S.1 0 0 11)) &&& (((S.1 1 1 1)) - (1 : Int32))))) (by simp [uI, uL, uF]) ?_
  refine k_callV (C := RX4) (n := 2) (rest := [.ref (G.2.2 (8, (fIx S (S.1 0 0 13))))]) ⟨hx, hb, hml, hown, hts⟩ (cX4c_loopPrediction l G Z (uF (uF (uF (uI (uI (uI (uI (uI S 8 (fIx S (S.1 0 0 13)) 0 x1) 8 (fIx S (S.1 0 0 13)) 1 (0 : Int32)) 8 (fIx S (S.1 0 0 13)) 2 (S.1 0 0 11)) 8 (fIx S (S.1 0 0 13)) 3 (x1 &&& (((S.1 1 0 1)) - (1 : Int32)))) 8 (fIx S (S.1 0 0 13)) 4 ((x1 ^^^ (S.1 0 0 11)) &&& (((S.1 1 1 1)) - (1 : Int32)))) 8 (fIx S (S.1 0 0 13)) 5 (fX2_saysTaken S 0 (x1 &&& (((S.1 1 0 1)) - (1 : Int32))))) 8 (fIx S (S.1 0 0 13)) 6 (fX2_saysTaken S 1 ((x1 ^^^ (S.1 0 0 11)) &&& (((S.1 1 1 1)) - (1 : Int32))))) 8 (fIx S (S.1 0 0 13)) 7 (if (fX2_saysTaken S 2 (x1 &&& (((S.1 1 0 1)) - (1 : Int32)))) = false then (fX2_saysTaken S 0 (x1 &&& (((S.1 1 0 1)) - (1 : Int32)))) else (fX2_saysTaken S 1 ((x1 ^^^ (S.1 0 0 11)) &&& (((S.1 1 1 1)) - (1 : Int32)))))) N1 (by simp [uI, uL, uF, h_N1]) h_N1b x1 (if (fX2_saysTaken S 2 (x1 &&& (((S.1 1 0 1)) - (1 : Int32)))) = false then (fX2_saysTaken S 0 (x1 &&& (((S.1 1 0 1)) - (1 : Int32)))) else (fX2_saysTaken S 1 ((x1 ^^^ (S.1 0 0 11)) &&& (((S.1 1 1 1)) - (1 : Int32)))))) (cwV 2 hts gX4_launch_X4_loopPrediction rfl rfl rfl (by decide +kernel) ⟨Nat.le_of_ble_eq_true rfl, Nat.le_of_ble_eq_true rfl⟩) (k_recv hK hw kC_0 rfl rfl) hK hN hZ hA hw (Nat.zero_le _) (Nat.zero_le _) rfl hl.1 rfl (Nat.le_of_ble_eq_true rfl) dX4_launch_122 (fun H locs hw => ?_)
  refine W.eq (g2 := F0 m 125 ls [.int (bI ((fX4_loopPrediction (uF (uF (uF (uI (uI (uI (uI (uI S 8 (fIx S (S.1 0 0 13)) 0 x1) 8 (fIx S (S.1 0 0 13)) 1 (0 : Int32)) 8 (fIx S (S.1 0 0 13)) 2 (S.1 0 0 11)) 8 (fIx S (S.1 0 0 13)) 3 (x1 &&& (((S.1 1 0 1)) - (1 : Int32)))) 8 (fIx S (S.1 0 0 13)) 4 ((x1 ^^^ (S.1 0 0 11)) &&& (((S.1 1 1 1)) - (1 : Int32)))) 8 (fIx S (S.1 0 0 13)) 5 (fX2_saysTaken S 0 (x1 &&& (((S.1 1 0 1)) - (1 : Int32))))) 8 (fIx S (S.1 0 0 13)) 6 (fX2_saysTaken S 1 ((x1 ^^^ (S.1 0 0 11)) &&& (((S.1 1 1 1)) - (1 : Int32))))) 8 (fIx S (S.1 0 0 13)) 7 (if (fX2_saysTaken S 2 (x1 &&& (((S.1 1 0 1)) - (1 : Int32)))) = false then (fX2_saysTaken S 0 (x1 &&& (((S.1 1 0 1)) - (1 : Int32)))) else (fX2_saysTaken S 1 ((x1 ^^^ (S.1 0 0 11)) &&& (((S.1 1 1 1)) - (1 : Int32)))))) N1 x1 (if (fX2_saysTaken S 2 (x1 &&& (((S.1 1 0 1)) - (1 : Int32)))) = false then (fX2_saysTaken S 0 (x1 &&& (((S.1 1 0 1)) - (1 : Int32)))) else (fX2_saysTaken S 1 ((x1 ^^^ (S.1 0 0 11)) &&& (((S.1 1 1 1)) - (1 : Int32)))))))), .ref (G.2.2 (8, (fIx S (S.1 0 0 13))))]) rfl ?_
  refine p_8_8 (v := (fX4_loopPrediction (uF (uF (uF (uI (uI (uI (uI (uI S 8 (fIx S (S.1 0 0 13)) 0 x1) 8 (fIx S (S.1 0 0 13)) 1 (0 : Int32)) 8 (fIx S (S.1 0 0 13)) 2 (S.1 0 0 11)) 8 (fIx S (S.1 0 0 13)) 3 (x1 &&& (((S.1 1 0 1)) - (1 : Int32)))) 8 (fIx S (S.1 0 0 13)) 4 ((x1 ^^^ (S.1 0 0 11)) &&& (((S.1 1 1 1)) - (1 : Int32)))) 8 (fIx S (S.1 0 0 13)) 5 (fX2_saysTaken S 0 (x1 &&& (((S.1 1 0 1)) - (1 : Int32))))) 8 (fIx S (S.1 0 0 13)) 6 (fX2_saysTaken S 1 ((x1 ^^^ (S.1 0 0 11)) &&& (((S.1 1 1 1)) - (1 : Int32))))) 8 (fIx S (S.1 0 0 13)) 7 (if (fX2_saysTaken S 2 (x1 &&& (((S.1 1 0 1)) - (1 : Int32)))) = false then (fX2_saysTaken S 0 (x1 &&& (((S.1 1 0 1)) - (1 : Int32)))) else (fX2_saysTaken S 1 ((x1 ^^^ (S.1 0 0 11)) &&& (((S.1 1 1 1)) - (1 : Int32)))))) N1 x1 (if (fX2_saysTaken S 2 (x1 &&& (((S.1 1 0 1)) - (1 : Int32)))) = false then (fX2_saysTaken S 0 (x1 &&& (((S.1 1 0 1)) - (1 : Int32)))) else (fX2_saysTaken S 1 ((x1 ^^^ (S.1 0 0 11)) &&& (((S.1 1 1 1)) - (1 : Int32))))))) hx hb hts hiX1 hown hK hw (kC_8 (fIx_lt S (S.1 0 0 13))) (hts (.fieldLink RX4 239 "BranchPredictor$Branch" "isPredictedTaken" "Z") (by decide +kernel)) dX4_launch_125 (fun H locs hw => ?_)
  refine lv_aload_n hx hb dX4_launch_128 rfl (lv_at hl 1 rfl) ?_
  refine lv_dup hx hb dX4_launch_129 rfl ?_
  refine g_0_13 hx hb hts hiX4 hown hK hw kC_0 (hts (.fieldLink RX4 79 "BranchPredictor" "flying" "I") (by decide +kernel)) dX4_launch_130 ?_
  refine k_topi (z := S.1 0 0 13) (by simp [uI, uL, uF]) ?_
  refine lv_iconst (v := 1) hx hb dX4_launch_133 (by decide) ?_
  refine lv_iadd hx hb dX4_launch_134 ?_
  refine p_0_13 (v := (S.1 0 0 13) + (1 : Int32)) hx hb hts hiX4 hown hK hw kC_0 (hts (.fieldLink RX4 79 "BranchPredictor" "flying" "I") (by decide +kernel)) dX4_launch_135 (fun H locs hw => ?_)
  refine lv_aload_n hx hb dX4_launch_138 rfl (lv_at hl 1 rfl) ?_
  refine lv_aload_n hx hb dX4_launch_139 rfl (lv_at hl 1 rfl) ?_
  refine lv_aload_n hx hb dX4_launch_140 rfl (lv_at hl 1 rfl) ?_
  refine g_0_11 hx hb hts hiX4 hown hK hw kC_0 (hts (.fieldLink RX4 119 "BranchPredictor" "outcomes" "I") (by decide +kernel)) dX4_launch_141 ?_
  refine k_topi (z := S.1 0 0 11) (by simp [uI, uL, uF]) ?_
  refine lv_aload_n hx hb dX4_launch_144 rfl (lv_at hl 0 rfl) ?_
  refine g_8_8 hx hb hts hiX1 hown hK hw (kC_8 (fIx_lt S (S.1 0 0 13))) (hts (.fieldLink RX4 239 "BranchPredictor$Branch" "isPredictedTaken" "Z") (by decide +kernel)) dX4_launch_145 ?_
  refine k_topz (z := (fX4_loopPrediction (uF (uF (uF (uI (uI (uI (uI (uI S 8 (fIx S (S.1 0 0 13)) 0 x1) 8 (fIx S (S.1 0 0 13)) 1 (0 : Int32)) 8 (fIx S (S.1 0 0 13)) 2 (S.1 0 0 11)) 8 (fIx S (S.1 0 0 13)) 3 (x1 &&& (((S.1 1 0 1)) - (1 : Int32)))) 8 (fIx S (S.1 0 0 13)) 4 ((x1 ^^^ (S.1 0 0 11)) &&& (((S.1 1 1 1)) - (1 : Int32)))) 8 (fIx S (S.1 0 0 13)) 5 (fX2_saysTaken S 0 (x1 &&& (((S.1 1 0 1)) - (1 : Int32))))) 8 (fIx S (S.1 0 0 13)) 6 (fX2_saysTaken S 1 ((x1 ^^^ (S.1 0 0 11)) &&& (((S.1 1 1 1)) - (1 : Int32))))) 8 (fIx S (S.1 0 0 13)) 7 (if (fX2_saysTaken S 2 (x1 &&& (((S.1 1 0 1)) - (1 : Int32)))) = false then (fX2_saysTaken S 0 (x1 &&& (((S.1 1 0 1)) - (1 : Int32)))) else (fX2_saysTaken S 1 ((x1 ^^^ (S.1 0 0 11)) &&& (((S.1 1 1 1)) - (1 : Int32)))))) N1 x1 (if (fX2_saysTaken S 2 (x1 &&& (((S.1 1 0 1)) - (1 : Int32)))) = false then (fX2_saysTaken S 0 (x1 &&& (((S.1 1 0 1)) - (1 : Int32)))) else (fX2_saysTaken S 1 ((x1 ^^^ (S.1 0 0 11)) &&& (((S.1 1 1 1)) - (1 : Int32))))))) (by simp [uI, uL, uF]) ?_
  refine k_callV (C := RX4) (n := 2) (rest := [.ref (G.2.2 (0, 0))]) ⟨hx, hb, hml, hown, hts⟩ (cX4c_appended l G Z (uI (uF (uF (uF (uF (uI (uI (uI (uI (uI S 8 (fIx S (S.1 0 0 13)) 0 x1) 8 (fIx S (S.1 0 0 13)) 1 (0 : Int32)) 8 (fIx S (S.1 0 0 13)) 2 (S.1 0 0 11)) 8 (fIx S (S.1 0 0 13)) 3 (x1 &&& (((S.1 1 0 1)) - (1 : Int32)))) 8 (fIx S (S.1 0 0 13)) 4 ((x1 ^^^ (S.1 0 0 11)) &&& (((S.1 1 1 1)) - (1 : Int32)))) 8 (fIx S (S.1 0 0 13)) 5 (fX2_saysTaken S 0 (x1 &&& (((S.1 1 0 1)) - (1 : Int32))))) 8 (fIx S (S.1 0 0 13)) 6 (fX2_saysTaken S 1 ((x1 ^^^ (S.1 0 0 11)) &&& (((S.1 1 1 1)) - (1 : Int32))))) 8 (fIx S (S.1 0 0 13)) 7 (if (fX2_saysTaken S 2 (x1 &&& (((S.1 1 0 1)) - (1 : Int32)))) = false then (fX2_saysTaken S 0 (x1 &&& (((S.1 1 0 1)) - (1 : Int32)))) else (fX2_saysTaken S 1 ((x1 ^^^ (S.1 0 0 11)) &&& (((S.1 1 1 1)) - (1 : Int32)))))) 8 (fIx S (S.1 0 0 13)) 8 (fX4_loopPrediction (uF (uF (uF (uI (uI (uI (uI (uI S 8 (fIx S (S.1 0 0 13)) 0 x1) 8 (fIx S (S.1 0 0 13)) 1 (0 : Int32)) 8 (fIx S (S.1 0 0 13)) 2 (S.1 0 0 11)) 8 (fIx S (S.1 0 0 13)) 3 (x1 &&& (((S.1 1 0 1)) - (1 : Int32)))) 8 (fIx S (S.1 0 0 13)) 4 ((x1 ^^^ (S.1 0 0 11)) &&& (((S.1 1 1 1)) - (1 : Int32)))) 8 (fIx S (S.1 0 0 13)) 5 (fX2_saysTaken S 0 (x1 &&& (((S.1 1 0 1)) - (1 : Int32))))) 8 (fIx S (S.1 0 0 13)) 6 (fX2_saysTaken S 1 ((x1 ^^^ (S.1 0 0 11)) &&& (((S.1 1 1 1)) - (1 : Int32))))) 8 (fIx S (S.1 0 0 13)) 7 (if (fX2_saysTaken S 2 (x1 &&& (((S.1 1 0 1)) - (1 : Int32)))) = false then (fX2_saysTaken S 0 (x1 &&& (((S.1 1 0 1)) - (1 : Int32)))) else (fX2_saysTaken S 1 ((x1 ^^^ (S.1 0 0 11)) &&& (((S.1 1 1 1)) - (1 : Int32)))))) N1 x1 (if (fX2_saysTaken S 2 (x1 &&& (((S.1 1 0 1)) - (1 : Int32)))) = false then (fX2_saysTaken S 0 (x1 &&& (((S.1 1 0 1)) - (1 : Int32)))) else (fX2_saysTaken S 1 ((x1 ^^^ (S.1 0 0 11)) &&& (((S.1 1 1 1)) - (1 : Int32))))))) 0 0 13 ((S.1 0 0 13) + (1 : Int32))) (S.1 0 0 11) (fX4_loopPrediction (uF (uF (uF (uI (uI (uI (uI (uI S 8 (fIx S (S.1 0 0 13)) 0 x1) 8 (fIx S (S.1 0 0 13)) 1 (0 : Int32)) 8 (fIx S (S.1 0 0 13)) 2 (S.1 0 0 11)) 8 (fIx S (S.1 0 0 13)) 3 (x1 &&& (((S.1 1 0 1)) - (1 : Int32)))) 8 (fIx S (S.1 0 0 13)) 4 ((x1 ^^^ (S.1 0 0 11)) &&& (((S.1 1 1 1)) - (1 : Int32)))) 8 (fIx S (S.1 0 0 13)) 5 (fX2_saysTaken S 0 (x1 &&& (((S.1 1 0 1)) - (1 : Int32))))) 8 (fIx S (S.1 0 0 13)) 6 (fX2_saysTaken S 1 ((x1 ^^^ (S.1 0 0 11)) &&& (((S.1 1 1 1)) - (1 : Int32))))) 8 (fIx S (S.1 0 0 13)) 7 (if (fX2_saysTaken S 2 (x1 &&& (((S.1 1 0 1)) - (1 : Int32)))) = false then (fX2_saysTaken S 0 (x1 &&& (((S.1 1 0 1)) - (1 : Int32)))) else (fX2_saysTaken S 1 ((x1 ^^^ (S.1 0 0 11)) &&& (((S.1 1 1 1)) - (1 : Int32)))))) N1 x1 (if (fX2_saysTaken S 2 (x1 &&& (((S.1 1 0 1)) - (1 : Int32)))) = false then (fX2_saysTaken S 0 (x1 &&& (((S.1 1 0 1)) - (1 : Int32)))) else (fX2_saysTaken S 1 ((x1 ^^^ (S.1 0 0 11)) &&& (((S.1 1 1 1)) - (1 : Int32))))))) (cwV 2 hts gX4_launch_X4_appended rfl rfl rfl (by decide +kernel) ⟨Nat.le_of_ble_eq_true rfl, Nat.le_of_ble_eq_true rfl⟩) (k_recv hK hw kC_0 rfl rfl) hK hN hZ hA hw (Nat.zero_le _) (Nat.zero_le _) rfl hl.1 rfl (Nat.le_of_ble_eq_true rfl) dX4_launch_148 (fun H locs hw => ?_)
  refine W.eq (g2 := F0 m 151 ls [.int ((((2 : Int32) * (S.1 0 0 11)) + (if (fX4_loopPrediction (uF (uF (uF (uI (uI (uI (uI (uI S 8 (fIx S (S.1 0 0 13)) 0 x1) 8 (fIx S (S.1 0 0 13)) 1 (0 : Int32)) 8 (fIx S (S.1 0 0 13)) 2 (S.1 0 0 11)) 8 (fIx S (S.1 0 0 13)) 3 (x1 &&& (((S.1 1 0 1)) - (1 : Int32)))) 8 (fIx S (S.1 0 0 13)) 4 ((x1 ^^^ (S.1 0 0 11)) &&& (((S.1 1 1 1)) - (1 : Int32)))) 8 (fIx S (S.1 0 0 13)) 5 (fX2_saysTaken S 0 (x1 &&& (((S.1 1 0 1)) - (1 : Int32))))) 8 (fIx S (S.1 0 0 13)) 6 (fX2_saysTaken S 1 ((x1 ^^^ (S.1 0 0 11)) &&& (((S.1 1 1 1)) - (1 : Int32))))) 8 (fIx S (S.1 0 0 13)) 7 (if (fX2_saysTaken S 2 (x1 &&& (((S.1 1 0 1)) - (1 : Int32)))) = false then (fX2_saysTaken S 0 (x1 &&& (((S.1 1 0 1)) - (1 : Int32)))) else (fX2_saysTaken S 1 ((x1 ^^^ (S.1 0 0 11)) &&& (((S.1 1 1 1)) - (1 : Int32)))))) N1 x1 (if (fX2_saysTaken S 2 (x1 &&& (((S.1 1 0 1)) - (1 : Int32)))) = false then (fX2_saysTaken S 0 (x1 &&& (((S.1 1 0 1)) - (1 : Int32)))) else (fX2_saysTaken S 1 ((x1 ^^^ (S.1 0 0 11)) &&& (((S.1 1 1 1)) - (1 : Int32)))))) = false then (0 : Int32) else (1 : Int32))) &&& (((1 : Int32) <<< (((uI (uF (uF (uF (uF (uI (uI (uI (uI (uI S 8 (fIx S (S.1 0 0 13)) 0 x1) 8 (fIx S (S.1 0 0 13)) 1 (0 : Int32)) 8 (fIx S (S.1 0 0 13)) 2 (S.1 0 0 11)) 8 (fIx S (S.1 0 0 13)) 3 (x1 &&& (((S.1 1 0 1)) - (1 : Int32)))) 8 (fIx S (S.1 0 0 13)) 4 ((x1 ^^^ (S.1 0 0 11)) &&& (((S.1 1 1 1)) - (1 : Int32)))) 8 (fIx S (S.1 0 0 13)) 5 (fX2_saysTaken S 0 (x1 &&& (((S.1 1 0 1)) - (1 : Int32))))) 8 (fIx S (S.1 0 0 13)) 6 (fX2_saysTaken S 1 ((x1 ^^^ (S.1 0 0 11)) &&& (((S.1 1 1 1)) - (1 : Int32))))) 8 (fIx S (S.1 0 0 13)) 7 (if (fX2_saysTaken S 2 (x1 &&& (((S.1 1 0 1)) - (1 : Int32)))) = false then (fX2_saysTaken S 0 (x1 &&& (((S.1 1 0 1)) - (1 : Int32)))) else (fX2_saysTaken S 1 ((x1 ^^^ (S.1 0 0 11)) &&& (((S.1 1 1 1)) - (1 : Int32)))))) 8 (fIx S (S.1 0 0 13)) 8 (fX4_loopPrediction (uF (uF (uF (uI (uI (uI (uI (uI S 8 (fIx S (S.1 0 0 13)) 0 x1) 8 (fIx S (S.1 0 0 13)) 1 (0 : Int32)) 8 (fIx S (S.1 0 0 13)) 2 (S.1 0 0 11)) 8 (fIx S (S.1 0 0 13)) 3 (x1 &&& (((S.1 1 0 1)) - (1 : Int32)))) 8 (fIx S (S.1 0 0 13)) 4 ((x1 ^^^ (S.1 0 0 11)) &&& (((S.1 1 1 1)) - (1 : Int32)))) 8 (fIx S (S.1 0 0 13)) 5 (fX2_saysTaken S 0 (x1 &&& (((S.1 1 0 1)) - (1 : Int32))))) 8 (fIx S (S.1 0 0 13)) 6 (fX2_saysTaken S 1 ((x1 ^^^ (S.1 0 0 11)) &&& (((S.1 1 1 1)) - (1 : Int32))))) 8 (fIx S (S.1 0 0 13)) 7 (if (fX2_saysTaken S 2 (x1 &&& (((S.1 1 0 1)) - (1 : Int32)))) = false then (fX2_saysTaken S 0 (x1 &&& (((S.1 1 0 1)) - (1 : Int32)))) else (fX2_saysTaken S 1 ((x1 ^^^ (S.1 0 0 11)) &&& (((S.1 1 1 1)) - (1 : Int32)))))) N1 x1 (if (fX2_saysTaken S 2 (x1 &&& (((S.1 1 0 1)) - (1 : Int32)))) = false then (fX2_saysTaken S 0 (x1 &&& (((S.1 1 0 1)) - (1 : Int32)))) else (fX2_saysTaken S 1 ((x1 ^^^ (S.1 0 0 11)) &&& (((S.1 1 1 1)) - (1 : Int32))))))) 0 0 13 ((S.1 0 0 13) + (1 : Int32))).1 0 0 10) &&& 31)) - (1 : Int32))), .ref (G.2.2 (0, 0))]) rfl ?_
  refine k_topi (z := (((2 : Int32) * (S.1 0 0 11)) + (if (fX4_loopPrediction (uF (uF (uF (uI (uI (uI (uI (uI S 8 (fIx S (S.1 0 0 13)) 0 x1) 8 (fIx S (S.1 0 0 13)) 1 (0 : Int32)) 8 (fIx S (S.1 0 0 13)) 2 (S.1 0 0 11)) 8 (fIx S (S.1 0 0 13)) 3 (x1 &&& (((S.1 1 0 1)) - (1 : Int32)))) 8 (fIx S (S.1 0 0 13)) 4 ((x1 ^^^ (S.1 0 0 11)) &&& (((S.1 1 1 1)) - (1 : Int32)))) 8 (fIx S (S.1 0 0 13)) 5 (fX2_saysTaken S 0 (x1 &&& (((S.1 1 0 1)) - (1 : Int32))))) 8 (fIx S (S.1 0 0 13)) 6 (fX2_saysTaken S 1 ((x1 ^^^ (S.1 0 0 11)) &&& (((S.1 1 1 1)) - (1 : Int32))))) 8 (fIx S (S.1 0 0 13)) 7 (if (fX2_saysTaken S 2 (x1 &&& (((S.1 1 0 1)) - (1 : Int32)))) = false then (fX2_saysTaken S 0 (x1 &&& (((S.1 1 0 1)) - (1 : Int32)))) else (fX2_saysTaken S 1 ((x1 ^^^ (S.1 0 0 11)) &&& (((S.1 1 1 1)) - (1 : Int32)))))) N1 x1 (if (fX2_saysTaken S 2 (x1 &&& (((S.1 1 0 1)) - (1 : Int32)))) = false then (fX2_saysTaken S 0 (x1 &&& (((S.1 1 0 1)) - (1 : Int32)))) else (fX2_saysTaken S 1 ((x1 ^^^ (S.1 0 0 11)) &&& (((S.1 1 1 1)) - (1 : Int32)))))) = false then (0 : Int32) else (1 : Int32))) &&& (((1 : Int32) <<< (((S.1 0 0 10)) &&& 31)) - (1 : Int32))) (by first | rfl | simp [uI, uL, uF]) ?_
  refine p_0_11 (v := (((2 : Int32) * (S.1 0 0 11)) + (if (fX4_loopPrediction (uF (uF (uF (uI (uI (uI (uI (uI S 8 (fIx S (S.1 0 0 13)) 0 x1) 8 (fIx S (S.1 0 0 13)) 1 (0 : Int32)) 8 (fIx S (S.1 0 0 13)) 2 (S.1 0 0 11)) 8 (fIx S (S.1 0 0 13)) 3 (x1 &&& (((S.1 1 0 1)) - (1 : Int32)))) 8 (fIx S (S.1 0 0 13)) 4 ((x1 ^^^ (S.1 0 0 11)) &&& (((S.1 1 1 1)) - (1 : Int32)))) 8 (fIx S (S.1 0 0 13)) 5 (fX2_saysTaken S 0 (x1 &&& (((S.1 1 0 1)) - (1 : Int32))))) 8 (fIx S (S.1 0 0 13)) 6 (fX2_saysTaken S 1 ((x1 ^^^ (S.1 0 0 11)) &&& (((S.1 1 1 1)) - (1 : Int32))))) 8 (fIx S (S.1 0 0 13)) 7 (if (fX2_saysTaken S 2 (x1 &&& (((S.1 1 0 1)) - (1 : Int32)))) = false then (fX2_saysTaken S 0 (x1 &&& (((S.1 1 0 1)) - (1 : Int32)))) else (fX2_saysTaken S 1 ((x1 ^^^ (S.1 0 0 11)) &&& (((S.1 1 1 1)) - (1 : Int32)))))) N1 x1 (if (fX2_saysTaken S 2 (x1 &&& (((S.1 1 0 1)) - (1 : Int32)))) = false then (fX2_saysTaken S 0 (x1 &&& (((S.1 1 0 1)) - (1 : Int32)))) else (fX2_saysTaken S 1 ((x1 ^^^ (S.1 0 0 11)) &&& (((S.1 1 1 1)) - (1 : Int32)))))) = false then (0 : Int32) else (1 : Int32))) &&& (((1 : Int32) <<< (((S.1 0 0 10)) &&& 31)) - (1 : Int32))) hx hb hts hiX4 hown hK hw kC_0 (hts (.fieldLink RX4 119 "BranchPredictor" "outcomes" "I") (by decide +kernel)) dX4_launch_151 (fun H locs hw => ?_)
  refine lv_aload_n hx hb dX4_launch_154 rfl (lv_at hl 0 rfl) ?_
  refine g_8_8 hx hb hts hiX1 hown hK hw (kC_8 (fIx_lt S (S.1 0 0 13))) (hts (.fieldLink RX4 239 "BranchPredictor$Branch" "isPredictedTaken" "Z") (by decide +kernel)) dX4_launch_155 ?_
  refine k_topz (z := (fX4_loopPrediction (uF (uF (uF (uI (uI (uI (uI (uI S 8 (fIx S (S.1 0 0 13)) 0 x1) 8 (fIx S (S.1 0 0 13)) 1 (0 : Int32)) 8 (fIx S (S.1 0 0 13)) 2 (S.1 0 0 11)) 8 (fIx S (S.1 0 0 13)) 3 (x1 &&& (((S.1 1 0 1)) - (1 : Int32)))) 8 (fIx S (S.1 0 0 13)) 4 ((x1 ^^^ (S.1 0 0 11)) &&& (((S.1 1 1 1)) - (1 : Int32)))) 8 (fIx S (S.1 0 0 13)) 5 (fX2_saysTaken S 0 (x1 &&& (((S.1 1 0 1)) - (1 : Int32))))) 8 (fIx S (S.1 0 0 13)) 6 (fX2_saysTaken S 1 ((x1 ^^^ (S.1 0 0 11)) &&& (((S.1 1 1 1)) - (1 : Int32))))) 8 (fIx S (S.1 0 0 13)) 7 (if (fX2_saysTaken S 2 (x1 &&& (((S.1 1 0 1)) - (1 : Int32)))) = false then (fX2_saysTaken S 0 (x1 &&& (((S.1 1 0 1)) - (1 : Int32)))) else (fX2_saysTaken S 1 ((x1 ^^^ (S.1 0 0 11)) &&& (((S.1 1 1 1)) - (1 : Int32)))))) N1 x1 (if (fX2_saysTaken S 2 (x1 &&& (((S.1 1 0 1)) - (1 : Int32)))) = false then (fX2_saysTaken S 0 (x1 &&& (((S.1 1 0 1)) - (1 : Int32)))) else (fX2_saysTaken S 1 ((x1 ^^^ (S.1 0 0 11)) &&& (((S.1 1 1 1)) - (1 : Int32))))))) (by simp [uI, uL, uF]) ?_
  exact k_zret (r := (fX4_loopPrediction (uF (uF (uF (uI (uI (uI (uI (uI S 8 (fIx S (S.1 0 0 13)) 0 x1) 8 (fIx S (S.1 0 0 13)) 1 (0 : Int32)) 8 (fIx S (S.1 0 0 13)) 2 (S.1 0 0 11)) 8 (fIx S (S.1 0 0 13)) 3 (x1 &&& (((S.1 1 0 1)) - (1 : Int32)))) 8 (fIx S (S.1 0 0 13)) 4 ((x1 ^^^ (S.1 0 0 11)) &&& (((S.1 1 1 1)) - (1 : Int32)))) 8 (fIx S (S.1 0 0 13)) 5 (fX2_saysTaken S 0 (x1 &&& (((S.1 1 0 1)) - (1 : Int32))))) 8 (fIx S (S.1 0 0 13)) 6 (fX2_saysTaken S 1 ((x1 ^^^ (S.1 0 0 11)) &&& (((S.1 1 1 1)) - (1 : Int32))))) 8 (fIx S (S.1 0 0 13)) 7 (if (fX2_saysTaken S 2 (x1 &&& (((S.1 1 0 1)) - (1 : Int32)))) = false then (fX2_saysTaken S 0 (x1 &&& (((S.1 1 0 1)) - (1 : Int32)))) else (fX2_saysTaken S 1 ((x1 ^^^ (S.1 0 0 11)) &&& (((S.1 1 1 1)) - (1 : Int32)))))) N1 x1 (if (fX2_saysTaken S 2 (x1 &&& (((S.1 1 0 1)) - (1 : Int32)))) = false then (fX2_saysTaken S 0 (x1 &&& (((S.1 1 0 1)) - (1 : Int32)))) else (fX2_saysTaken S 1 ((x1 ^^^ (S.1 0 0 11)) &&& (((S.1 1 1 1)) - (1 : Int32))))))) hx hb hr hlocks hK hw (congrArg (fun z : Bool × uS => some (Value.int (bI (z.1)))) (show (fX4_launch S N1 x1) = ((fX4_loopPrediction (uF (uF (uF (uI (uI (uI (uI (uI S 8 (fIx S (S.1 0 0 13)) 0 x1) 8 (fIx S (S.1 0 0 13)) 1 (0 : Int32)) 8 (fIx S (S.1 0 0 13)) 2 (S.1 0 0 11)) 8 (fIx S (S.1 0 0 13)) 3 (x1 &&& (((S.1 1 0 1)) - (1 : Int32)))) 8 (fIx S (S.1 0 0 13)) 4 ((x1 ^^^ (S.1 0 0 11)) &&& (((S.1 1 1 1)) - (1 : Int32)))) 8 (fIx S (S.1 0 0 13)) 5 (fX2_saysTaken S 0 (x1 &&& (((S.1 1 0 1)) - (1 : Int32))))) 8 (fIx S (S.1 0 0 13)) 6 (fX2_saysTaken S 1 ((x1 ^^^ (S.1 0 0 11)) &&& (((S.1 1 1 1)) - (1 : Int32))))) 8 (fIx S (S.1 0 0 13)) 7 (if (fX2_saysTaken S 2 (x1 &&& (((S.1 1 0 1)) - (1 : Int32)))) = false then (fX2_saysTaken S 0 (x1 &&& (((S.1 1 0 1)) - (1 : Int32)))) else (fX2_saysTaken S 1 ((x1 ^^^ (S.1 0 0 11)) &&& (((S.1 1 1 1)) - (1 : Int32)))))) N1 x1 (if (fX2_saysTaken S 2 (x1 &&& (((S.1 1 0 1)) - (1 : Int32)))) = false then (fX2_saysTaken S 0 (x1 &&& (((S.1 1 0 1)) - (1 : Int32)))) else (fX2_saysTaken S 1 ((x1 ^^^ (S.1 0 0 11)) &&& (((S.1 1 1 1)) - (1 : Int32)))))), (uI (uI (uF (uF (uF (uF (uI (uI (uI (uI (uI S 8 (fIx S (S.1 0 0 13)) 0 x1) 8 (fIx S (S.1 0 0 13)) 1 (0 : Int32)) 8 (fIx S (S.1 0 0 13)) 2 (S.1 0 0 11)) 8 (fIx S (S.1 0 0 13)) 3 (x1 &&& (((S.1 1 0 1)) - (1 : Int32)))) 8 (fIx S (S.1 0 0 13)) 4 ((x1 ^^^ (S.1 0 0 11)) &&& (((S.1 1 1 1)) - (1 : Int32)))) 8 (fIx S (S.1 0 0 13)) 5 (fX2_saysTaken S 0 (x1 &&& (((S.1 1 0 1)) - (1 : Int32))))) 8 (fIx S (S.1 0 0 13)) 6 (fX2_saysTaken S 1 ((x1 ^^^ (S.1 0 0 11)) &&& (((S.1 1 1 1)) - (1 : Int32))))) 8 (fIx S (S.1 0 0 13)) 7 (if (fX2_saysTaken S 2 (x1 &&& (((S.1 1 0 1)) - (1 : Int32)))) = false then (fX2_saysTaken S 0 (x1 &&& (((S.1 1 0 1)) - (1 : Int32)))) else (fX2_saysTaken S 1 ((x1 ^^^ (S.1 0 0 11)) &&& (((S.1 1 1 1)) - (1 : Int32)))))) 8 (fIx S (S.1 0 0 13)) 8 (fX4_loopPrediction (uF (uF (uF (uI (uI (uI (uI (uI S 8 (fIx S (S.1 0 0 13)) 0 x1) 8 (fIx S (S.1 0 0 13)) 1 (0 : Int32)) 8 (fIx S (S.1 0 0 13)) 2 (S.1 0 0 11)) 8 (fIx S (S.1 0 0 13)) 3 (x1 &&& (((S.1 1 0 1)) - (1 : Int32)))) 8 (fIx S (S.1 0 0 13)) 4 ((x1 ^^^ (S.1 0 0 11)) &&& (((S.1 1 1 1)) - (1 : Int32)))) 8 (fIx S (S.1 0 0 13)) 5 (fX2_saysTaken S 0 (x1 &&& (((S.1 1 0 1)) - (1 : Int32))))) 8 (fIx S (S.1 0 0 13)) 6 (fX2_saysTaken S 1 ((x1 ^^^ (S.1 0 0 11)) &&& (((S.1 1 1 1)) - (1 : Int32))))) 8 (fIx S (S.1 0 0 13)) 7 (if (fX2_saysTaken S 2 (x1 &&& (((S.1 1 0 1)) - (1 : Int32)))) = false then (fX2_saysTaken S 0 (x1 &&& (((S.1 1 0 1)) - (1 : Int32)))) else (fX2_saysTaken S 1 ((x1 ^^^ (S.1 0 0 11)) &&& (((S.1 1 1 1)) - (1 : Int32)))))) N1 x1 (if (fX2_saysTaken S 2 (x1 &&& (((S.1 1 0 1)) - (1 : Int32)))) = false then (fX2_saysTaken S 0 (x1 &&& (((S.1 1 0 1)) - (1 : Int32)))) else (fX2_saysTaken S 1 ((x1 ^^^ (S.1 0 0 11)) &&& (((S.1 1 1 1)) - (1 : Int32))))))) 0 0 13 ((S.1 0 0 13) + (1 : Int32))) 0 0 11 ((((2 : Int32) * (S.1 0 0 11)) + (if (fX4_loopPrediction (uF (uF (uF (uI (uI (uI (uI (uI S 8 (fIx S (S.1 0 0 13)) 0 x1) 8 (fIx S (S.1 0 0 13)) 1 (0 : Int32)) 8 (fIx S (S.1 0 0 13)) 2 (S.1 0 0 11)) 8 (fIx S (S.1 0 0 13)) 3 (x1 &&& (((S.1 1 0 1)) - (1 : Int32)))) 8 (fIx S (S.1 0 0 13)) 4 ((x1 ^^^ (S.1 0 0 11)) &&& (((S.1 1 1 1)) - (1 : Int32)))) 8 (fIx S (S.1 0 0 13)) 5 (fX2_saysTaken S 0 (x1 &&& (((S.1 1 0 1)) - (1 : Int32))))) 8 (fIx S (S.1 0 0 13)) 6 (fX2_saysTaken S 1 ((x1 ^^^ (S.1 0 0 11)) &&& (((S.1 1 1 1)) - (1 : Int32))))) 8 (fIx S (S.1 0 0 13)) 7 (if (fX2_saysTaken S 2 (x1 &&& (((S.1 1 0 1)) - (1 : Int32)))) = false then (fX2_saysTaken S 0 (x1 &&& (((S.1 1 0 1)) - (1 : Int32)))) else (fX2_saysTaken S 1 ((x1 ^^^ (S.1 0 0 11)) &&& (((S.1 1 1 1)) - (1 : Int32)))))) N1 x1 (if (fX2_saysTaken S 2 (x1 &&& (((S.1 1 0 1)) - (1 : Int32)))) = false then (fX2_saysTaken S 0 (x1 &&& (((S.1 1 0 1)) - (1 : Int32)))) else (fX2_saysTaken S 1 ((x1 ^^^ (S.1 0 0 11)) &&& (((S.1 1 1 1)) - (1 : Int32)))))) = false then (0 : Int32) else (1 : Int32))) &&& (((1 : Int32) <<< (((S.1 0 0 10)) &&& 31)) - (1 : Int32))))) from by unfold fX4_launch; rfl)) (congrArg (a₁ := (fX4_launch S N1 x1)) (a₂ := ((fX4_loopPrediction (uF (uF (uF (uI (uI (uI (uI (uI S 8 (fIx S (S.1 0 0 13)) 0 x1) 8 (fIx S (S.1 0 0 13)) 1 (0 : Int32)) 8 (fIx S (S.1 0 0 13)) 2 (S.1 0 0 11)) 8 (fIx S (S.1 0 0 13)) 3 (x1 &&& (((S.1 1 0 1)) - (1 : Int32)))) 8 (fIx S (S.1 0 0 13)) 4 ((x1 ^^^ (S.1 0 0 11)) &&& (((S.1 1 1 1)) - (1 : Int32)))) 8 (fIx S (S.1 0 0 13)) 5 (fX2_saysTaken S 0 (x1 &&& (((S.1 1 0 1)) - (1 : Int32))))) 8 (fIx S (S.1 0 0 13)) 6 (fX2_saysTaken S 1 ((x1 ^^^ (S.1 0 0 11)) &&& (((S.1 1 1 1)) - (1 : Int32))))) 8 (fIx S (S.1 0 0 13)) 7 (if (fX2_saysTaken S 2 (x1 &&& (((S.1 1 0 1)) - (1 : Int32)))) = false then (fX2_saysTaken S 0 (x1 &&& (((S.1 1 0 1)) - (1 : Int32)))) else (fX2_saysTaken S 1 ((x1 ^^^ (S.1 0 0 11)) &&& (((S.1 1 1 1)) - (1 : Int32)))))) N1 x1 (if (fX2_saysTaken S 2 (x1 &&& (((S.1 1 0 1)) - (1 : Int32)))) = false then (fX2_saysTaken S 0 (x1 &&& (((S.1 1 0 1)) - (1 : Int32)))) else (fX2_saysTaken S 1 ((x1 ^^^ (S.1 0 0 11)) &&& (((S.1 1 1 1)) - (1 : Int32)))))), (uI (uI (uF (uF (uF (uF (uI (uI (uI (uI (uI S 8 (fIx S (S.1 0 0 13)) 0 x1) 8 (fIx S (S.1 0 0 13)) 1 (0 : Int32)) 8 (fIx S (S.1 0 0 13)) 2 (S.1 0 0 11)) 8 (fIx S (S.1 0 0 13)) 3 (x1 &&& (((S.1 1 0 1)) - (1 : Int32)))) 8 (fIx S (S.1 0 0 13)) 4 ((x1 ^^^ (S.1 0 0 11)) &&& (((S.1 1 1 1)) - (1 : Int32)))) 8 (fIx S (S.1 0 0 13)) 5 (fX2_saysTaken S 0 (x1 &&& (((S.1 1 0 1)) - (1 : Int32))))) 8 (fIx S (S.1 0 0 13)) 6 (fX2_saysTaken S 1 ((x1 ^^^ (S.1 0 0 11)) &&& (((S.1 1 1 1)) - (1 : Int32))))) 8 (fIx S (S.1 0 0 13)) 7 (if (fX2_saysTaken S 2 (x1 &&& (((S.1 1 0 1)) - (1 : Int32)))) = false then (fX2_saysTaken S 0 (x1 &&& (((S.1 1 0 1)) - (1 : Int32)))) else (fX2_saysTaken S 1 ((x1 ^^^ (S.1 0 0 11)) &&& (((S.1 1 1 1)) - (1 : Int32)))))) 8 (fIx S (S.1 0 0 13)) 8 (fX4_loopPrediction (uF (uF (uF (uI (uI (uI (uI (uI S 8 (fIx S (S.1 0 0 13)) 0 x1) 8 (fIx S (S.1 0 0 13)) 1 (0 : Int32)) 8 (fIx S (S.1 0 0 13)) 2 (S.1 0 0 11)) 8 (fIx S (S.1 0 0 13)) 3 (x1 &&& (((S.1 1 0 1)) - (1 : Int32)))) 8 (fIx S (S.1 0 0 13)) 4 ((x1 ^^^ (S.1 0 0 11)) &&& (((S.1 1 1 1)) - (1 : Int32)))) 8 (fIx S (S.1 0 0 13)) 5 (fX2_saysTaken S 0 (x1 &&& (((S.1 1 0 1)) - (1 : Int32))))) 8 (fIx S (S.1 0 0 13)) 6 (fX2_saysTaken S 1 ((x1 ^^^ (S.1 0 0 11)) &&& (((S.1 1 1 1)) - (1 : Int32))))) 8 (fIx S (S.1 0 0 13)) 7 (if (fX2_saysTaken S 2 (x1 &&& (((S.1 1 0 1)) - (1 : Int32)))) = false then (fX2_saysTaken S 0 (x1 &&& (((S.1 1 0 1)) - (1 : Int32)))) else (fX2_saysTaken S 1 ((x1 ^^^ (S.1 0 0 11)) &&& (((S.1 1 1 1)) - (1 : Int32)))))) N1 x1 (if (fX2_saysTaken S 2 (x1 &&& (((S.1 1 0 1)) - (1 : Int32)))) = false then (fX2_saysTaken S 0 (x1 &&& (((S.1 1 0 1)) - (1 : Int32)))) else (fX2_saysTaken S 1 ((x1 ^^^ (S.1 0 0 11)) &&& (((S.1 1 1 1)) - (1 : Int32))))))) 0 0 13 ((S.1 0 0 13) + (1 : Int32))) 0 0 11 ((((2 : Int32) * (S.1 0 0 11)) + (if (fX4_loopPrediction (uF (uF (uF (uI (uI (uI (uI (uI S 8 (fIx S (S.1 0 0 13)) 0 x1) 8 (fIx S (S.1 0 0 13)) 1 (0 : Int32)) 8 (fIx S (S.1 0 0 13)) 2 (S.1 0 0 11)) 8 (fIx S (S.1 0 0 13)) 3 (x1 &&& (((S.1 1 0 1)) - (1 : Int32)))) 8 (fIx S (S.1 0 0 13)) 4 ((x1 ^^^ (S.1 0 0 11)) &&& (((S.1 1 1 1)) - (1 : Int32)))) 8 (fIx S (S.1 0 0 13)) 5 (fX2_saysTaken S 0 (x1 &&& (((S.1 1 0 1)) - (1 : Int32))))) 8 (fIx S (S.1 0 0 13)) 6 (fX2_saysTaken S 1 ((x1 ^^^ (S.1 0 0 11)) &&& (((S.1 1 1 1)) - (1 : Int32))))) 8 (fIx S (S.1 0 0 13)) 7 (if (fX2_saysTaken S 2 (x1 &&& (((S.1 1 0 1)) - (1 : Int32)))) = false then (fX2_saysTaken S 0 (x1 &&& (((S.1 1 0 1)) - (1 : Int32)))) else (fX2_saysTaken S 1 ((x1 ^^^ (S.1 0 0 11)) &&& (((S.1 1 1 1)) - (1 : Int32)))))) N1 x1 (if (fX2_saysTaken S 2 (x1 &&& (((S.1 1 0 1)) - (1 : Int32)))) = false then (fX2_saysTaken S 0 (x1 &&& (((S.1 1 0 1)) - (1 : Int32)))) else (fX2_saysTaken S 1 ((x1 ^^^ (S.1 0 0 11)) &&& (((S.1 1 1 1)) - (1 : Int32)))))) = false then (0 : Int32) else (1 : Int32))) &&& (((1 : Int32) <<< (((S.1 0 0 10)) &&& 31)) - (1 : Int32)))))) (fun z : Bool × uS => z.2) (show (fX4_launch S N1 x1) = ((fX4_loopPrediction (uF (uF (uF (uI (uI (uI (uI (uI S 8 (fIx S (S.1 0 0 13)) 0 x1) 8 (fIx S (S.1 0 0 13)) 1 (0 : Int32)) 8 (fIx S (S.1 0 0 13)) 2 (S.1 0 0 11)) 8 (fIx S (S.1 0 0 13)) 3 (x1 &&& (((S.1 1 0 1)) - (1 : Int32)))) 8 (fIx S (S.1 0 0 13)) 4 ((x1 ^^^ (S.1 0 0 11)) &&& (((S.1 1 1 1)) - (1 : Int32)))) 8 (fIx S (S.1 0 0 13)) 5 (fX2_saysTaken S 0 (x1 &&& (((S.1 1 0 1)) - (1 : Int32))))) 8 (fIx S (S.1 0 0 13)) 6 (fX2_saysTaken S 1 ((x1 ^^^ (S.1 0 0 11)) &&& (((S.1 1 1 1)) - (1 : Int32))))) 8 (fIx S (S.1 0 0 13)) 7 (if (fX2_saysTaken S 2 (x1 &&& (((S.1 1 0 1)) - (1 : Int32)))) = false then (fX2_saysTaken S 0 (x1 &&& (((S.1 1 0 1)) - (1 : Int32)))) else (fX2_saysTaken S 1 ((x1 ^^^ (S.1 0 0 11)) &&& (((S.1 1 1 1)) - (1 : Int32)))))) N1 x1 (if (fX2_saysTaken S 2 (x1 &&& (((S.1 1 0 1)) - (1 : Int32)))) = false then (fX2_saysTaken S 0 (x1 &&& (((S.1 1 0 1)) - (1 : Int32)))) else (fX2_saysTaken S 1 ((x1 ^^^ (S.1 0 0 11)) &&& (((S.1 1 1 1)) - (1 : Int32)))))), (uI (uI (uF (uF (uF (uF (uI (uI (uI (uI (uI S 8 (fIx S (S.1 0 0 13)) 0 x1) 8 (fIx S (S.1 0 0 13)) 1 (0 : Int32)) 8 (fIx S (S.1 0 0 13)) 2 (S.1 0 0 11)) 8 (fIx S (S.1 0 0 13)) 3 (x1 &&& (((S.1 1 0 1)) - (1 : Int32)))) 8 (fIx S (S.1 0 0 13)) 4 ((x1 ^^^ (S.1 0 0 11)) &&& (((S.1 1 1 1)) - (1 : Int32)))) 8 (fIx S (S.1 0 0 13)) 5 (fX2_saysTaken S 0 (x1 &&& (((S.1 1 0 1)) - (1 : Int32))))) 8 (fIx S (S.1 0 0 13)) 6 (fX2_saysTaken S 1 ((x1 ^^^ (S.1 0 0 11)) &&& (((S.1 1 1 1)) - (1 : Int32))))) 8 (fIx S (S.1 0 0 13)) 7 (if (fX2_saysTaken S 2 (x1 &&& (((S.1 1 0 1)) - (1 : Int32)))) = false then (fX2_saysTaken S 0 (x1 &&& (((S.1 1 0 1)) - (1 : Int32)))) else (fX2_saysTaken S 1 ((x1 ^^^ (S.1 0 0 11)) &&& (((S.1 1 1 1)) - (1 : Int32)))))) 8 (fIx S (S.1 0 0 13)) 8 (fX4_loopPrediction (uF (uF (uF (uI (uI (uI (uI (uI S 8 (fIx S (S.1 0 0 13)) 0 x1) 8 (fIx S (S.1 0 0 13)) 1 (0 : Int32)) 8 (fIx S (S.1 0 0 13)) 2 (S.1 0 0 11)) 8 (fIx S (S.1 0 0 13)) 3 (x1 &&& (((S.1 1 0 1)) - (1 : Int32)))) 8 (fIx S (S.1 0 0 13)) 4 ((x1 ^^^ (S.1 0 0 11)) &&& (((S.1 1 1 1)) - (1 : Int32)))) 8 (fIx S (S.1 0 0 13)) 5 (fX2_saysTaken S 0 (x1 &&& (((S.1 1 0 1)) - (1 : Int32))))) 8 (fIx S (S.1 0 0 13)) 6 (fX2_saysTaken S 1 ((x1 ^^^ (S.1 0 0 11)) &&& (((S.1 1 1 1)) - (1 : Int32))))) 8 (fIx S (S.1 0 0 13)) 7 (if (fX2_saysTaken S 2 (x1 &&& (((S.1 1 0 1)) - (1 : Int32)))) = false then (fX2_saysTaken S 0 (x1 &&& (((S.1 1 0 1)) - (1 : Int32)))) else (fX2_saysTaken S 1 ((x1 ^^^ (S.1 0 0 11)) &&& (((S.1 1 1 1)) - (1 : Int32)))))) N1 x1 (if (fX2_saysTaken S 2 (x1 &&& (((S.1 1 0 1)) - (1 : Int32)))) = false then (fX2_saysTaken S 0 (x1 &&& (((S.1 1 0 1)) - (1 : Int32)))) else (fX2_saysTaken S 1 ((x1 ^^^ (S.1 0 0 11)) &&& (((S.1 1 1 1)) - (1 : Int32))))))) 0 0 13 ((S.1 0 0 13) + (1 : Int32))) 0 0 11 ((((2 : Int32) * (S.1 0 0 11)) + (if (fX4_loopPrediction (uF (uF (uF (uI (uI (uI (uI (uI S 8 (fIx S (S.1 0 0 13)) 0 x1) 8 (fIx S (S.1 0 0 13)) 1 (0 : Int32)) 8 (fIx S (S.1 0 0 13)) 2 (S.1 0 0 11)) 8 (fIx S (S.1 0 0 13)) 3 (x1 &&& (((S.1 1 0 1)) - (1 : Int32)))) 8 (fIx S (S.1 0 0 13)) 4 ((x1 ^^^ (S.1 0 0 11)) &&& (((S.1 1 1 1)) - (1 : Int32)))) 8 (fIx S (S.1 0 0 13)) 5 (fX2_saysTaken S 0 (x1 &&& (((S.1 1 0 1)) - (1 : Int32))))) 8 (fIx S (S.1 0 0 13)) 6 (fX2_saysTaken S 1 ((x1 ^^^ (S.1 0 0 11)) &&& (((S.1 1 1 1)) - (1 : Int32))))) 8 (fIx S (S.1 0 0 13)) 7 (if (fX2_saysTaken S 2 (x1 &&& (((S.1 1 0 1)) - (1 : Int32)))) = false then (fX2_saysTaken S 0 (x1 &&& (((S.1 1 0 1)) - (1 : Int32)))) else (fX2_saysTaken S 1 ((x1 ^^^ (S.1 0 0 11)) &&& (((S.1 1 1 1)) - (1 : Int32)))))) N1 x1 (if (fX2_saysTaken S 2 (x1 &&& (((S.1 1 0 1)) - (1 : Int32)))) = false then (fX2_saysTaken S 0 (x1 &&& (((S.1 1 0 1)) - (1 : Int32)))) else (fX2_saysTaken S 1 ((x1 ^^^ (S.1 0 0 11)) &&& (((S.1 1 1 1)) - (1 : Int32)))))) = false then (0 : Int32) else (1 : Int32))) &&& (((1 : Int32) <<< (((S.1 0 0 10)) &&& 31)) - (1 : Int32))))) from by unfold fX4_launch; rfl)) dX4_launch_158
def fX4_settle (S : uS) (x1 : Int32) (b1 : Bool) : Int32 × uS :=
  if (S.2.2 8 (fIx S x1) 8) = b1 then ((-1 : Int32), (uI S 8 (fIx S x1) 1 (1 : Int32)))
  else ((fX4_dropFrom (uI (uI S 8 (fIx S x1) 1 (2 : Int32)) 0 0 11 ((((2 : Int32) * (S.1 8 (fIx S x1) 2)) + (if b1 = false then (0 : Int32) else (1 : Int32))) &&& (((1 : Int32) <<< (((S.1 0 0 10)) &&& 31)) - (1 : Int32)))) (x1 + (1 : Int32))).1, ((fX4_dropFrom (uI (uI S 8 (fIx S x1) 1 (2 : Int32)) 0 0 11 ((((2 : Int32) * (S.1 8 (fIx S x1) 2)) + (if b1 = false then (0 : Int32) else (1 : Int32))) &&& (((1 : Int32) <<< (((S.1 0 0 10)) &&& 31)) - (1 : Int32)))) (x1 + (1 : Int32))).2))
abbrev rmX4_settle : Room := { frames := 1, cells := 0, slots := 0, locals := 23 }
set_option maxHeartbeats 4000000 in
set_option maxRecDepth 100000 in
theorem cX4c_settle (l : Launch) (G : gG) (Z : va_W) (S : uS) (x1 : Int32) (b1 : Bool) : kMet l yX4_settle wsX4_settle rmX4_settle G kC Z S [.ref (G.2.2 (0, 0)), .int (x1), .int (bI (b1))] (some (.int ((fX4_settle S x1 b1).1))) ((fX4_settle S x1 b1).2) := by
  refine kMet_of (cc := cX4_settle) (maxL := 4) (ret := (some .int)) (by decide) rfl (Nat.le_of_ble_eq_true rfl) ?_
  intro p e s m below meth c hx hb hr hml hlocks hts hown hK hN A hZ hA H locs hw ls hl
  have hl : lv_has ls 4 [(0, .ref (G.2.2 (0, 0))), (1, .int (x1)), (2, .int (bI (b1)))] := hl
  have hiX1 : ∀ w ∈ wsX10, w ∈ wsX4_settle := by decide +kernel
  have hiX4 : ∀ w ∈ wsX40, w ∈ wsX4_settle := by decide +kernel
  refine lv_aload_n hx hb dX4_settle_0 rfl (lv_at hl 0 rfl) ?_
  refine lv_iload_n hx hb dX4_settle_1 rfl (lv_at hl 1 rfl) ?_
  refine k_callV (C := RX4) (n := 1) (rest := []) ⟨hx, hb, hml, hown, hts⟩ (cX4c_branchAt l G Z S x1) (cwV 1 hts gX4_settle_X4_branchAt rfl rfl rfl (by decide +kernel) ⟨Nat.le_of_ble_eq_true rfl, Nat.le_of_ble_eq_true rfl⟩) (k_recv hK hw kC_0 rfl rfl) hK hN hZ hA hw (Nat.zero_le _) (Nat.zero_le _) rfl hl.1 rfl (Nat.le_of_ble_eq_true rfl) dX4_settle_2 (fun H locs hw => ?_)
  refine W.eq (g2 := F0 m 5 ls [.ref (G.2.2 (8, (fIx S x1)))]) rfl ?_
  refine lv_astore_n (lv' := [(3, .ref (G.2.2 (8, (fIx S x1)))), (0, .ref (G.2.2 (0, 0))), (1, .int (x1)), (2, .int (bI (b1)))]) hx hb dX4_settle_5 rfl hl (by decide) rfl (fun ls hl => ?_)
  refine lv_aload_n hx hb dX4_settle_6 rfl (lv_at hl 0 rfl) ?_
  refine g_8_8 hx hb hts hiX1 hown hK hw (kC_8 (fIx_lt S x1)) (hts (.fieldLink RX4 239 "BranchPredictor$Branch" "isPredictedTaken" "Z") (by decide +kernel)) dX4_settle_7 ?_
  refine lv_iload_n hx hb dX4_settle_10 rfl (lv_at hl 3 rfl) ?_
  refine k_icmp_ne (a := S.2.2 8 (fIx S x1) 8) (b := b1) (tgt := 21) hx hb dX4_settle_11 (by decide) (fun c_1 => ?_) (fun c_1 => ?_)
  · skip
    refine lv_aload_n hx hb dX4_settle_21 rfl (lv_at hl 0 rfl) ?_
    refine lv_iconst (v := 2) hx hb dX4_settle_22 (by decide) ?_
    refine p_8_1 (v := (2 : Int32)) hx hb hts hiX1 hown hK hw (kC_8 (fIx_lt S x1)) (hts (.fieldLink RX4 97 "BranchPredictor$Branch" "state" "I") (by decide +kernel)) dX4_settle_23 (fun H locs hw => ?_)
    refine lv_aload_n hx hb dX4_settle_26 rfl (lv_at hl 1 rfl) ?_
    refine lv_aload_n hx hb dX4_settle_27 rfl (lv_at hl 1 rfl) ?_
    refine lv_aload_n hx hb dX4_settle_28 rfl (lv_at hl 0 rfl) ?_
    refine g_8_2 hx hb hts hiX1 hown hK hw (kC_8 (fIx_lt S x1)) (hts (.fieldLink RX4 116 "BranchPredictor$Branch" "historyAhead" "I") (by decide +kernel)) dX4_settle_29 ?_
    refine k_topi (z := S.1 8 (fIx S x1) 2) (by simp [uI, uL, uF]) ?_
    refine lv_iload_n hx hb dX4_settle_32 rfl (lv_at hl 3 rfl) ?_
    refine k_callV (C := RX4) (n := 2) (rest := [.ref (G.2.2 (0, 0))]) ⟨hx, hb, hml, hown, hts⟩ (cX4c_appended l G Z (uI S 8 (fIx S x1) 1 (2 : Int32)) (S.1 8 (fIx S x1) 2) b1) (cwV 2 hts gX4_settle_X4_appended rfl rfl rfl (by decide +kernel) ⟨Nat.le_of_ble_eq_true rfl, Nat.le_of_ble_eq_true rfl⟩) (k_recv hK hw kC_0 rfl rfl) hK hN hZ hA hw (Nat.zero_le _) (Nat.zero_le _) rfl hl.1 rfl (Nat.le_of_ble_eq_true rfl) dX4_settle_33 (fun H locs hw => ?_)
    refine W.eq (g2 := F0 m 36 ls [.int ((((2 : Int32) * (S.1 8 (fIx S x1) 2)) + (if b1 = false then (0 : Int32) else (1 : Int32))) &&& (((1 : Int32) <<< (((uI S 8 (fIx S x1) 1 (2 : Int32)).1 0 0 10) &&& 31)) - (1 : Int32))), .ref (G.2.2 (0, 0))]) rfl ?_
    refine k_topi (z := (((2 : Int32) * (S.1 8 (fIx S x1) 2)) + (if b1 = false then (0 : Int32) else (1 : Int32))) &&& (((1 : Int32) <<< (((S.1 0 0 10)) &&& 31)) - (1 : Int32))) (by first | rfl | simp [uI, uL, uF]) ?_
    refine p_0_11 (v := (((2 : Int32) * (S.1 8 (fIx S x1) 2)) + (if b1 = false then (0 : Int32) else (1 : Int32))) &&& (((1 : Int32) <<< (((S.1 0 0 10)) &&& 31)) - (1 : Int32))) hx hb hts hiX4 hown hK hw kC_0 (hts (.fieldLink RX4 119 "BranchPredictor" "outcomes" "I") (by decide +kernel)) dX4_settle_36 (fun H locs hw => ?_)
    refine lv_aload_n hx hb dX4_settle_39 rfl (lv_at hl 1 rfl) ?_
    refine lv_iload_n hx hb dX4_settle_40 rfl (lv_at hl 2 rfl) ?_
    refine lv_iconst (v := 1) hx hb dX4_settle_41 (by decide) ?_
    refine lv_iadd hx hb dX4_settle_42 ?_
    refine k_callV (C := RX4) (n := 1) (rest := []) ⟨hx, hb, hml, hown, hts⟩ (cX4c_dropFrom l G Z (uI (uI S 8 (fIx S x1) 1 (2 : Int32)) 0 0 11 ((((2 : Int32) * (S.1 8 (fIx S x1) 2)) + (if b1 = false then (0 : Int32) else (1 : Int32))) &&& (((1 : Int32) <<< (((S.1 0 0 10)) &&& 31)) - (1 : Int32)))) (x1 + (1 : Int32))) (cwV 1 hts gX4_settle_X4_dropFrom rfl rfl rfl (by decide +kernel) ⟨Nat.le_of_ble_eq_true rfl, Nat.le_of_ble_eq_true rfl⟩) (k_recv hK hw kC_0 rfl rfl) hK hN hZ hA hw (Nat.zero_le _) (Nat.zero_le _) rfl hl.1 rfl (Nat.le_of_ble_eq_true rfl) dX4_settle_43 (fun H locs hw => ?_)
    refine W.eq (g2 := F0 m 46 ls [.int ((fX4_dropFrom (uI (uI S 8 (fIx S x1) 1 (2 : Int32)) 0 0 11 ((((2 : Int32) * (S.1 8 (fIx S x1) 2)) + (if b1 = false then (0 : Int32) else (1 : Int32))) &&& (((1 : Int32) <<< (((S.1 0 0 10)) &&& 31)) - (1 : Int32)))) (x1 + (1 : Int32))).1)]) rfl ?_
    exact k_iret hx hb hr hlocks hK hw (congrArg (fun z : Int32 × uS => some (Value.int (z.1))) (show (fX4_settle S x1 b1) = ((fX4_dropFrom (uI (uI S 8 (fIx S x1) 1 (2 : Int32)) 0 0 11 ((((2 : Int32) * (S.1 8 (fIx S x1) 2)) + (if b1 = false then (0 : Int32) else (1 : Int32))) &&& (((1 : Int32) <<< (((S.1 0 0 10)) &&& 31)) - (1 : Int32)))) (x1 + (1 : Int32))).1, ((fX4_dropFrom (uI (uI S 8 (fIx S x1) 1 (2 : Int32)) 0 0 11 ((((2 : Int32) * (S.1 8 (fIx S x1) 2)) + (if b1 = false then (0 : Int32) else (1 : Int32))) &&& (((1 : Int32) <<< (((S.1 0 0 10)) &&& 31)) - (1 : Int32)))) (x1 + (1 : Int32))).2)) from by unfold fX4_settle; rw [if_neg c_1])) (congrArg (a₁ := (fX4_settle S x1 b1)) (a₂ := ((fX4_dropFrom (uI (uI S 8 (fIx S x1) 1 (2 : Int32)) 0 0 11 ((((2 : Int32) * (S.1 8 (fIx S x1) 2)) + (if b1 = false then (0 : Int32) else (1 : Int32))) &&& (((1 : Int32) <<< (((S.1 0 0 10)) &&& 31)) - (1 : Int32)))) (x1 + (1 : Int32))).1, ((fX4_dropFrom (uI (uI S 8 (fIx S x1) 1 (2 : Int32)) 0 0 11 ((((2 : Int32) * (S.1 8 (fIx S x1) 2)) + (if b1 = false then (0 : Int32) else (1 : Int32))) &&& (((1 : Int32) <<< (((S.1 0 0 10)) &&& 31)) - (1 : Int32)))) (x1 + (1 : Int32))).2))) (fun z : Int32 × uS => z.2) (show (fX4_settle S x1 b1) = ((fX4_dropFrom (uI (uI S 8 (fIx S x1) 1 (2 : Int32)) 0 0 11 ((((2 : Int32) * (S.1 8 (fIx S x1) 2)) + (if b1 = false then (0 : Int32) else (1 : Int32))) &&& (((1 : Int32) <<< (((S.1 0 0 10)) &&& 31)) - (1 : Int32)))) (x1 + (1 : Int32))).1, ((fX4_dropFrom (uI (uI S 8 (fIx S x1) 1 (2 : Int32)) 0 0 11 ((((2 : Int32) * (S.1 8 (fIx S x1) 2)) + (if b1 = false then (0 : Int32) else (1 : Int32))) &&& (((1 : Int32) <<< (((S.1 0 0 10)) &&& 31)) - (1 : Int32)))) (x1 + (1 : Int32))).2)) from by unfold fX4_settle; rw [if_neg c_1])) dX4_settle_46
  · skip
    refine lv_aload_n hx hb dX4_settle_14 rfl (lv_at hl 0 rfl) ?_
    refine lv_iconst (v := 1) hx hb dX4_settle_15 (by decide) ?_
    refine p_8_1 (v := (1 : Int32)) hx hb hts hiX1 hown hK hw (kC_8 (fIx_lt S x1)) (hts (.fieldLink RX4 97 "BranchPredictor$Branch" "state" "I") (by decide +kernel)) dX4_settle_16 (fun H locs hw => ?_)
    refine lv_iconst (v := -1) hx hb dX4_settle_19 (by decide) ?_
    exact k_iret hx hb hr hlocks hK hw (congrArg (fun z : Int32 × uS => some (Value.int (z.1))) (show (fX4_settle S x1 b1) = ((-1 : Int32), (uI S 8 (fIx S x1) 1 (1 : Int32))) from by unfold fX4_settle; rw [if_pos c_1])) (congrArg (a₁ := (fX4_settle S x1 b1)) (a₂ := ((-1 : Int32), (uI S 8 (fIx S x1) 1 (1 : Int32)))) (fun z : Int32 × uS => z.2) (show (fX4_settle S x1 b1) = ((-1 : Int32), (uI S 8 (fIx S x1) 1 (1 : Int32))) from by unfold fX4_settle; rw [if_pos c_1])) dX4_settle_20
def fX4_learnChoice (S : uS) (k3 : Nat) (b1 : Bool) : uS :=
  if (S.2.2 8 k3 5) = (S.2.2 8 k3 6) then S
  else (fX2_move S 2 (S.1 8 k3 3) (if (S.2.2 8 k3 6) = b1 then true else false))
abbrev rmX4_learnChoice : Room := { frames := 2, cells := 0, slots := 0, locals := 45 }
set_option maxHeartbeats 4000000 in
set_option maxRecDepth 100000 in
theorem cX4c_learnChoice (l : Launch) (G : gG) (Z : va_W) (S : uS) (k3 : Nat) (h_k3 : k3 < 16) (b1 : Bool) : kMet l yX4_learnChoice wsX4_learnChoice rmX4_learnChoice G kC Z S [.ref (G.2.2 (0, 0)), .ref (G.2.2 (8, k3)), .int (bI (b1))] none (fX4_learnChoice S k3 b1) := by
  refine kMet_of (cc := cX4_learnChoice) (maxL := 3) (ret := none) (by decide) rfl (Nat.le_of_ble_eq_true rfl) ?_
  intro p e s m below meth c hx hb hr hml hlocks hts hown hK hN A hZ hA H locs hw ls hl
  have hl : lv_has ls 3 [(0, .ref (G.2.2 (0, 0))), (1, .ref (G.2.2 (8, k3))), (2, .int (bI (b1)))] := hl
  have hiX1 : ∀ w ∈ wsX10, w ∈ wsX4_learnChoice := by decide +kernel
  have hiX4 : ∀ w ∈ wsX40, w ∈ wsX4_learnChoice := by decide +kernel
  refine lv_aload_n hx hb dX4_learnChoice_0 rfl (lv_at hl 1 rfl) ?_
  refine g_8_5 hx hb hts hiX1 hown hK hw (kC_8 h_k3) (hts (.fieldLink RX4 225 "BranchPredictor$Branch" "isPlainTaken" "Z") (by decide +kernel)) dX4_learnChoice_1 ?_
  refine lv_aload_n hx hb dX4_learnChoice_4 rfl (lv_at hl 1 rfl) ?_
  refine g_8_6 hx hb hts hiX1 hown hK hw (kC_8 h_k3) (hts (.fieldLink RX4 229 "BranchPredictor$Branch" "isGlobalTaken" "Z") (by decide +kernel)) dX4_learnChoice_5 ?_
  refine k_icmp_eq (a := S.2.2 8 k3 5) (b := S.2.2 8 k3 6) (tgt := 35) hx hb dX4_learnChoice_8 (by decide) (fun c_1 => ?_) (fun c_1 => ?_)
  · skip
    exact k_vret hx hb hr hlocks hK hw rfl (by unfold fX4_learnChoice; rw [if_pos c_1]) dX4_learnChoice_35
  · skip
    refine lv_aload_n hx hb dX4_learnChoice_11 rfl (lv_at hl 0 rfl) ?_
    refine g_0_2 hx hb hts hiX4 hown hK hw kC_0 (hts (.fieldLink RX4 19 "BranchPredictor" "choiceTable" "LBranchPredictor$CounterTable;") (by decide +kernel)) dX4_learnChoice_12 ?_
    refine lv_aload_n hx hb dX4_learnChoice_15 rfl (lv_at hl 1 rfl) ?_
    refine g_8_3 hx hb hts hiX1 hown hK hw (kC_8 h_k3) (hts (.fieldLink RX4 216 "BranchPredictor$Branch" "plainIndex" "I") (by decide +kernel)) dX4_learnChoice_16 ?_
    refine lv_aload_n hx hb dX4_learnChoice_19 rfl (lv_at hl 1 rfl) ?_
    refine g_8_6 hx hb hts hiX1 hown hK hw (kC_8 h_k3) (hts (.fieldLink RX4 229 "BranchPredictor$Branch" "isGlobalTaken" "Z") (by decide +kernel)) dX4_learnChoice_20 ?_
    refine lv_iload_n hx hb dX4_learnChoice_23 rfl (lv_at hl 2 rfl) ?_
    refine k_join (P := fun x9 : Bool => W p l e rmX4_learnChoice s m [.ref (G.2.2 (0, 0)), .ref (G.2.2 (8, k3)), .int (bI (b1))].toArray below meth c H locs 0 0 (MQ below (kQ G kC Z A none (fX4_learnChoice S k3 b1)) [.ref (G.2.2 (0, 0)), .ref (G.2.2 (8, k3)), .int (bI (b1))].toArray s 0 0 A) (F0 m 32 ls [.int (bI (x9)), .int (S.1 8 k3 3), .ref (G.2.2 (1, 2))])) (C := (S.2.2 8 k3 6) = b1) (a := true) (b := false) ?_ (fun ka kb => ?_)
    rotate_left
    · refine k_icmp_ne (a := S.2.2 8 k3 6) (b := b1) (tgt := 31) hx hb dX4_learnChoice_24 (by decide) (fun c_2 => ?_) (fun c_2 => ?_)
      · skip
        refine lv_iconst (v := 0) hx hb dX4_learnChoice_31 (by decide) ?_
        exact kb c_2
      · skip
        refine lv_iconst (v := 1) hx hb dX4_learnChoice_27 (by decide) ?_
        refine lv_goto (tgt := 32) hx hb dX4_learnChoice_28 (by decide) ?_
        exact ka c_2
    show W p l e rmX4_learnChoice s m [.ref (G.2.2 (0, 0)), .ref (G.2.2 (8, k3)), .int (bI (b1))].toArray below meth c H locs 0 0 (MQ below (kQ G kC Z A none (fX4_learnChoice S k3 b1)) [.ref (G.2.2 (0, 0)), .ref (G.2.2 (8, k3)), .int (bI (b1))].toArray s 0 0 A) (F0 m 32 ls [.int (bI (if (S.2.2 8 k3 6) = b1 then true else false)), .int (S.1 8 k3 3), .ref (G.2.2 (1, 2))])
    refine k_callV (C := RX2) (n := 2) (rest := []) ⟨hx, hb, hml, hown, hts⟩ (cX2c_move l G Z S 2 (show (2 : Nat) < 3 from by decide) (S.1 8 k3 3) (if (S.2.2 8 k3 6) = b1 then true else false)) (cwV 2 hts gX4_learnChoice_X2_move rfl rfl rfl (by decide +kernel) ⟨Nat.le_of_ble_eq_true rfl, Nat.le_of_ble_eq_true rfl⟩) (k_recv hK hw (kC_1 (show (2 : Nat) < 3 from by decide)) rfl rfl) hK hN hZ hA hw (Nat.zero_le _) (Nat.zero_le _) rfl hl.1 rfl (Nat.le_of_ble_eq_true rfl) dX4_learnChoice_32 (fun H locs hw => ?_)
    refine W.eq (g2 := F0 m 35 ls []) rfl ?_
    exact k_vret hx hb hr hlocks hK hw rfl (by unfold fX4_learnChoice; rw [if_neg c_1]) dX4_learnChoice_35
def fX4_learnOutcome (S : uS) (k1 : Nat) (k2 : Nat) (x1 : Int32) (x2 : Int32) (b1 : Bool) : uS :=
  (fX2_move (fX0_note S k2 x1 x2 (if (fX2_saysTaken S k1 x1) = b1 then false else true)) k1 x1 b1)
abbrev rmX4_learnOutcome : Room := { frames := 2, cells := 0, slots := 0, locals := 45 }
set_option maxHeartbeats 4000000 in
set_option maxRecDepth 100000 in
theorem cX4c_learnOutcome (l : Launch) (G : gG) (Z : va_W) (S : uS) (k1 : Nat) (h_k1 : k1 < 3) (k2 : Nat) (h_k2 : k2 < 2) (x1 : Int32) (x2 : Int32) (b1 : Bool) : kMet l yX4_learnOutcome wsX4_learnOutcome rmX4_learnOutcome G kC Z S [.ref (G.2.2 (1, k1)), .ref (G.2.2 (3, k2)), .int (x1), .int (x2), .int (bI (b1))] none (fX4_learnOutcome S k1 k2 x1 x2 b1) := by
  refine kMet_of (cc := cX4_learnOutcome) (maxL := 5) (ret := none) (by decide) rfl (Nat.le_of_ble_eq_true rfl) ?_
  intro p e s m below meth c hx hb hr hml hlocks hts hown hK hN A hZ hA H locs hw ls hl
  have hl : lv_has ls 5 [(0, .ref (G.2.2 (1, k1))), (1, .ref (G.2.2 (3, k2))), (2, .int (x1)), (3, .int (x2)), (4, .int (bI (b1)))] := hl
  refine lv_aload_n hx hb dX4_learnOutcome_0 rfl (lv_at hl 1 rfl) ?_
  refine lv_iload_n hx hb dX4_learnOutcome_1 rfl (lv_at hl 2 rfl) ?_
  refine lv_iload_n hx hb dX4_learnOutcome_2 rfl (lv_at hl 3 rfl) ?_
  refine lv_aload_n hx hb dX4_learnOutcome_3 rfl (lv_at hl 0 rfl) ?_
  refine lv_iload_n hx hb dX4_learnOutcome_4 rfl (lv_at hl 2 rfl) ?_
  refine k_callV (C := RX2) (n := 1) (rest := [.int (x2), .int (x1), .ref (G.2.2 (3, k2))]) ⟨hx, hb, hml, hown, hts⟩ (cX2c_saysTaken l G Z S k1 h_k1 x1) (cwV 1 hts gX4_learnOutcome_X2_saysTaken rfl rfl rfl (by decide +kernel) ⟨Nat.le_of_ble_eq_true rfl, Nat.le_of_ble_eq_true rfl⟩) (k_recv hK hw (kC_1 h_k1) rfl rfl) hK hN hZ hA hw (Nat.zero_le _) (Nat.zero_le _) rfl hl.1 rfl (Nat.le_of_ble_eq_true rfl) dX4_learnOutcome_5 (fun H locs hw => ?_)
  refine W.eq (g2 := F0 m 8 ls [.int (bI ((fX2_saysTaken S k1 x1))), .int (x2), .int (x1), .ref (G.2.2 (3, k2))]) rfl ?_
  refine lv_iload hx hb dX4_learnOutcome_8 (lv_at hl 4 rfl) ?_
  refine k_join (P := fun x9 : Bool => W p l e rmX4_learnOutcome s m [.ref (G.2.2 (1, k1)), .ref (G.2.2 (3, k2)), .int (x1), .int (x2), .int (bI (b1))].toArray below meth c H locs 0 0 (MQ below (kQ G kC Z A none (fX4_learnOutcome S k1 k2 x1 x2 b1)) [.ref (G.2.2 (1, k1)), .ref (G.2.2 (3, k2)), .int (x1), .int (x2), .int (bI (b1))].toArray s 0 0 A) (F0 m 18 ls [.int (bI (x9)), .int (x2), .int (x1), .ref (G.2.2 (3, k2))])) (C := (fX2_saysTaken S k1 x1) = b1) (a := false) (b := true) ?_ (fun ka kb => ?_)
  rotate_left
  · refine k_icmp_eq (a := (fX2_saysTaken S k1 x1)) (b := b1) (tgt := 17) hx hb dX4_learnOutcome_10 (by decide) (fun c_1 => ?_) (fun c_1 => ?_)
    · skip
      refine lv_iconst (v := 0) hx hb dX4_learnOutcome_17 (by decide) ?_
      exact ka c_1
    · skip
      refine lv_iconst (v := 1) hx hb dX4_learnOutcome_13 (by decide) ?_
      refine lv_goto (tgt := 18) hx hb dX4_learnOutcome_14 (by decide) ?_
      exact kb c_1
  show W p l e rmX4_learnOutcome s m [.ref (G.2.2 (1, k1)), .ref (G.2.2 (3, k2)), .int (x1), .int (x2), .int (bI (b1))].toArray below meth c H locs 0 0 (MQ below (kQ G kC Z A none (fX4_learnOutcome S k1 k2 x1 x2 b1)) [.ref (G.2.2 (1, k1)), .ref (G.2.2 (3, k2)), .int (x1), .int (x2), .int (bI (b1))].toArray s 0 0 A) (F0 m 18 ls [.int (bI (if (fX2_saysTaken S k1 x1) = b1 then false else true)), .int (x2), .int (x1), .ref (G.2.2 (3, k2))])
  refine k_callV (C := RX0) (n := 3) (rest := []) ⟨hx, hb, hml, hown, hts⟩ (cX0c_note l G Z S k2 h_k2 x1 x2 (if (fX2_saysTaken S k1 x1) = b1 then false else true)) (cwV 3 hts gX4_learnOutcome_X0_note rfl rfl rfl (by decide +kernel) ⟨Nat.le_of_ble_eq_true rfl, Nat.le_of_ble_eq_true rfl⟩) (k_recv hK hw (kC_3 h_k2) rfl rfl) hK hN hZ hA hw (Nat.zero_le _) (Nat.zero_le _) rfl hl.1 rfl (Nat.le_of_ble_eq_true rfl) dX4_learnOutcome_18 (fun H locs hw => ?_)
  refine W.eq (g2 := F0 m 21 ls []) rfl ?_
  refine lv_aload_n hx hb dX4_learnOutcome_21 rfl (lv_at hl 0 rfl) ?_
  refine lv_iload_n hx hb dX4_learnOutcome_22 rfl (lv_at hl 2 rfl) ?_
  refine lv_iload hx hb dX4_learnOutcome_23 (lv_at hl 4 rfl) ?_
  refine k_callV (C := RX2) (n := 2) (rest := []) ⟨hx, hb, hml, hown, hts⟩ (cX2c_move l G Z (fX0_note S k2 x1 x2 (if (fX2_saysTaken S k1 x1) = b1 then false else true)) k1 h_k1 x1 b1) (cwV 2 hts gX4_learnOutcome_X2_move rfl rfl rfl (by decide +kernel) ⟨Nat.le_of_ble_eq_true rfl, Nat.le_of_ble_eq_true rfl⟩) (k_recv hK hw (kC_1 h_k1) rfl rfl) hK hN hZ hA hw (Nat.zero_le _) (Nat.zero_le _) rfl hl.1 rfl (Nat.le_of_ble_eq_true rfl) dX4_learnOutcome_25 (fun H locs hw => ?_)
  refine W.eq (g2 := F0 m 28 ls []) rfl ?_
  exact k_vret hx hb hr hlocks hK hw rfl (by unfold fX4_learnOutcome; rfl) dX4_learnOutcome_28
def fX4_learnLoop (S : uS) (k3 : Nat) (b1 : Bool) : uS :=
  if (lX4_loopWith (S.1 8 k3 0) 8 0 S) < (0 : Int32) then if b1 = false then if (S.1 8 k3 1) = (2 : Int32) then (fX3_startAnew S ((lX4_number 8 0 0 S).toNatClampNeg) (S.1 8 k3 0))
      else S
    else S
  else (fX3_learn S ((lX4_loopWith (S.1 8 k3 0) 8 0 S).toNatClampNeg) b1)
abbrev rmX4_learnLoop : Room := { frames := 2, cells := 0, slots := 0, locals := 42 }
set_option maxHeartbeats 4000000 in
set_option maxRecDepth 100000 in
theorem cX4c_learnLoop (l : Launch) (G : gG) (Z : va_W) (S : uS) (k3 : Nat) (h_k3 : k3 < 16) (b1 : Bool) : kMet l yX4_learnLoop wsX4_learnLoop rmX4_learnLoop G kC Z S [.ref (G.2.2 (0, 0)), .ref (G.2.2 (8, k3)), .int (bI (b1))] none (fX4_learnLoop S k3 b1) := by
  refine kMet_of (cc := cX4_learnLoop) (maxL := 4) (ret := none) (by decide) rfl (Nat.le_of_ble_eq_true rfl) ?_
  intro p e s m below meth c hx hb hr hml hlocks hts hown hK hN A hZ hA H locs hw ls hl
  have hl : lv_has ls 4 [(0, .ref (G.2.2 (0, 0))), (1, .ref (G.2.2 (8, k3))), (2, .int (bI (b1)))] := hl
  have hiX1 : ∀ w ∈ wsX10, w ∈ wsX4_learnLoop := by decide +kernel
  have hiX4 : ∀ w ∈ wsX40, w ∈ wsX4_learnLoop := by decide +kernel
  refine lv_aload_n hx hb dX4_learnLoop_0 rfl (lv_at hl 0 rfl) ?_
  refine lv_aload_n hx hb dX4_learnLoop_1 rfl (lv_at hl 1 rfl) ?_
  refine g_8_0 hx hb hts hiX1 hown hK hw (kC_8 h_k3) (hts (.fieldLink RX4 126 "BranchPredictor$Branch" "place" "I") (by decide +kernel)) dX4_learnLoop_2 ?_
  refine k_callV (C := RX4) (n := 1) (rest := []) ⟨hx, hb, hml, hown, hts⟩ (cX4c_loopWith l G Z S (S.1 8 k3 0)) (cwV 1 hts gX4_learnLoop_X4_loopWith rfl rfl rfl (by decide +kernel) ⟨Nat.le_of_ble_eq_true rfl, Nat.le_of_ble_eq_true rfl⟩) (k_recv hK hw kC_0 rfl rfl) hK hN hZ hA hw (Nat.zero_le _) (Nat.zero_le _) rfl hl.1 rfl (Nat.le_of_ble_eq_true rfl) dX4_learnLoop_5 (fun H locs hw => ?_)
  refine W.eq (g2 := F0 m 8 ls [.int ((lX4_loopWith (S.1 8 k3 0) 8 0 S))]) rfl ?_
  refine lv_istore_n (lv' := [(3, .int ((lX4_loopWith (S.1 8 k3 0) 8 0 S))), (0, .ref (G.2.2 (0, 0))), (1, .ref (G.2.2 (8, k3))), (2, .int (bI (b1)))]) hx hb dX4_learnLoop_8 rfl hl (by decide) rfl (fun ls hl => ?_)
  refine lv_iload_n hx hb dX4_learnLoop_9 rfl (lv_at hl 0 rfl) ?_
  refine lv_if_lt (x := (lX4_loopWith (S.1 8 k3 0) 8 0 S)) (tgt := 26) hx hb dX4_learnLoop_10 (by decide) (fun c_1 => ?_) (fun c_1 => ?_)
  · skip
    refine lv_iload_n hx hb dX4_learnLoop_26 rfl (lv_at hl 3 rfl) ?_
    refine k_if_ne (b := b1) (tgt := 54) hx hb dX4_learnLoop_27 (by decide) (fun c_2 => ?_) (fun c_2 => ?_)
    · skip
      exact k_vret hx hb hr hlocks hK hw rfl (by unfold fX4_learnLoop; rw [if_pos c_1, if_neg c_2]) dX4_learnLoop_54
    · skip
      refine lv_aload_n hx hb dX4_learnLoop_30 rfl (lv_at hl 2 rfl) ?_
      refine g_8_1 hx hb hts hiX1 hown hK hw (kC_8 h_k3) (hts (.fieldLink RX4 97 "BranchPredictor$Branch" "state" "I") (by decide +kernel)) dX4_learnLoop_31 ?_
      refine lv_iconst (v := 2) hx hb dX4_learnLoop_34 (by decide) ?_
      refine lv_icmp_ne (tgt := 54) hx hb dX4_learnLoop_35 (by decide) (fun c_3 => ?_) (fun c_3 => ?_)
      · skip
        exact k_vret hx hb hr hlocks hK hw rfl (by unfold fX4_learnLoop; rw [if_pos c_1, if_pos c_2, if_neg c_3]) dX4_learnLoop_54
      · skip
        refine lv_aload_n hx hb dX4_learnLoop_38 rfl (lv_at hl 1 rfl) ?_
        refine g_0_6 hx hb hts hiX4 hown hK hw kC_0 (hts (.fieldLink RX4 40 "BranchPredictor" "loops" "[LBranchPredictor$Loop;") (by decide +kernel)) dX4_learnLoop_39 ?_
        refine lv_aload_n hx hb dX4_learnLoop_42 rfl (lv_at hl 1 rfl) ?_
        refine k_callV (C := RX4) (n := 0) (rest := [.ref (G.2.2 (6, 0))]) ⟨hx, hb, hml, hown, hts⟩ (cX4c_numberForNewLoop l G Z S) (cwV 0 hts gX4_learnLoop_X4_numberForNewLoop rfl rfl rfl (by decide +kernel) ⟨Nat.le_of_ble_eq_true rfl, Nat.le_of_ble_eq_true rfl⟩) (k_recv hK hw kC_0 rfl rfl) hK hN hZ hA hw (Nat.zero_le _) (Nat.zero_le _) rfl hl.1 rfl (Nat.le_of_ble_eq_true rfl) dX4_learnLoop_43 (fun H locs hw => ?_)
        refine W.eq (g2 := F0 m 46 ls [.int ((lX4_number 8 0 0 S)), .ref (G.2.2 (6, 0))]) rfl ?_
        refine ald_6 hx hb hK hw kC_6 (lN_in S) dX4_learnLoop_46 ?_
        refine lv_aload_n hx hb dX4_learnLoop_47 rfl (lv_at hl 2 rfl) ?_
        refine g_8_0 hx hb hts hiX1 hown hK hw (kC_8 h_k3) (hts (.fieldLink RX4 126 "BranchPredictor$Branch" "place" "I") (by decide +kernel)) dX4_learnLoop_48 ?_
        refine k_callV (C := RX3) (n := 1) (rest := []) ⟨hx, hb, hml, hown, hts⟩ (cX3c_startAnew l G Z S ((lX4_number 8 0 0 S).toNatClampNeg) (vp_lt (lN_in S)) (S.1 8 k3 0)) (cwV 1 hts gX4_learnLoop_X3_startAnew rfl rfl rfl (by decide +kernel) ⟨Nat.le_of_ble_eq_true rfl, Nat.le_of_ble_eq_true rfl⟩) (k_recv hK hw (kC_9 (vp_lt (lN_in S))) rfl rfl) hK hN hZ hA hw (Nat.zero_le _) (Nat.zero_le _) rfl hl.1 rfl (Nat.le_of_ble_eq_true rfl) dX4_learnLoop_51 (fun H locs hw => ?_)
        refine W.eq (g2 := F0 m 54 ls []) rfl ?_
        exact k_vret hx hb hr hlocks hK hw rfl (by unfold fX4_learnLoop; rw [if_pos c_1, if_pos c_2, if_pos c_3]) dX4_learnLoop_54
  · skip
    refine lv_aload_n hx hb dX4_learnLoop_13 rfl (lv_at hl 1 rfl) ?_
    refine g_0_6 hx hb hts hiX4 hown hK hw kC_0 (hts (.fieldLink RX4 40 "BranchPredictor" "loops" "[LBranchPredictor$Loop;") (by decide +kernel)) dX4_learnLoop_14 ?_
    refine lv_iload_n hx hb dX4_learnLoop_17 rfl (lv_at hl 0 rfl) ?_
    refine ald_6 hx hb hK hw kC_6 (lW_in c_1) dX4_learnLoop_18 ?_
    refine lv_iload_n hx hb dX4_learnLoop_19 rfl (lv_at hl 3 rfl) ?_
    refine k_callV (C := RX3) (n := 1) (rest := []) ⟨hx, hb, hml, hown, hts⟩ (cX3c_learn l G Z S ((lX4_loopWith (S.1 8 k3 0) 8 0 S).toNatClampNeg) (vp_lt (lW_in c_1)) b1) (cwV 1 hts gX4_learnLoop_X3_learn rfl rfl rfl (by decide +kernel) ⟨Nat.le_of_ble_eq_true rfl, Nat.le_of_ble_eq_true rfl⟩) (k_recv hK hw (kC_9 (vp_lt (lW_in c_1))) rfl rfl) hK hN hZ hA hw (Nat.zero_le _) (Nat.zero_le _) rfl hl.1 rfl (Nat.le_of_ble_eq_true rfl) dX4_learnLoop_20 (fun H locs hw => ?_)
    refine W.eq (g2 := F0 m 23 ls []) rfl ?_
    refine lv_goto (tgt := 54) hx hb dX4_learnLoop_23 (by decide) ?_
    exact k_vret hx hb hr hlocks hK hw rfl (by unfold fX4_learnLoop; rw [if_neg c_1]) dX4_learnLoop_54
