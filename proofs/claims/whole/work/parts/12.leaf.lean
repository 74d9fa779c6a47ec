theorem tsw_ne {x : Int32} {k : Int32} (h : ¬ x = k) : x.toInt ≠ k.toInt := fun q => h (Int32.toInt_inj.mp q)
theorem tsw_3 {x : Int32} (h0 : ¬ x = 0) (h1 : ¬ x = 1) (h2 : ¬ x = 2) : x.toInt < 0 ∨ 2 < x.toInt := by
  have a0 : x.toInt ≠ 0 := tsw_ne h0
  have a1 : x.toInt ≠ 1 := tsw_ne h1
  have a2 : x.toInt ≠ 2 := tsw_ne h2
  omega
theorem tsw_4 {x : Int32} (h0 : ¬ x = 0) (h1 : ¬ x = 1) (h2 : ¬ x = 2) (h3 : ¬ x = 3) : x.toInt < 0 ∨ 3 < x.toInt := by
  have a0 : x.toInt ≠ 0 := tsw_ne h0
  have a1 : x.toInt ≠ 1 := tsw_ne h1
  have a2 : x.toInt ≠ 2 := tsw_ne h2
  have a3 : x.toInt ≠ 3 := tsw_ne h3
  omega
abbrev rmX2_indexFor : Room := { frames := 0, cells := 0, slots := 0, locals := 0 }
set_option maxHeartbeats 4000000 in
set_option maxRecDepth 100000 in
theorem cX2c_indexFor (l : Launch) (G : gG) (Z : va_W) (S : uS) (k1 : Nat) (h_k1 : k1 < 3) (x1 : Int32) : kMet l yX2_indexFor wsX2_indexFor rmX2_indexFor G kC Z S [.ref (G.2.2 (1, k1)), .int (x1)] (some (.int (x1 &&& ((S.1 1 k1 1) - (1 : Int32))))) S := by
  refine kMet_of (cc := cX2_indexFor) (maxL := 2) (ret := (some .int)) (by decide) rfl (Nat.le_of_ble_eq_true rfl) ?_
  intro p e s m below meth c hx hb hr hml hlocks hts hown hK hN A hZ hA H locs hw ls hl
  have hl : lv_has ls 2 [(0, .ref (G.2.2 (1, k1))), (1, .int (x1))] := hl
  have hiX2 : ∀ w ∈ wsX20, w ∈ wsX2_indexFor := by decide +kernel
  refine lv_iload_n hx hb dX2_indexFor_0 rfl (lv_at hl 1 rfl) ?_
  refine lv_aload_n hx hb dX2_indexFor_1 rfl (lv_at hl 0 rfl) ?_
  refine g_1_1 hx hb hts hiX2 hown hK hw (kC_1 h_k1) (hts (.fieldLink RX2 15 "BranchPredictor$CounterTable" "size" "I") (by decide +kernel)) dX2_indexFor_2 ?_
  refine lv_iconst (v := 1) hx hb dX2_indexFor_5 (by decide) ?_
  refine lv_isub hx hb dX2_indexFor_6 ?_
  refine lv_iand hx hb dX2_indexFor_7 ?_
  exact k_iret hx hb hr hlocks hK hw rfl rfl dX2_indexFor_8
abbrev rmX2_valueAt : Room := { frames := 0, cells := 0, slots := 0, locals := 0 }
set_option maxHeartbeats 4000000 in
set_option maxRecDepth 100000 in
theorem cX2c_valueAt (l : Launch) (G : gG) (Z : va_W) (S : uS) (k1 : Nat) (h_k1 : k1 < 3) (x1 : Int32) : kMet l yX2_valueAt wsX2_valueAt rmX2_valueAt G kC Z S [.ref (G.2.2 (1, k1)), .int (x1)] (some (.int (S.1 2 k1 ((x1 &&& (255 : Int32)).toNatClampNeg)))) S := by
  refine kMet_of (cc := cX2_valueAt) (maxL := 2) (ret := (some .int)) (by decide) rfl (Nat.le_of_ble_eq_true rfl) ?_
  intro p e s m below meth c hx hb hr hml hlocks hts hown hK hN A hZ hA H locs hw ls hl
  have hl : lv_has ls 2 [(0, .ref (G.2.2 (1, k1))), (1, .int (x1))] := hl
  have hiX2 : ∀ w ∈ wsX20, w ∈ wsX2_valueAt := by decide +kernel
  refine lv_aload_n hx hb dX2_valueAt_0 rfl (lv_at hl 0 rfl) ?_
  refine g_1_0 hx hb hts hiX2 hown hK hw (kC_1 h_k1) (hts (.fieldLink RX2 9 "BranchPredictor$CounterTable" "values" "[I") (by decide +kernel)) dX2_valueAt_1 ?_
  refine lv_iload_n hx hb dX2_valueAt_4 rfl (lv_at hl 1 rfl) ?_
  refine lv_sipush (v := 255) hx hb dX2_valueAt_5 (by decide) ?_
  refine lv_iand hx hb dX2_valueAt_8 ?_
  refine ld_2 hx hb hK hw (kC_2 h_k1) (pk_andIn _ 8 (by decide) (by decide)) dX2_valueAt_9 ?_
  exact k_iret hx hb hr hlocks hK hw rfl rfl dX2_valueAt_10
def fX2_saysTaken (S : uS) (k1 : Nat) (x1 : Int32) : Bool :=
  if (S.1 2 k1 ((x1 &&& (255 : Int32)).toNatClampNeg)) < (2 : Int32) then false else true
abbrev rmX2_saysTaken : Room := { frames := 1, cells := 0, slots := 0, locals := 21 }
set_option maxHeartbeats 4000000 in
set_option maxRecDepth 100000 in
theorem cX2c_saysTaken (l : Launch) (G : gG) (Z : va_W) (S : uS) (k1 : Nat) (h_k1 : k1 < 3) (x1 : Int32) : kMet l yX2_saysTaken wsX2_saysTaken rmX2_saysTaken G kC Z S [.ref (G.2.2 (1, k1)), .int (x1)] (some (.int (bI ((fX2_saysTaken S k1 x1))))) S := by
  refine kMet_of (cc := cX2_saysTaken) (maxL := 2) (ret := (some .boolean)) (by decide) rfl (Nat.le_of_ble_eq_true rfl) ?_
  intro p e s m below meth c hx hb hr hml hlocks hts hown hK hN A hZ hA H locs hw ls hl
  have hl : lv_has ls 2 [(0, .ref (G.2.2 (1, k1))), (1, .int (x1))] := hl
  refine lv_aload_n hx hb dX2_saysTaken_0 rfl (lv_at hl 0 rfl) ?_
  refine lv_iload_n hx hb dX2_saysTaken_1 rfl (lv_at hl 1 rfl) ?_
  refine k_callV (C := RX2) (n := 1) (rest := []) ⟨hx, hb, hml, hown, hts⟩ (cX2c_valueAt l G Z S k1 h_k1 x1) (cwV 1 hts gX2_saysTaken_X2_valueAt rfl rfl rfl (by decide +kernel) ⟨Nat.le_of_ble_eq_true rfl, Nat.le_of_ble_eq_true rfl⟩) (k_recv hK hw (kC_1 h_k1) rfl rfl) hK hN hZ hA hw (Nat.zero_le _) (Nat.zero_le _) rfl hl.1 rfl (Nat.le_of_ble_eq_true rfl) dX2_saysTaken_2 (fun H locs hw => ?_)
  refine W.eq (g2 := F0 m 5 ls [.int (S.1 2 k1 ((x1 &&& (255 : Int32)).toNatClampNeg))]) rfl ?_
  refine lv_iconst (v := 2) hx hb dX2_saysTaken_5 (by decide) ?_
  refine k_join (P := fun x9 : Bool => W p l e rmX2_saysTaken s m [.ref (G.2.2 (1, k1)), .int (x1)].toArray below meth c H locs 0 0 (MQ below (kQ G kC Z A (some (.int (bI ((fX2_saysTaken S k1 x1))))) S) [.ref (G.2.2 (1, k1)), .int (x1)].toArray s 0 0 A) (F0 m 14 ls [.int (bI (x9))])) (C := (S.1 2 k1 ((x1 &&& (255 : Int32)).toNatClampNeg)) < (2 : Int32)) (a := false) (b := true) ?_ (fun ka kb => ?_)
  rotate_left
  · refine lv_icmp_lt (tgt := 13) hx hb dX2_saysTaken_6 (by decide) (fun c_1 => ?_) (fun c_1 => ?_)
    · skip
      refine lv_iconst (v := 0) hx hb dX2_saysTaken_13 (by decide) ?_
      exact ka c_1
    · skip
      refine lv_iconst (v := 1) hx hb dX2_saysTaken_9 (by decide) ?_
      refine lv_goto (tgt := 14) hx hb dX2_saysTaken_10 (by decide) ?_
      exact kb c_1
  show W p l e rmX2_saysTaken s m [.ref (G.2.2 (1, k1)), .int (x1)].toArray below meth c H locs 0 0 (MQ below (kQ G kC Z A (some (.int (bI ((fX2_saysTaken S k1 x1))))) S) [.ref (G.2.2 (1, k1)), .int (x1)].toArray s 0 0 A) (F0 m 14 ls [.int (bI (if (S.1 2 k1 ((x1 &&& (255 : Int32)).toNatClampNeg)) < (2 : Int32) then false else true))])
  exact k_zret (r := if (S.1 2 k1 ((x1 &&& (255 : Int32)).toNatClampNeg)) < (2 : Int32) then false else true) hx hb hr hlocks hK hw (congrArg (fun z : Bool => some (Value.int (bI (z)))) (show (fX2_saysTaken S k1 x1) = if (S.1 2 k1 ((x1 &&& (255 : Int32)).toNatClampNeg)) < (2 : Int32) then false else true from by unfold fX2_saysTaken; rfl)) rfl dX2_saysTaken_14
def fX2_move (S : uS) (k1 : Nat) (x1 : Int32) (b1 : Bool) : uS :=
  if b1 = false then (uI S 2 k1 ((x1 &&& (255 : Int32)).toNatClampNeg) (if ((S.1 2 k1 ((x1 &&& (255 : Int32)).toNatClampNeg)) - (1 : Int32)) < (0 : Int32) then (0 : Int32) else ((S.1 2 k1 ((x1 &&& (255 : Int32)).toNatClampNeg)) - (1 : Int32))))
  else (uI S 2 k1 ((x1 &&& (255 : Int32)).toNatClampNeg) (if (3 : Int32) < ((S.1 2 k1 ((x1 &&& (255 : Int32)).toNatClampNeg)) + (1 : Int32)) then (3 : Int32) else ((S.1 2 k1 ((x1 &&& (255 : Int32)).toNatClampNeg)) + (1 : Int32))))
abbrev rmX2_move : Room := { frames := 1, cells := 0, slots := 0, locals := 21 }
set_option maxHeartbeats 4000000 in
set_option maxRecDepth 100000 in
theorem cX2c_move (l : Launch) (G : gG) (Z : va_W) (S : uS) (k1 : Nat) (h_k1 : k1 < 3) (x1 : Int32) (b1 : Bool) : kMet l yX2_move wsX2_move rmX2_move G kC Z S [.ref (G.2.2 (1, k1)), .int (x1), .int (bI (b1))] none (fX2_move S k1 x1 b1) := by
  refine kMet_of (cc := cX2_move) (maxL := 5) (ret := none) (by decide) rfl (Nat.le_of_ble_eq_true rfl) ?_
  intro p e s m below meth c hx hb hr hml hlocks hts hown hK hN A hZ hA H locs hw ls hl
  have hl : lv_has ls 5 [(0, .ref (G.2.2 (1, k1))), (1, .int (x1)), (2, .int (bI (b1)))] := hl
  have hiX2 : ∀ w ∈ wsX20, w ∈ wsX2_move := by decide +kernel
  refine lv_aload_n hx hb dX2_move_0 rfl (lv_at hl 0 rfl) ?_
  refine lv_iload_n hx hb dX2_move_1 rfl (lv_at hl 1 rfl) ?_
  refine k_callV (C := RX2) (n := 1) (rest := []) ⟨hx, hb, hml, hown, hts⟩ (cX2c_valueAt l G Z S k1 h_k1 x1) (cwV 1 hts gX2_move_X2_valueAt rfl rfl rfl (by decide +kernel) ⟨Nat.le_of_ble_eq_true rfl, Nat.le_of_ble_eq_true rfl⟩) (k_recv hK hw (kC_1 h_k1) rfl rfl) hK hN hZ hA hw (Nat.zero_le _) (Nat.zero_le _) rfl hl.1 rfl (Nat.le_of_ble_eq_true rfl) dX2_move_2 (fun H locs hw => ?_)
  refine W.eq (g2 := F0 m 5 ls [.int (S.1 2 k1 ((x1 &&& (255 : Int32)).toNatClampNeg))]) rfl ?_
  refine lv_istore_n (lv' := [(3, .int (S.1 2 k1 ((x1 &&& (255 : Int32)).toNatClampNeg))), (0, .ref (G.2.2 (1, k1))), (1, .int (x1)), (2, .int (bI (b1)))]) hx hb dX2_move_5 rfl hl (by decide) rfl (fun ls hl => ?_)
  refine lv_iload_n hx hb dX2_move_6 rfl (lv_at hl 3 rfl) ?_
  refine k_if_eq (b := b1) (tgt := 20) hx hb dX2_move_7 (by decide) (fun c_1 => ?_) (fun c_1 => ?_)
  · skip
    refine lv_iload_n hx hb dX2_move_20 rfl (lv_at hl 0 rfl) ?_
    refine lv_iconst (v := 1) hx hb dX2_move_21 (by decide) ?_
    refine lv_isub hx hb dX2_move_22 ?_
    refine lv_iconst (v := 0) hx hb dX2_move_23 (by decide) ?_
    refine va_mmax hx hb (hml.trans hl.1.symm) hown (hts (.methodLink RX2 29 Lib.Math.max.name) (by decide +kernel)) (hts (.static Lib.Math.max.name) (by decide +kernel)) (hts (.initialized "java/lang/Math") (by decide +kernel)) (hts (.code Lib.Math.max.name Lib.Math.max.code 2 (some .int)) (by decide +kernel)) (Nat.le_of_ble_eq_true rfl) (Nat.le_of_ble_eq_true rfl) (Nat.zero_le _) (Nat.zero_le _) dX2_move_24 ?_
    refine lv_istore (lv' := [(4, .int (if ((S.1 2 k1 ((x1 &&& (255 : Int32)).toNatClampNeg)) - (1 : Int32)) < (0 : Int32) then (0 : Int32) else ((S.1 2 k1 ((x1 &&& (255 : Int32)).toNatClampNeg)) - (1 : Int32)))), (3, .int (S.1 2 k1 ((x1 &&& (255 : Int32)).toNatClampNeg))), (0, .ref (G.2.2 (1, k1))), (1, .int (x1)), (2, .int (bI (b1)))]) hx hb dX2_move_27 hl (by decide) rfl (fun ls hl => ?_)
    refine lv_aload_n hx hb dX2_move_29 rfl (lv_at hl 2 rfl) ?_
    refine g_1_0 hx hb hts hiX2 hown hK hw (kC_1 h_k1) (hts (.fieldLink RX2 9 "BranchPredictor$CounterTable" "values" "[I") (by decide +kernel)) dX2_move_30 ?_
    refine lv_iload_n hx hb dX2_move_33 rfl (lv_at hl 3 rfl) ?_
    refine lv_sipush (v := 255) hx hb dX2_move_34 (by decide) ?_
    refine lv_iand hx hb dX2_move_37 ?_
    refine lv_iload hx hb dX2_move_38 (lv_at hl 0 rfl) ?_
    refine st_2 (x := if ((S.1 2 k1 ((x1 &&& (255 : Int32)).toNatClampNeg)) - (1 : Int32)) < (0 : Int32) then (0 : Int32) else ((S.1 2 k1 ((x1 &&& (255 : Int32)).toNatClampNeg)) - (1 : Int32))) hx hb hK hw (kC_2 h_k1) (pk_andIn _ 8 (by decide) (by decide)) dX2_move_40 (fun H locs hw => ?_)
    exact k_vret hx hb hr hlocks hK hw rfl (by unfold fX2_move; rw [if_pos c_1]) dX2_move_41
  · skip
    refine lv_iload_n hx hb dX2_move_10 rfl (lv_at hl 0 rfl) ?_
    refine lv_iconst (v := 1) hx hb dX2_move_11 (by decide) ?_
    refine lv_iadd hx hb dX2_move_12 ?_
    refine lv_iconst (v := 3) hx hb dX2_move_13 (by decide) ?_
    refine va_mmin hx hb (hml.trans hl.1.symm) hown (hts (.methodLink RX2 23 Lib.Math.min.name) (by decide +kernel)) (hts (.static Lib.Math.min.name) (by decide +kernel)) (hts (.initialized "java/lang/Math") (by decide +kernel)) (hts (.code Lib.Math.min.name Lib.Math.min.code 2 (some .int)) (by decide +kernel)) (Nat.le_of_ble_eq_true rfl) (Nat.le_of_ble_eq_true rfl) (Nat.zero_le _) (Nat.zero_le _) dX2_move_14 ?_
    refine lv_goto (tgt := 27) hx hb dX2_move_17 (by decide) ?_
    refine lv_istore (lv' := [(4, .int (if (3 : Int32) < ((S.1 2 k1 ((x1 &&& (255 : Int32)).toNatClampNeg)) + (1 : Int32)) then (3 : Int32) else ((S.1 2 k1 ((x1 &&& (255 : Int32)).toNatClampNeg)) + (1 : Int32)))), (3, .int (S.1 2 k1 ((x1 &&& (255 : Int32)).toNatClampNeg))), (0, .ref (G.2.2 (1, k1))), (1, .int (x1)), (2, .int (bI (b1)))]) hx hb dX2_move_27 hl (by decide) rfl (fun ls hl => ?_)
    refine lv_aload_n hx hb dX2_move_29 rfl (lv_at hl 2 rfl) ?_
    refine g_1_0 hx hb hts hiX2 hown hK hw (kC_1 h_k1) (hts (.fieldLink RX2 9 "BranchPredictor$CounterTable" "values" "[I") (by decide +kernel)) dX2_move_30 ?_
    refine lv_iload_n hx hb dX2_move_33 rfl (lv_at hl 3 rfl) ?_
    refine lv_sipush (v := 255) hx hb dX2_move_34 (by decide) ?_
    refine lv_iand hx hb dX2_move_37 ?_
    refine lv_iload hx hb dX2_move_38 (lv_at hl 0 rfl) ?_
    refine st_2 (x := if (3 : Int32) < ((S.1 2 k1 ((x1 &&& (255 : Int32)).toNatClampNeg)) + (1 : Int32)) then (3 : Int32) else ((S.1 2 k1 ((x1 &&& (255 : Int32)).toNatClampNeg)) + (1 : Int32))) hx hb hK hw (kC_2 h_k1) (pk_andIn _ 8 (by decide) (by decide)) dX2_move_40 (fun H locs hw => ?_)
    exact k_vret hx hb hr hlocks hK hw rfl (by unfold fX2_move; rw [if_neg c_1]) dX2_move_41
def fX0_note (S : uS) (k2 : Nat) (x1 : Int32) (x2 : Int32) (b1 : Bool) : uS :=
  if (S.1 4 k2 ((x1 &&& (255 : Int32)).toNatClampNeg)) = (-1 : Int32) then (uI S 4 k2 ((x1 &&& (255 : Int32)).toNatClampNeg) x2)
  else if (S.1 4 k2 ((x1 &&& (255 : Int32)).toNatClampNeg)) = x2 then (uI S 4 k2 ((x1 &&& (255 : Int32)).toNatClampNeg) x2)
    else if b1 = false then (uI (uL S 3 k2 1 ((S.2.1 3 k2 1) + (1 : Int64))) 4 k2 ((x1 &&& (255 : Int32)).toNatClampNeg) x2)
      else (uI (uL (uL S 3 k2 1 ((S.2.1 3 k2 1) + (1 : Int64))) 3 k2 2 ((S.2.1 3 k2 2) + (1 : Int64))) 4 k2 ((x1 &&& (255 : Int32)).toNatClampNeg) x2)
abbrev rmX0_note : Room := { frames := 0, cells := 0, slots := 0, locals := 0 }
set_option maxHeartbeats 4000000 in
set_option maxRecDepth 100000 in
theorem cX0c_note (l : Launch) (G : gG) (Z : va_W) (S : uS) (k2 : Nat) (h_k2 : k2 < 2) (x1 : Int32) (x2 : Int32) (b1 : Bool) : kMet l yX0_note wsX0_note rmX0_note G kC Z S [.ref (G.2.2 (3, k2)), .int (x1), .int (x2), .int (bI (b1))] none (fX0_note S k2 x1 x2 b1) := by
  refine kMet_of (cc := cX0_note) (maxL := 6) (ret := none) (by decide) rfl (Nat.le_of_ble_eq_true rfl) ?_
  intro p e s m below meth c hx hb hr hml hlocks hts hown hK hN A hZ hA H locs hw ls hl
  have hl : lv_has ls 6 [(0, .ref (G.2.2 (3, k2))), (1, .int (x1)), (2, .int (x2)), (3, .int (bI (b1)))] := hl
  have hiX0 : ∀ w ∈ wsX00, w ∈ wsX0_note := by decide +kernel
  refine lv_iload_n hx hb dX0_note_0 rfl (lv_at hl 1 rfl) ?_
  refine lv_sipush (v := 255) hx hb dX0_note_1 (by decide) ?_
  refine lv_iand hx hb dX0_note_4 ?_
  refine lv_istore (lv' := [(4, .int (x1 &&& (255 : Int32))), (0, .ref (G.2.2 (3, k2))), (1, .int (x1)), (2, .int (x2)), (3, .int (bI (b1)))]) hx hb dX0_note_5 hl (by decide) rfl (fun ls hl => ?_)
  refine lv_aload_n hx hb dX0_note_7 rfl (lv_at hl 1 rfl) ?_
  refine g_3_0 hx hb hts hiX0 hown hK hw (kC_3 h_k2) (hts (.fieldLink RX0 9 "BranchPredictor$Audit" "latestPlaces" "[I") (by decide +kernel)) dX0_note_8 ?_
  refine lv_iload hx hb dX0_note_11 (lv_at hl 0 rfl) ?_
  refine ld_4 hx hb hK hw (kC_4 h_k2) (pk_andIn _ 8 (by decide) (by decide)) dX0_note_13 ?_
  refine lv_istore (lv' := [(5, .int (S.1 4 k2 ((x1 &&& (255 : Int32)).toNatClampNeg))), (4, .int (x1 &&& (255 : Int32))), (0, .ref (G.2.2 (3, k2))), (1, .int (x1)), (2, .int (x2)), (3, .int (bI (b1)))]) hx hb dX0_note_14 hl (by decide) rfl (fun ls hl => ?_)
  refine lv_iload hx hb dX0_note_16 (lv_at hl 0 rfl) ?_
  refine lv_iconst (v := -1) hx hb dX0_note_18 (by decide) ?_
  refine lv_icmp_eq (tgt := 52) hx hb dX0_note_19 (by decide) (fun c_1 => ?_) (fun c_1 => ?_)
  · skip
    refine lv_aload_n hx hb dX0_note_52 rfl (lv_at hl 2 rfl) ?_
    refine g_3_0 hx hb hts hiX0 hown hK hw (kC_3 h_k2) (hts (.fieldLink RX0 9 "BranchPredictor$Audit" "latestPlaces" "[I") (by decide +kernel)) dX0_note_53 ?_
    refine lv_iload hx hb dX0_note_56 (lv_at hl 1 rfl) ?_
    refine lv_iload_n hx hb dX0_note_58 rfl (lv_at hl 4 rfl) ?_
    refine st_4 (x := x2) hx hb hK hw (kC_4 h_k2) (pk_andIn _ 8 (by decide) (by decide)) dX0_note_59 (fun H locs hw => ?_)
    exact k_vret hx hb hr hlocks hK hw rfl (by unfold fX0_note; rw [if_pos c_1]) dX0_note_60
  · skip
    refine lv_iload hx hb dX0_note_22 (lv_at hl 0 rfl) ?_
    refine lv_iload_n hx hb dX0_note_24 rfl (lv_at hl 4 rfl) ?_
    refine lv_icmp_eq (tgt := 52) hx hb dX0_note_25 (by decide) (fun c_2 => ?_) (fun c_2 => ?_)
    · skip
      refine lv_aload_n hx hb dX0_note_52 rfl (lv_at hl 2 rfl) ?_
      refine g_3_0 hx hb hts hiX0 hown hK hw (kC_3 h_k2) (hts (.fieldLink RX0 9 "BranchPredictor$Audit" "latestPlaces" "[I") (by decide +kernel)) dX0_note_53 ?_
      refine lv_iload hx hb dX0_note_56 (lv_at hl 1 rfl) ?_
      refine lv_iload_n hx hb dX0_note_58 rfl (lv_at hl 4 rfl) ?_
      refine st_4 (x := x2) hx hb hK hw (kC_4 h_k2) (pk_andIn _ 8 (by decide) (by decide)) dX0_note_59 (fun H locs hw => ?_)
      exact k_vret hx hb hr hlocks hK hw rfl (by unfold fX0_note; rw [if_neg c_1, if_pos c_2]) dX0_note_60
    · skip
      refine lv_aload_n hx hb dX0_note_28 rfl (lv_at hl 2 rfl) ?_
      refine lv_dup hx hb dX0_note_29 rfl ?_
      refine g_3_1 hx hb hts hiX0 hown hK hw (kC_3 h_k2) (hts (.fieldLink RX0 15 "BranchPredictor$Audit" "allMeetings" "J") (by decide +kernel)) dX0_note_30 ?_
      refine lv_lconst (v := 1) hx hb dX0_note_33 (by decide) ?_
      refine lv_ladd hx hb dX0_note_34 ?_
      refine p_3_1 (v := (S.2.1 3 k2 1) + (1 : Int64)) hx hb hts hiX0 hown hK hw (kC_3 h_k2) (hts (.fieldLink RX0 15 "BranchPredictor$Audit" "allMeetings" "J") (by decide +kernel)) dX0_note_35 (fun H locs hw => ?_)
      refine lv_iload_n hx hb dX0_note_38 rfl (lv_at hl 5 rfl) ?_
      refine k_if_eq (b := b1) (tgt := 52) hx hb dX0_note_39 (by decide) (fun c_3 => ?_) (fun c_3 => ?_)
      · skip
        refine lv_aload_n hx hb dX0_note_52 rfl (lv_at hl 2 rfl) ?_
        refine g_3_0 hx hb hts hiX0 hown hK hw (kC_3 h_k2) (hts (.fieldLink RX0 9 "BranchPredictor$Audit" "latestPlaces" "[I") (by decide +kernel)) dX0_note_53 ?_
        refine lv_iload hx hb dX0_note_56 (lv_at hl 1 rfl) ?_
        refine lv_iload_n hx hb dX0_note_58 rfl (lv_at hl 4 rfl) ?_
        refine st_4 (x := x2) hx hb hK hw (kC_4 h_k2) (pk_andIn _ 8 (by decide) (by decide)) dX0_note_59 (fun H locs hw => ?_)
        exact k_vret hx hb hr hlocks hK hw rfl (by unfold fX0_note; rw [if_neg c_1, if_neg c_2, if_pos c_3]) dX0_note_60
      · skip
        refine lv_aload_n hx hb dX0_note_42 rfl (lv_at hl 2 rfl) ?_
        refine lv_dup hx hb dX0_note_43 rfl ?_
        refine g_3_2 hx hb hts hiX0 hown hK hw (kC_3 h_k2) (hts (.fieldLink RX0 19 "BranchPredictor$Audit" "harmfulMeetings" "J") (by decide +kernel)) dX0_note_44 ?_
        refine k_topl (z := S.2.1 3 k2 2) (by simp [uI, uL, uF]) ?_
        refine lv_lconst (v := 1) hx hb dX0_note_47 (by decide) ?_
        refine lv_ladd hx hb dX0_note_48 ?_
        refine p_3_2 (v := (S.2.1 3 k2 2) + (1 : Int64)) hx hb hts hiX0 hown hK hw (kC_3 h_k2) (hts (.fieldLink RX0 19 "BranchPredictor$Audit" "harmfulMeetings" "J") (by decide +kernel)) dX0_note_49 (fun H locs hw => ?_)
        refine lv_aload_n hx hb dX0_note_52 rfl (lv_at hl 2 rfl) ?_
        refine g_3_0 hx hb hts hiX0 hown hK hw (kC_3 h_k2) (hts (.fieldLink RX0 9 "BranchPredictor$Audit" "latestPlaces" "[I") (by decide +kernel)) dX0_note_53 ?_
        refine lv_iload hx hb dX0_note_56 (lv_at hl 1 rfl) ?_
        refine lv_iload_n hx hb dX0_note_58 rfl (lv_at hl 4 rfl) ?_
        refine st_4 (x := x2) hx hb hK hw (kC_4 h_k2) (pk_andIn _ 8 (by decide) (by decide)) dX0_note_59 (fun H locs hw => ?_)
        exact k_vret hx hb hr hlocks hK hw rfl (by unfold fX0_note; rw [if_neg c_1, if_neg c_2, if_neg c_3]) dX0_note_60
def fX1_saidTaken (S : uS) (k3 : Nat) (x1 : Int32) : Bool :=
  if x1 = (0 : Int32) then S.2.2 8 k3 5
  else if x1 = (1 : Int32) then S.2.2 8 k3 6
    else if x1 = (2 : Int32) then S.2.2 8 k3 7
      else S.2.2 8 k3 8
abbrev rmX1_saidTaken : Room := { frames := 0, cells := 0, slots := 0, locals := 0 }
set_option maxHeartbeats 4000000 in
set_option maxRecDepth 100000 in
theorem cX1c_saidTaken (l : Launch) (G : gG) (Z : va_W) (S : uS) (k3 : Nat) (h_k3 : k3 < 16) (x1 : Int32) : kMet l yX1_saidTaken wsX1_saidTaken rmX1_saidTaken G kC Z S [.ref (G.2.2 (8, k3)), .int (x1)] (some (.int (bI ((fX1_saidTaken S k3 x1))))) S := by
  refine kMet_of (cc := cX1_saidTaken) (maxL := 2) (ret := (some .boolean)) (by decide) rfl (Nat.le_of_ble_eq_true rfl) ?_
  intro p e s m below meth c hx hb hr hml hlocks hts hown hK hN A hZ hA H locs hw ls hl
  have hl : lv_has ls 2 [(0, .ref (G.2.2 (8, k3))), (1, .int (x1))] := hl
  have hiX1 : ∀ w ∈ wsX10, w ∈ wsX1_saidTaken := by decide +kernel
  refine lv_iload_n hx hb dX1_saidTaken_0 rfl (lv_at hl 1 rfl) ?_
  by_cases c_1 : x1 = (0 : Int32)
  · refine lv_tableIn (off := 27) (tgt := 28) hx hb dX1_saidTaken_1 (by rw [c_1]; decide) (by rw [c_1]; decide) (by rw [c_1]; rfl) (by decide) ?_
    refine lv_aload_n hx hb dX1_saidTaken_28 rfl (lv_at hl 0 rfl) ?_
    refine g_8_5 hx hb hts hiX1 hown hK hw (kC_8 h_k3) (hts (.fieldLink RX1 9 "BranchPredictor$Branch" "isPlainTaken" "Z") (by decide +kernel)) dX1_saidTaken_29 ?_
    exact k_zret (r := S.2.2 8 k3 5) hx hb hr hlocks hK hw (congrArg (fun z : Bool => some (Value.int (bI (z)))) (show (fX1_saidTaken S k3 x1) = S.2.2 8 k3 5 from by unfold fX1_saidTaken; rw [if_pos c_1])) rfl dX1_saidTaken_32
  · skip
    by_cases c_2 : x1 = (1 : Int32)
    · refine lv_tableIn (off := 32) (tgt := 33) hx hb dX1_saidTaken_1 (by rw [c_2]; decide) (by rw [c_2]; decide) (by rw [c_2]; rfl) (by decide) ?_
      refine lv_aload_n hx hb dX1_saidTaken_33 rfl (lv_at hl 0 rfl) ?_
      refine g_8_6 hx hb hts hiX1 hown hK hw (kC_8 h_k3) (hts (.fieldLink RX1 15 "BranchPredictor$Branch" "isGlobalTaken" "Z") (by decide +kernel)) dX1_saidTaken_34 ?_
      exact k_zret (r := S.2.2 8 k3 6) hx hb hr hlocks hK hw (congrArg (fun z : Bool => some (Value.int (bI (z)))) (show (fX1_saidTaken S k3 x1) = S.2.2 8 k3 6 from by unfold fX1_saidTaken; rw [if_neg c_1, if_pos c_2])) rfl dX1_saidTaken_37
    · skip
      by_cases c_3 : x1 = (2 : Int32)
      · refine lv_tableIn (off := 37) (tgt := 38) hx hb dX1_saidTaken_1 (by rw [c_3]; decide) (by rw [c_3]; decide) (by rw [c_3]; rfl) (by decide) ?_
        refine lv_aload_n hx hb dX1_saidTaken_38 rfl (lv_at hl 0 rfl) ?_
        refine g_8_7 hx hb hts hiX1 hown hK hw (kC_8 h_k3) (hts (.fieldLink RX1 18 "BranchPredictor$Branch" "isChoiceTaken" "Z") (by decide +kernel)) dX1_saidTaken_39 ?_
        exact k_zret (r := S.2.2 8 k3 7) hx hb hr hlocks hK hw (congrArg (fun z : Bool => some (Value.int (bI (z)))) (show (fX1_saidTaken S k3 x1) = S.2.2 8 k3 7 from by unfold fX1_saidTaken; rw [if_neg c_1, if_neg c_2, if_pos c_3])) rfl dX1_saidTaken_42
      · skip
        refine lv_tableOut (tgt := 43) hx hb dX1_saidTaken_1 (tsw_3 c_1 c_2 c_3) (by decide) ?_
        refine lv_aload_n hx hb dX1_saidTaken_43 rfl (lv_at hl 0 rfl) ?_
        refine g_8_8 hx hb hts hiX1 hown hK hw (kC_8 h_k3) (hts (.fieldLink RX1 21 "BranchPredictor$Branch" "isPredictedTaken" "Z") (by decide +kernel)) dX1_saidTaken_44 ?_
        exact k_zret (r := S.2.2 8 k3 8) hx hb hr hlocks hK hw (congrArg (fun z : Bool => some (Value.int (bI (z)))) (show (fX1_saidTaken S k3 x1) = S.2.2 8 k3 8 from by unfold fX1_saidTaken; rw [if_neg c_1, if_neg c_2, if_neg c_3])) rfl dX1_saidTaken_47
def fX1_isPresumedTaken (S : uS) (k3 : Nat) : Bool :=
  if (if (S.1 8 k3 1) = (2 : Int32) then true else false) = (S.2.2 8 k3 8) then false else true
abbrev rmX1_isPresumedTaken : Room := { frames := 0, cells := 0, slots := 0, locals := 0 }
set_option maxHeartbeats 4000000 in
set_option maxRecDepth 100000 in
theorem cX1c_isPresumedTaken (l : Launch) (G : gG) (Z : va_W) (S : uS) (k3 : Nat) (h_k3 : k3 < 16) : kMet l yX1_isPresumedTaken wsX1_isPresumedTaken rmX1_isPresumedTaken G kC Z S [.ref (G.2.2 (8, k3))] (some (.int (bI ((fX1_isPresumedTaken S k3))))) S := by
  refine kMet_of (cc := cX1_isPresumedTaken) (maxL := 1) (ret := (some .boolean)) (by decide) rfl (Nat.le_of_ble_eq_true rfl) ?_
  intro p e s m below meth c hx hb hr hml hlocks hts hown hK hN A hZ hA H locs hw ls hl
  have hl : lv_has ls 1 [(0, .ref (G.2.2 (8, k3)))] := hl
  have hiX1 : ∀ w ∈ wsX10, w ∈ wsX1_isPresumedTaken := by decide +kernel
  refine lv_aload_n hx hb dX1_isPresumedTaken_0 rfl (lv_at hl 0 rfl) ?_
  refine g_8_1 hx hb hts hiX1 hown hK hw (kC_8 h_k3) (hts (.fieldLink RX1 24 "BranchPredictor$Branch" "state" "I") (by decide +kernel)) dX1_isPresumedTaken_1 ?_
  refine lv_iconst (v := 2) hx hb dX1_isPresumedTaken_4 (by decide) ?_
  refine k_join (P := fun x9 : Bool => W p l e rmX1_isPresumedTaken s m [.ref (G.2.2 (8, k3))].toArray below meth c H locs 0 0 (MQ below (kQ G kC Z A (some (.int (bI ((fX1_isPresumedTaken S k3))))) S) [.ref (G.2.2 (8, k3))].toArray s 0 0 A) (F0 m 13 ls [.int (bI (x9))])) (C := (S.1 8 k3 1) = (2 : Int32)) (a := true) (b := false) ?_ (fun ka kb => ?_)
  rotate_left
  · refine lv_icmp_ne (tgt := 12) hx hb dX1_isPresumedTaken_5 (by decide) (fun c_1 => ?_) (fun c_1 => ?_)
    · skip
      refine lv_iconst (v := 0) hx hb dX1_isPresumedTaken_12 (by decide) ?_
      exact kb c_1
    · skip
      refine lv_iconst (v := 1) hx hb dX1_isPresumedTaken_8 (by decide) ?_
      refine lv_goto (tgt := 13) hx hb dX1_isPresumedTaken_9 (by decide) ?_
      exact ka c_1
  show W p l e rmX1_isPresumedTaken s m [.ref (G.2.2 (8, k3))].toArray below meth c H locs 0 0 (MQ below (kQ G kC Z A (some (.int (bI ((fX1_isPresumedTaken S k3))))) S) [.ref (G.2.2 (8, k3))].toArray s 0 0 A) (F0 m 13 ls [.int (bI (if (S.1 8 k3 1) = (2 : Int32) then true else false))])
  refine lv_aload_n hx hb dX1_isPresumedTaken_13 rfl (lv_at hl 0 rfl) ?_
  refine g_8_8 hx hb hts hiX1 hown hK hw (kC_8 h_k3) (hts (.fieldLink RX1 21 "BranchPredictor$Branch" "isPredictedTaken" "Z") (by decide +kernel)) dX1_isPresumedTaken_14 ?_
  refine k_join (P := fun x9 : Bool => W p l e rmX1_isPresumedTaken s m [.ref (G.2.2 (8, k3))].toArray below meth c H locs 0 0 (MQ below (kQ G kC Z A (some (.int (bI ((fX1_isPresumedTaken S k3))))) S) [.ref (G.2.2 (8, k3))].toArray s 0 0 A) (F0 m 25 ls [.int (bI (x9))])) (C := (if (S.1 8 k3 1) = (2 : Int32) then true else false) = (S.2.2 8 k3 8)) (a := false) (b := true) ?_ (fun ka kb => ?_)
  rotate_left
  · refine k_icmp_eq (a := if (S.1 8 k3 1) = (2 : Int32) then true else false) (b := S.2.2 8 k3 8) (tgt := 24) hx hb dX1_isPresumedTaken_17 (by decide) (fun c_2 => ?_) (fun c_2 => ?_)
    · skip
      refine lv_iconst (v := 0) hx hb dX1_isPresumedTaken_24 (by decide) ?_
      exact ka c_2
    · skip
      refine lv_iconst (v := 1) hx hb dX1_isPresumedTaken_20 (by decide) ?_
      refine lv_goto (tgt := 25) hx hb dX1_isPresumedTaken_21 (by decide) ?_
      exact kb c_2
  show W p l e rmX1_isPresumedTaken s m [.ref (G.2.2 (8, k3))].toArray below meth c H locs 0 0 (MQ below (kQ G kC Z A (some (.int (bI ((fX1_isPresumedTaken S k3))))) S) [.ref (G.2.2 (8, k3))].toArray s 0 0 A) (F0 m 25 ls [.int (bI (if (if (S.1 8 k3 1) = (2 : Int32) then true else false) = (S.2.2 8 k3 8) then false else true))])
  exact k_zret (r := if (if (S.1 8 k3 1) = (2 : Int32) then true else false) = (S.2.2 8 k3 8) then false else true) hx hb hr hlocks hK hw (congrArg (fun z : Bool => some (Value.int (bI (z)))) (show (fX1_isPresumedTaken S k3) = if (if (S.1 8 k3 1) = (2 : Int32) then true else false) = (S.2.2 8 k3 8) then false else true from by unfold fX1_isPresumedTaken; rfl)) rfl dX1_isPresumedTaken_25
def fX3_isFree (S : uS) (k4 : Nat) : Bool :=
  if (S.1 9 k4 0) = (-1 : Int32) then true else false
abbrev rmX3_isFree : Room := { frames := 0, cells := 0, slots := 0, locals := 0 }
set_option maxHeartbeats 4000000 in
set_option maxRecDepth 100000 in
theorem cX3c_isFree (l : Launch) (G : gG) (Z : va_W) (S : uS) (k4 : Nat) (h_k4 : k4 < 8) : kMet l yX3_isFree wsX3_isFree rmX3_isFree G kC Z S [.ref (G.2.2 (9, k4))] (some (.int (bI ((fX3_isFree S k4))))) S := by
  refine kMet_of (cc := cX3_isFree) (maxL := 1) (ret := (some .boolean)) (by decide) rfl (Nat.le_of_ble_eq_true rfl) ?_
  intro p e s m below meth c hx hb hr hml hlocks hts hown hK hN A hZ hA H locs hw ls hl
  have hl : lv_has ls 1 [(0, .ref (G.2.2 (9, k4)))] := hl
  have hiX3 : ∀ w ∈ wsX30, w ∈ wsX3_isFree := by decide +kernel
  refine lv_aload_n hx hb dX3_isFree_0 rfl (lv_at hl 0 rfl) ?_
  refine g_9_0 hx hb hts hiX3 hown hK hw (kC_9 h_k4) (hts (.fieldLink RX3 9 "BranchPredictor$Loop" "place" "I") (by decide +kernel)) dX3_isFree_1 ?_
  refine lv_iconst (v := -1) hx hb dX3_isFree_4 (by decide) ?_
  refine k_join (P := fun x9 : Bool => W p l e rmX3_isFree s m [.ref (G.2.2 (9, k4))].toArray below meth c H locs 0 0 (MQ below (kQ G kC Z A (some (.int (bI ((fX3_isFree S k4))))) S) [.ref (G.2.2 (9, k4))].toArray s 0 0 A) (F0 m 13 ls [.int (bI (x9))])) (C := (S.1 9 k4 0) = (-1 : Int32)) (a := true) (b := false) ?_ (fun ka kb => ?_)
  rotate_left
  · refine lv_icmp_ne (tgt := 12) hx hb dX3_isFree_5 (by decide) (fun c_1 => ?_) (fun c_1 => ?_)
    · skip
      refine lv_iconst (v := 0) hx hb dX3_isFree_12 (by decide) ?_
      exact kb c_1
    · skip
      refine lv_iconst (v := 1) hx hb dX3_isFree_8 (by decide) ?_
      refine lv_goto (tgt := 13) hx hb dX3_isFree_9 (by decide) ?_
      exact ka c_1
  show W p l e rmX3_isFree s m [.ref (G.2.2 (9, k4))].toArray below meth c H locs 0 0 (MQ below (kQ G kC Z A (some (.int (bI ((fX3_isFree S k4))))) S) [.ref (G.2.2 (9, k4))].toArray s 0 0 A) (F0 m 13 ls [.int (bI (if (S.1 9 k4 0) = (-1 : Int32) then true else false))])
  exact k_zret (r := if (S.1 9 k4 0) = (-1 : Int32) then true else false) hx hb hr hlocks hK hw (congrArg (fun z : Bool => some (Value.int (bI (z)))) (show (fX3_isFree S k4) = if (S.1 9 k4 0) = (-1 : Int32) then true else false from by unfold fX3_isFree; rfl)) rfl dX3_isFree_13
def fX3_startAnew (S : uS) (k4 : Nat) (x1 : Int32) : uS :=
  (uI (uI (uI (uI S 9 k4 0 x1) 9 k4 1 (0 : Int32)) 9 k4 2 (0 : Int32)) 9 k4 3 (0 : Int32))
abbrev rmX3_startAnew : Room := { frames := 0, cells := 0, slots := 0, locals := 0 }
set_option maxHeartbeats 4000000 in
set_option maxRecDepth 100000 in
theorem cX3c_startAnew (l : Launch) (G : gG) (Z : va_W) (S : uS) (k4 : Nat) (h_k4 : k4 < 8) (x1 : Int32) : kMet l yX3_startAnew wsX3_startAnew rmX3_startAnew G kC Z S [.ref (G.2.2 (9, k4)), .int (x1)] none (fX3_startAnew S k4 x1) := by
  refine kMet_of (cc := cX3_startAnew) (maxL := 2) (ret := none) (by decide) rfl (Nat.le_of_ble_eq_true rfl) ?_
  intro p e s m below meth c hx hb hr hml hlocks hts hown hK hN A hZ hA H locs hw ls hl
  have hl : lv_has ls 2 [(0, .ref (G.2.2 (9, k4))), (1, .int (x1))] := hl
  have hiX3 : ∀ w ∈ wsX30, w ∈ wsX3_startAnew := by decide +kernel
  refine lv_aload_n hx hb dX3_startAnew_0 rfl (lv_at hl 0 rfl) ?_
  refine lv_iload_n hx hb dX3_startAnew_1 rfl (lv_at hl 1 rfl) ?_
  refine p_9_0 (v := x1) hx hb hts hiX3 hown hK hw (kC_9 h_k4) (hts (.fieldLink RX3 9 "BranchPredictor$Loop" "place" "I") (by decide +kernel)) dX3_startAnew_2 (fun H locs hw => ?_)
  refine lv_aload_n hx hb dX3_startAnew_5 rfl (lv_at hl 0 rfl) ?_
  refine lv_iconst (v := 0) hx hb dX3_startAnew_6 (by decide) ?_
  refine p_9_1 (v := (0 : Int32)) hx hb hts hiX3 hown hK hw (kC_9 h_k4) (hts (.fieldLink RX3 15 "BranchPredictor$Loop" "count" "I") (by decide +kernel)) dX3_startAnew_7 (fun H locs hw => ?_)
  refine lv_aload_n hx hb dX3_startAnew_10 rfl (lv_at hl 0 rfl) ?_
  refine lv_iconst (v := 0) hx hb dX3_startAnew_11 (by decide) ?_
  refine p_9_2 (v := (0 : Int32)) hx hb hts hiX3 hown hK hw (kC_9 h_k4) (hts (.fieldLink RX3 18 "BranchPredictor$Loop" "trip" "I") (by decide +kernel)) dX3_startAnew_12 (fun H locs hw => ?_)
  refine lv_aload_n hx hb dX3_startAnew_15 rfl (lv_at hl 0 rfl) ?_
  refine lv_iconst (v := 0) hx hb dX3_startAnew_16 (by decide) ?_
  refine p_9_3 (v := (0 : Int32)) hx hb hts hiX3 hown hK hw (kC_9 h_k4) (hts (.fieldLink RX3 21 "BranchPredictor$Loop" "trust" "I") (by decide +kernel)) dX3_startAnew_17 (fun H locs hw => ?_)
  exact k_vret hx hb hr hlocks hK hw rfl (by unfold fX3_startAnew; rfl) dX3_startAnew_20
def fX3_learn (S : uS) (k4 : Nat) (b1 : Bool) : uS :=
  if b1 = false then if (S.1 9 k4 2) = (0 : Int32) then (uI (uI (uI S 9 k4 2 (S.1 9 k4 1)) 9 k4 3 (0 : Int32)) 9 k4 1 (0 : Int32))
    else if (S.1 9 k4 2) = (S.1 9 k4 1) then (uI (uI S 9 k4 3 (if (3 : Int32) < ((S.1 9 k4 3) + (1 : Int32)) then (3 : Int32) else ((S.1 9 k4 3) + (1 : Int32)))) 9 k4 1 (0 : Int32))
      else (uI (uI (uI S 9 k4 2 (S.1 9 k4 1)) 9 k4 3 (0 : Int32)) 9 k4 1 (0 : Int32))
  else if ((S.1 9 k4 1) + (1 : Int32)) ≤ (1000 : Int32) then (uI S 9 k4 1 ((S.1 9 k4 1) + (1 : Int32)))
    else (uI (uI S 9 k4 1 ((S.1 9 k4 1) + (1 : Int32))) 9 k4 0 (-1 : Int32))
abbrev rmX3_learn : Room := { frames := 1, cells := 0, slots := 0, locals := 14 }
set_option maxHeartbeats 4000000 in
set_option maxRecDepth 100000 in
theorem cX3c_learn (l : Launch) (G : gG) (Z : va_W) (S : uS) (k4 : Nat) (h_k4 : k4 < 8) (b1 : Bool) : kMet l yX3_learn wsX3_learn rmX3_learn G kC Z S [.ref (G.2.2 (9, k4)), .int (bI (b1))] none (fX3_learn S k4 b1) := by
  refine kMet_of (cc := cX3_learn) (maxL := 2) (ret := none) (by decide) rfl (Nat.le_of_ble_eq_true rfl) ?_
  intro p e s m below meth c hx hb hr hml hlocks hts hown hK hN A hZ hA H locs hw ls hl
  have hl : lv_has ls 2 [(0, .ref (G.2.2 (9, k4))), (1, .int (bI (b1)))] := hl
  have hiX3 : ∀ w ∈ wsX30, w ∈ wsX3_learn := by decide +kernel
  refine lv_iload_n hx hb dX3_learn_0 rfl (lv_at hl 1 rfl) ?_
  refine k_if_eq (b := b1) (tgt := 30) hx hb dX3_learn_1 (by decide) (fun c_1 => ?_) (fun c_1 => ?_)
  · skip
    refine lv_aload_n hx hb dX3_learn_30 rfl (lv_at hl 0 rfl) ?_
    refine g_9_2 hx hb hts hiX3 hown hK hw (kC_9 h_k4) (hts (.fieldLink RX3 18 "BranchPredictor$Loop" "trip" "I") (by decide +kernel)) dX3_learn_31 ?_
    refine lv_if_eq (x := S.1 9 k4 2) (tgt := 65) hx hb dX3_learn_34 (by decide) (fun c_2 => ?_) (fun c_2 => ?_)
    · skip
      refine lv_aload_n hx hb dX3_learn_65 rfl (lv_at hl 0 rfl) ?_
      refine lv_aload_n hx hb dX3_learn_66 rfl (lv_at hl 0 rfl) ?_
      refine g_9_1 hx hb hts hiX3 hown hK hw (kC_9 h_k4) (hts (.fieldLink RX3 15 "BranchPredictor$Loop" "count" "I") (by decide +kernel)) dX3_learn_67 ?_
      refine p_9_2 (v := S.1 9 k4 1) hx hb hts hiX3 hown hK hw (kC_9 h_k4) (hts (.fieldLink RX3 18 "BranchPredictor$Loop" "trip" "I") (by decide +kernel)) dX3_learn_70 (fun H locs hw => ?_)
      refine lv_aload_n hx hb dX3_learn_73 rfl (lv_at hl 0 rfl) ?_
      refine lv_iconst (v := 0) hx hb dX3_learn_74 (by decide) ?_
      refine p_9_3 (v := (0 : Int32)) hx hb hts hiX3 hown hK hw (kC_9 h_k4) (hts (.fieldLink RX3 21 "BranchPredictor$Loop" "trust" "I") (by decide +kernel)) dX3_learn_75 (fun H locs hw => ?_)
      refine lv_aload_n hx hb dX3_learn_78 rfl (lv_at hl 0 rfl) ?_
      refine lv_iconst (v := 0) hx hb dX3_learn_79 (by decide) ?_
      refine p_9_1 (v := (0 : Int32)) hx hb hts hiX3 hown hK hw (kC_9 h_k4) (hts (.fieldLink RX3 15 "BranchPredictor$Loop" "count" "I") (by decide +kernel)) dX3_learn_80 (fun H locs hw => ?_)
      exact k_vret hx hb hr hlocks hK hw rfl (by unfold fX3_learn; rw [if_pos c_1, if_pos c_2]) dX3_learn_83
    · skip
      refine lv_aload_n hx hb dX3_learn_37 rfl (lv_at hl 0 rfl) ?_
      refine g_9_2 hx hb hts hiX3 hown hK hw (kC_9 h_k4) (hts (.fieldLink RX3 18 "BranchPredictor$Loop" "trip" "I") (by decide +kernel)) dX3_learn_38 ?_
      refine lv_aload_n hx hb dX3_learn_41 rfl (lv_at hl 0 rfl) ?_
      refine g_9_1 hx hb hts hiX3 hown hK hw (kC_9 h_k4) (hts (.fieldLink RX3 15 "BranchPredictor$Loop" "count" "I") (by decide +kernel)) dX3_learn_42 ?_
      refine lv_icmp_ne (tgt := 65) hx hb dX3_learn_45 (by decide) (fun c_3 => ?_) (fun c_3 => ?_)
      · skip
        refine lv_aload_n hx hb dX3_learn_65 rfl (lv_at hl 0 rfl) ?_
        refine lv_aload_n hx hb dX3_learn_66 rfl (lv_at hl 0 rfl) ?_
        refine g_9_1 hx hb hts hiX3 hown hK hw (kC_9 h_k4) (hts (.fieldLink RX3 15 "BranchPredictor$Loop" "count" "I") (by decide +kernel)) dX3_learn_67 ?_
        refine p_9_2 (v := S.1 9 k4 1) hx hb hts hiX3 hown hK hw (kC_9 h_k4) (hts (.fieldLink RX3 18 "BranchPredictor$Loop" "trip" "I") (by decide +kernel)) dX3_learn_70 (fun H locs hw => ?_)
        refine lv_aload_n hx hb dX3_learn_73 rfl (lv_at hl 0 rfl) ?_
        refine lv_iconst (v := 0) hx hb dX3_learn_74 (by decide) ?_
        refine p_9_3 (v := (0 : Int32)) hx hb hts hiX3 hown hK hw (kC_9 h_k4) (hts (.fieldLink RX3 21 "BranchPredictor$Loop" "trust" "I") (by decide +kernel)) dX3_learn_75 (fun H locs hw => ?_)
        refine lv_aload_n hx hb dX3_learn_78 rfl (lv_at hl 0 rfl) ?_
        refine lv_iconst (v := 0) hx hb dX3_learn_79 (by decide) ?_
        refine p_9_1 (v := (0 : Int32)) hx hb hts hiX3 hown hK hw (kC_9 h_k4) (hts (.fieldLink RX3 15 "BranchPredictor$Loop" "count" "I") (by decide +kernel)) dX3_learn_80 (fun H locs hw => ?_)
        exact k_vret hx hb hr hlocks hK hw rfl (by unfold fX3_learn; rw [if_pos c_1, if_neg c_2, if_neg c_3]) dX3_learn_83
      · skip
        refine lv_aload_n hx hb dX3_learn_48 rfl (lv_at hl 0 rfl) ?_
        refine lv_aload_n hx hb dX3_learn_49 rfl (lv_at hl 0 rfl) ?_
        refine g_9_3 hx hb hts hiX3 hown hK hw (kC_9 h_k4) (hts (.fieldLink RX3 21 "BranchPredictor$Loop" "trust" "I") (by decide +kernel)) dX3_learn_50 ?_
        refine lv_iconst (v := 1) hx hb dX3_learn_53 (by decide) ?_
        refine lv_iadd hx hb dX3_learn_54 ?_
        refine lv_iconst (v := 3) hx hb dX3_learn_55 (by decide) ?_
        refine va_mmin hx hb (hml.trans hl.1.symm) hown (hts (.methodLink RX3 24 Lib.Math.min.name) (by decide +kernel)) (hts (.static Lib.Math.min.name) (by decide +kernel)) (hts (.initialized "java/lang/Math") (by decide +kernel)) (hts (.code Lib.Math.min.name Lib.Math.min.code 2 (some .int)) (by decide +kernel)) (Nat.le_of_ble_eq_true rfl) (Nat.le_of_ble_eq_true rfl) (Nat.zero_le _) (Nat.zero_le _) dX3_learn_56 ?_
        refine p_9_3 (v := if (3 : Int32) < ((S.1 9 k4 3) + (1 : Int32)) then (3 : Int32) else ((S.1 9 k4 3) + (1 : Int32))) hx hb hts hiX3 hown hK hw (kC_9 h_k4) (hts (.fieldLink RX3 21 "BranchPredictor$Loop" "trust" "I") (by decide +kernel)) dX3_learn_59 (fun H locs hw => ?_)
        refine lv_goto (tgt := 78) hx hb dX3_learn_62 (by decide) ?_
        refine lv_aload_n hx hb dX3_learn_78 rfl (lv_at hl 0 rfl) ?_
        refine lv_iconst (v := 0) hx hb dX3_learn_79 (by decide) ?_
        refine p_9_1 (v := (0 : Int32)) hx hb hts hiX3 hown hK hw (kC_9 h_k4) (hts (.fieldLink RX3 15 "BranchPredictor$Loop" "count" "I") (by decide +kernel)) dX3_learn_80 (fun H locs hw => ?_)
        exact k_vret hx hb hr hlocks hK hw rfl (by unfold fX3_learn; rw [if_pos c_1, if_neg c_2, if_pos c_3]) dX3_learn_83
  · skip
    refine lv_aload_n hx hb dX3_learn_4 rfl (lv_at hl 0 rfl) ?_
    refine lv_dup hx hb dX3_learn_5 rfl ?_
    refine g_9_1 hx hb hts hiX3 hown hK hw (kC_9 h_k4) (hts (.fieldLink RX3 15 "BranchPredictor$Loop" "count" "I") (by decide +kernel)) dX3_learn_6 ?_
    refine lv_iconst (v := 1) hx hb dX3_learn_9 (by decide) ?_
    refine lv_iadd hx hb dX3_learn_10 ?_
    refine p_9_1 (v := (S.1 9 k4 1) + (1 : Int32)) hx hb hts hiX3 hown hK hw (kC_9 h_k4) (hts (.fieldLink RX3 15 "BranchPredictor$Loop" "count" "I") (by decide +kernel)) dX3_learn_11 (fun H locs hw => ?_)
    refine lv_aload_n hx hb dX3_learn_14 rfl (lv_at hl 0 rfl) ?_
    refine g_9_1 hx hb hts hiX3 hown hK hw (kC_9 h_k4) (hts (.fieldLink RX3 15 "BranchPredictor$Loop" "count" "I") (by decide +kernel)) dX3_learn_15 ?_
    refine k_topi (z := (S.1 9 k4 1) + (1 : Int32)) (by simp [uI, uL, uF]) ?_
    refine lv_sipush (v := 1000) hx hb dX3_learn_18 (by decide) ?_
    refine lv_icmp_le (tgt := 29) hx hb dX3_learn_21 (by decide) (fun c_4 => ?_) (fun c_4 => ?_)
    · skip
      exact k_vret hx hb hr hlocks hK hw rfl (by unfold fX3_learn; rw [if_neg c_1, if_pos c_4]) dX3_learn_29
    · skip
      refine lv_aload_n hx hb dX3_learn_24 rfl (lv_at hl 0 rfl) ?_
      refine lv_iconst (v := -1) hx hb dX3_learn_25 (by decide) ?_
      refine p_9_0 (v := (-1 : Int32)) hx hb hts hiX3 hown hK hw (kC_9 h_k4) (hts (.fieldLink RX3 9 "BranchPredictor$Loop" "place" "I") (by decide +kernel)) dX3_learn_26 (fun H locs hw => ?_)
      exact k_vret hx hb hr hlocks hK hw rfl (by unfold fX3_learn; rw [if_neg c_1, if_neg c_4]) dX3_learn_29
abbrev rmX4_mix : Room := { frames := 0, cells := 0, slots := 0, locals := 0 }
set_option maxHeartbeats 4000000 in
set_option maxRecDepth 100000 in
theorem cX4c_mix (l : Launch) (G : gG) (Z : va_W) (S : uS) (z1 : Int64) (z2 : Int64) : kMet l yX4_mix wsX4_mix rmX4_mix G kC Z S [.long (z1), .long (z2)] (some (.long ((z1 * (31 : Int64)) + z2))) S := by
  refine kMet_of (cc := cX4_mix) (maxL := 4) (ret := (some .long)) (by decide) rfl (Nat.le_of_ble_eq_true rfl) ?_
  intro p e s m below meth c hx hb hr hml hlocks hts hown hK hN A hZ hA H locs hw ls hl
  have hl : lv_has ls 4 [(0, .long (z1)), (2, .long (z2))] := hl
  refine lv_lload_n hx hb dX4_mix_0 rfl (lv_at hl 0 rfl) ?_
  refine lv_ldc2 (v := 31) hx hb hown (hts (.constantLong RX4 197 (31)) (by decide +kernel)) dX4_mix_1 ?_
  refine lv_lmul hx hb dX4_mix_4 ?_
  refine lv_lload_n hx hb dX4_mix_5 rfl (lv_at hl 1 rfl) ?_
  refine lv_ladd hx hb dX4_mix_6 ?_
  exact k_lret hx hb hr hlocks hK hw rfl rfl dX4_mix_7
def fX4_isTableBits (S : uS) (x1 : Int32) : Bool :=
  if x1 < (2 : Int32) then false
  else if (8 : Int32) < x1 then false else true
abbrev rmX4_isTableBits : Room := { frames := 0, cells := 0, slots := 0, locals := 0 }
set_option maxHeartbeats 4000000 in
set_option maxRecDepth 100000 in
theorem cX4c_isTableBits (l : Launch) (G : gG) (Z : va_W) (S : uS) (x1 : Int32) : kMet l yX4_isTableBits wsX4_isTableBits rmX4_isTableBits G kC Z S [.int (x1)] (some (.int (bI ((fX4_isTableBits S x1))))) S := by
  refine kMet_of (cc := cX4_isTableBits) (maxL := 1) (ret := (some .boolean)) (by decide) rfl (Nat.le_of_ble_eq_true rfl) ?_
  intro p e s m below meth c hx hb hr hml hlocks hts hown hK hN A hZ hA H locs hw ls hl
  have hl : lv_has ls 1 [(0, .int (x1))] := hl
  refine lv_iload_n hx hb dX4_isTableBits_0 rfl (lv_at hl 0 rfl) ?_
  refine lv_iconst (v := 2) hx hb dX4_isTableBits_1 (by decide) ?_
  refine lv_icmp_lt (tgt := 15) hx hb dX4_isTableBits_2 (by decide) (fun c_1 => ?_) (fun c_1 => ?_)
  · skip
    refine lv_iconst (v := 0) hx hb dX4_isTableBits_15 (by decide) ?_
    exact k_zret (r := false) hx hb hr hlocks hK hw (congrArg (fun z : Bool => some (Value.int (bI (z)))) (show (fX4_isTableBits S x1) = false from by unfold fX4_isTableBits; rw [if_pos c_1])) rfl dX4_isTableBits_16
  · skip
    refine lv_iload_n hx hb dX4_isTableBits_5 rfl (lv_at hl 0 rfl) ?_
    refine lv_bipush (v := 8) hx hb dX4_isTableBits_6 (by decide) ?_
    refine k_join (P := fun x9 : Bool => W p l e rmX4_isTableBits s m [.int (x1)].toArray below meth c H locs 0 0 (MQ below (kQ G kC Z A (some (.int (bI ((fX4_isTableBits S x1))))) S) [.int (x1)].toArray s 0 0 A) (F0 m 16 ls [.int (bI (x9))])) (C := (8 : Int32) < x1) (a := false) (b := true) ?_ (fun ka kb => ?_)
    rotate_left
    · refine lv_icmp_gt (tgt := 15) hx hb dX4_isTableBits_8 (by decide) (fun c_2 => ?_) (fun c_2 => ?_)
      · skip
        refine lv_iconst (v := 0) hx hb dX4_isTableBits_15 (by decide) ?_
        exact ka c_2
      · skip
        refine lv_iconst (v := 1) hx hb dX4_isTableBits_11 (by decide) ?_
        refine lv_goto (tgt := 16) hx hb dX4_isTableBits_12 (by decide) ?_
        exact kb c_2
    show W p l e rmX4_isTableBits s m [.int (x1)].toArray below meth c H locs 0 0 (MQ below (kQ G kC Z A (some (.int (bI ((fX4_isTableBits S x1))))) S) [.int (x1)].toArray s 0 0 A) (F0 m 16 ls [.int (bI (if (8 : Int32) < x1 then false else true))])
    exact k_zret (r := if (8 : Int32) < x1 then false else true) hx hb hr hlocks hK hw (congrArg (fun z : Bool => some (Value.int (bI (z)))) (show (fX4_isTableBits S x1) = if (8 : Int32) < x1 then false else true from by unfold fX4_isTableBits; rw [if_neg c_1])) rfl dX4_isTableBits_16
/-- the place in the ring of the branch in flight with this index -/
def fIx (S : uS) (x1 : Int32) : Nat := ((S.1 0 0 12 + x1) &&& (15 : Int32)).toNatClampNeg
theorem fIx_lt (S : uS) (x1 : Int32) : fIx S x1 < 16 := vp_lt (pk_andIn _ 4 (by decide) (by decide))
abbrev rmX4_branchAt : Room := { frames := 0, cells := 0, slots := 0, locals := 0 }
set_option maxHeartbeats 4000000 in
set_option maxRecDepth 100000 in
theorem cX4c_branchAt (l : Launch) (G : gG) (Z : va_W) (S : uS) (x1 : Int32) : kMet l yX4_branchAt wsX4_branchAt rmX4_branchAt G kC Z S [.ref (G.2.2 (0, 0)), .int (x1)] (some (.ref (G.2.2 (8, (fIx S x1))))) S := by
  refine kMet_of (cc := cX4_branchAt) (maxL := 2) (ret := (some (.object "BranchPredictor$Branch"))) (by decide) rfl (Nat.le_of_ble_eq_true rfl) ?_
  intro p e s m below meth c hx hb hr hml hlocks hts hown hK hN A hZ hA H locs hw ls hl
  have hl : lv_has ls 2 [(0, .ref (G.2.2 (0, 0))), (1, .int (x1))] := hl
  have hiX4 : ∀ w ∈ wsX40, w ∈ wsX4_branchAt := by decide +kernel
  refine lv_aload_n hx hb dX4_branchAt_0 rfl (lv_at hl 0 rfl) ?_
  refine g_0_5 hx hb hts hiX4 hown hK hw kC_0 (hts (.fieldLink RX4 34 "BranchPredictor" "ring" "[LBranchPredictor$Branch;") (by decide +kernel)) dX4_branchAt_1 ?_
  refine lv_aload_n hx hb dX4_branchAt_4 rfl (lv_at hl 0 rfl) ?_
  refine g_0_12 hx hb hts hiX4 hown hK hw kC_0 (hts (.fieldLink RX4 210 "BranchPredictor" "oldest" "I") (by decide +kernel)) dX4_branchAt_5 ?_
  refine lv_iload_n hx hb dX4_branchAt_8 rfl (lv_at hl 1 rfl) ?_
  refine lv_iadd hx hb dX4_branchAt_9 ?_
  refine lv_bipush (v := 15) hx hb dX4_branchAt_10 (by decide) ?_
  refine lv_iand hx hb dX4_branchAt_12 ?_
  refine ald_5 hx hb hK hw kC_5 (pk_andIn _ 4 (by decide) (by decide)) dX4_branchAt_13 ?_
  exact k_aret hx hb hr hlocks hK hw rfl rfl dX4_branchAt_14
abbrev rmX4_appended : Room := { frames := 0, cells := 0, slots := 0, locals := 0 }
set_option maxHeartbeats 4000000 in
set_option maxRecDepth 100000 in
theorem cX4c_appended (l : Launch) (G : gG) (Z : va_W) (S : uS) (x1 : Int32) (b1 : Bool) : kMet l yX4_appended wsX4_appended rmX4_appended G kC Z S [.ref (G.2.2 (0, 0)), .int (x1), .int (bI (b1))] (some (.int ((((2 : Int32) * x1) + (if b1 = false then (0 : Int32) else (1 : Int32))) &&& (((1 : Int32) <<< ((S.1 0 0 10) &&& 31)) - (1 : Int32))))) S := by
  refine kMet_of (cc := cX4_appended) (maxL := 4) (ret := (some .int)) (by decide) rfl (Nat.le_of_ble_eq_true rfl) ?_
  intro p e s m below meth c hx hb hr hml hlocks hts hown hK hN A hZ hA H locs hw ls hl
  have hl : lv_has ls 4 [(0, .ref (G.2.2 (0, 0))), (1, .int (x1)), (2, .int (bI (b1)))] := hl
  have hiX4 : ∀ w ∈ wsX40, w ∈ wsX4_appended := by decide +kernel
  refine lv_iconst (v := 2) hx hb dX4_appended_0 (by decide) ?_
  refine lv_iload_n hx hb dX4_appended_1 rfl (lv_at hl 1 rfl) ?_
  refine lv_imul hx hb dX4_appended_2 ?_
  refine lv_iload_n hx hb dX4_appended_3 rfl (lv_at hl 2 rfl) ?_
  refine k_join (P := fun x9 : Int32 => W p l e rmX4_appended s m [.ref (G.2.2 (0, 0)), .int (x1), .int (bI (b1))].toArray below meth c H locs 0 0 (MQ below (kQ G kC Z A (some (.int ((((2 : Int32) * x1) + (if b1 = false then (0 : Int32) else (1 : Int32))) &&& (((1 : Int32) <<< ((S.1 0 0 10) &&& 31)) - (1 : Int32))))) S) [.ref (G.2.2 (0, 0)), .int (x1), .int (bI (b1))].toArray s 0 0 A) (F0 m 12 ls [.int (x9), .int ((2 : Int32) * x1)])) (C := b1 = false) (a := (0 : Int32)) (b := (1 : Int32)) ?_ (fun ka kb => ?_)
  rotate_left
  · refine k_if_eq (b := b1) (tgt := 11) hx hb dX4_appended_4 (by decide) (fun c_1 => ?_) (fun c_1 => ?_)
    · skip
      refine lv_iconst (v := 0) hx hb dX4_appended_11 (by decide) ?_
      exact ka c_1
    · skip
      refine lv_iconst (v := 1) hx hb dX4_appended_7 (by decide) ?_
      refine lv_goto (tgt := 12) hx hb dX4_appended_8 (by decide) ?_
      exact kb c_1
  show W p l e rmX4_appended s m [.ref (G.2.2 (0, 0)), .int (x1), .int (bI (b1))].toArray below meth c H locs 0 0 (MQ below (kQ G kC Z A (some (.int ((((2 : Int32) * x1) + (if b1 = false then (0 : Int32) else (1 : Int32))) &&& (((1 : Int32) <<< ((S.1 0 0 10) &&& 31)) - (1 : Int32))))) S) [.ref (G.2.2 (0, 0)), .int (x1), .int (bI (b1))].toArray s 0 0 A) (F0 m 12 ls [.int (if b1 = false then (0 : Int32) else (1 : Int32)), .int ((2 : Int32) * x1)])
  refine lv_iadd hx hb dX4_appended_12 ?_
  refine lv_istore_n (lv' := [(3, .int (((2 : Int32) * x1) + (if b1 = false then (0 : Int32) else (1 : Int32)))), (0, .ref (G.2.2 (0, 0))), (1, .int (x1)), (2, .int (bI (b1)))]) hx hb dX4_appended_13 rfl hl (by decide) rfl (fun ls hl => ?_)
  refine lv_iload_n hx hb dX4_appended_14 rfl (lv_at hl 0 rfl) ?_
  refine lv_iconst (v := 1) hx hb dX4_appended_15 (by decide) ?_
  refine lv_aload_n hx hb dX4_appended_16 rfl (lv_at hl 1 rfl) ?_
  refine g_0_10 hx hb hts hiX4 hown hK hw kC_0 (hts (.fieldLink RX4 55 "BranchPredictor" "historyBits" "I") (by decide +kernel)) dX4_appended_17 ?_
  refine lv_ishl hx hb dX4_appended_20 ?_
  refine lv_iconst (v := 1) hx hb dX4_appended_21 (by decide) ?_
  refine lv_isub hx hb dX4_appended_22 ?_
  refine lv_iand hx hb dX4_appended_23 ?_
  exact k_iret hx hb hr hlocks hK hw rfl rfl dX4_appended_24
def fX4_dropFrom (S : uS) (x1 : Int32) : Int32 × uS :=
  ((S.1 0 0 13) - x1, (uI (uL S 0 0 15 ((S.2.1 0 0 15) + (((S.1 0 0 13) - x1).toInt64))) 0 0 13 x1))
abbrev rmX4_dropFrom : Room := { frames := 0, cells := 0, slots := 0, locals := 0 }
set_option maxHeartbeats 4000000 in
set_option maxRecDepth 100000 in
theorem cX4c_dropFrom (l : Launch) (G : gG) (Z : va_W) (S : uS) (x1 : Int32) : kMet l yX4_dropFrom wsX4_dropFrom rmX4_dropFrom G kC Z S [.ref (G.2.2 (0, 0)), .int (x1)] (some (.int ((fX4_dropFrom S x1).1))) ((fX4_dropFrom S x1).2) := by
  refine kMet_of (cc := cX4_dropFrom) (maxL := 3) (ret := (some .int)) (by decide) rfl (Nat.le_of_ble_eq_true rfl) ?_
  intro p e s m below meth c hx hb hr hml hlocks hts hown hK hN A hZ hA H locs hw ls hl
  have hl : lv_has ls 3 [(0, .ref (G.2.2 (0, 0))), (1, .int (x1))] := hl
  have hiX4 : ∀ w ∈ wsX40, w ∈ wsX4_dropFrom := by decide +kernel
  refine lv_aload_n hx hb dX4_dropFrom_0 rfl (lv_at hl 0 rfl) ?_
  refine g_0_13 hx hb hts hiX4 hown hK hw kC_0 (hts (.fieldLink RX4 79 "BranchPredictor" "flying" "I") (by decide +kernel)) dX4_dropFrom_1 ?_
  refine lv_iload_n hx hb dX4_dropFrom_4 rfl (lv_at hl 1 rfl) ?_
  refine lv_isub hx hb dX4_dropFrom_5 ?_
  refine lv_istore_n (lv' := [(2, .int ((S.1 0 0 13) - x1)), (0, .ref (G.2.2 (0, 0))), (1, .int (x1))]) hx hb dX4_dropFrom_6 rfl hl (by decide) rfl (fun ls hl => ?_)
  refine lv_aload_n hx hb dX4_dropFrom_7 rfl (lv_at hl 1 rfl) ?_
  refine lv_dup hx hb dX4_dropFrom_8 rfl ?_
  refine g_0_15 hx hb hts hiX4 hown hK hw kC_0 (hts (.fieldLink RX4 175 "BranchPredictor" "dropped" "J") (by decide +kernel)) dX4_dropFrom_9 ?_
  refine lv_iload_n hx hb dX4_dropFrom_12 rfl (lv_at hl 0 rfl) ?_
  refine lv_i2l (v := ((S.1 0 0 13) - x1).toInt64) hx hb dX4_dropFrom_13 rfl ?_
  refine lv_ladd hx hb dX4_dropFrom_14 ?_
  refine p_0_15 (v := (S.2.1 0 0 15) + (((S.1 0 0 13) - x1).toInt64)) hx hb hts hiX4 hown hK hw kC_0 (hts (.fieldLink RX4 175 "BranchPredictor" "dropped" "J") (by decide +kernel)) dX4_dropFrom_15 (fun H locs hw => ?_)
  refine lv_aload_n hx hb dX4_dropFrom_18 rfl (lv_at hl 1 rfl) ?_
  refine lv_iload_n hx hb dX4_dropFrom_19 rfl (lv_at hl 2 rfl) ?_
  refine p_0_13 (v := x1) hx hb hts hiX4 hown hK hw kC_0 (hts (.fieldLink RX4 79 "BranchPredictor" "flying" "I") (by decide +kernel)) dX4_dropFrom_20 (fun H locs hw => ?_)
  refine lv_iload_n hx hb dX4_dropFrom_23 rfl (lv_at hl 0 rfl) ?_
  exact k_iret hx hb hr hlocks hK hw (congrArg (fun z : Int32 × uS => some (Value.int (z.1))) (show (fX4_dropFrom S x1) = ((S.1 0 0 13) - x1, (uI (uL S 0 0 15 ((S.2.1 0 0 15) + (((S.1 0 0 13) - x1).toInt64))) 0 0 13 x1)) from by unfold fX4_dropFrom; rfl)) (congrArg (a₁ := (fX4_dropFrom S x1)) (a₂ := ((S.1 0 0 13) - x1, (uI (uL S 0 0 15 ((S.2.1 0 0 15) + (((S.1 0 0 13) - x1).toInt64))) 0 0 13 x1))) (fun z : Int32 × uS => z.2) (show (fX4_dropFrom S x1) = ((S.1 0 0 13) - x1, (uI (uL S 0 0 15 ((S.2.1 0 0 15) + (((S.1 0 0 13) - x1).toInt64))) 0 0 13 x1)) from by unfold fX4_dropFrom; rfl)) dX4_dropFrom_24
