theorem nx_xor (a b : Nat) : nI a ^^^ nI b = nI (a ^^^ b) := by
  apply Int32.toBitVec_inj.1
  show BitVec.ofNat 32 a ^^^ BitVec.ofNat 32 b = BitVec.ofNat 32 (a ^^^ b)
  apply BitVec.eq_of_getLsbD_eq
  intro i hi
  simp [hi]
theorem m_sh : ∀ P, P < 9 → (1 : Int32) <<< (nI P &&& 31) = nI (2 ^ P) := by decide
theorem m_pw : ∀ P, P < 9 → 2 ^ P ≤ 256 := by decide
theorem m_pp (P : Nat) : 0 < 2 ^ P := Nat.two_pow_pos P
theorem m_ne {P : Nat} (h : P ≤ 8) : ¬ (1 : Int32) <<< (nI P &&& 31) = 0 := by
  rw [m_sh P (by omega)]
  exact nI_ne0 (m_pp P) (Nat.lt_of_le_of_lt (m_pw P (by omega)) (by decide))
theorem m_rem {X P : Nat} (hX : X < 2 ^ 31) (h : P ≤ 8) : nI X - nI X / ((1 : Int32) <<< (nI P &&& 31)) * ((1 : Int32) <<< (nI P &&& 31)) = nI (X % 2 ^ P) := by
  rw [m_sh P (by omega)]
  exact pk_rem hX (m_pp P) (Nat.lt_of_le_of_lt (m_pw P (by omega)) (by decide))
theorem m_lt {X P : Nat} (h : P ≤ 8) : X % 2 ^ P < 256 := Nat.lt_of_lt_of_le (Nat.mod_lt _ (m_pp P)) (m_pw P (by omega))
theorem m_xor {X Y : Nat} (hX : X < 65536) (hY : Y < 65536) : X ^^^ Y < 65536 := Nat.xor_lt_two_pow (n := 16) hX hY
abbrev rmX5_thrown : Room := { frames := 0, cells := 0, slots := 0, locals := 0 }
set_option maxHeartbeats 4000000 in
set_option maxRecDepth 100000 in
theorem cX5c_thrown (l : Launch) (G : gG) (Z : va_W) (S : uS)  : kMet l yX5_thrown wsX5_thrown rmX5_thrown G kM Z S [.ref (G.2.2 (10, 0))] (some (.int (S.1 10 0 0))) S := by
  refine kMet_of (cc := cX5_thrown) (maxL := 1) (ret := (some .int)) (by decide) rfl (Nat.le_of_ble_eq_true rfl) ?_
  intro p e s m below meth c hx hb hr hml hlocks hts hown hK hN A hZ hA H locs hw ls hl
  have hl : lv_has ls 1 [(0, .ref (G.2.2 (10, 0)))] := hl
  have hiX5 : ∀ w ∈ wsX50, w ∈ wsX5_thrown := by decide +kernel
  refine lv_aload_n hx hb dX5_thrown_0 rfl (lv_at hl 0 rfl) ?_
  refine g_10_0 hx hb hts hiX5 hown hK hw kM_10 (hts (.fieldLink RX5 58 "BranchPredictorModel" "thrown" "I") (by decide +kernel)) dX5_thrown_1 ?_
  exact k_iret hx hb hr hlocks hK hw rfl rfl dX5_thrown_4
def fX5_fail (S : uS) (x1 : Int32) : Int32 × uS :=
  ((0 : Int32), (uI S 10 0 0 x1))
abbrev rmX5_fail : Room := { frames := 0, cells := 0, slots := 0, locals := 0 }
set_option maxHeartbeats 4000000 in
set_option maxRecDepth 100000 in
theorem cX5c_fail (l : Launch) (G : gG) (Z : va_W) (S : uS) (x1 : Int32) : kMet l yX5_fail wsX5_fail rmX5_fail G kM Z S [.ref (G.2.2 (10, 0)), .int (x1)] (some (.int ((fX5_fail S x1).1))) ((fX5_fail S x1).2) := by
  refine kMet_of (cc := cX5_fail) (maxL := 2) (ret := (some .int)) (by decide) rfl (Nat.le_of_ble_eq_true rfl) ?_
  intro p e s m below meth c hx hb hr hml hlocks hts hown hK hN A hZ hA H locs hw ls hl
  have hl : lv_has ls 2 [(0, .ref (G.2.2 (10, 0))), (1, .int (x1))] := hl
  have hiX5 : ∀ w ∈ wsX50, w ∈ wsX5_fail := by decide +kernel
  refine lv_aload_n hx hb dX5_fail_0 rfl (lv_at hl 0 rfl) ?_
  refine lv_iload_n hx hb dX5_fail_1 rfl (lv_at hl 1 rfl) ?_
  refine p_10_0 (v := x1) hx hb hts hiX5 hown hK hw kM_10 (hts (.fieldLink RX5 58 "BranchPredictorModel" "thrown" "I") (by decide +kernel)) dX5_fail_2 (fun H locs hw => ?_)
  refine lv_iconst (v := 0) hx hb dX5_fail_5 (by decide) ?_
  exact k_iret hx hb hr hlocks hK hw (congrArg (fun z : Int32 × uS => some (Value.int (z.1))) (show (fX5_fail S x1) = ((0 : Int32), (uI S 10 0 0 x1)) from by unfold fX5_fail; rfl)) (congrArg (a₁ := (fX5_fail S x1)) (a₂ := ((0 : Int32), (uI S 10 0 0 x1))) (fun z : Int32 × uS => z.2) (show (fX5_fail S x1) = ((0 : Int32), (uI S 10 0 0 x1)) from by unfold fX5_fail; rfl)) dX5_fail_6
def fX5_failed (S : uS) (x1 : Int32) : Bool × uS :=
  (false, (uI S 10 0 0 x1))
abbrev rmX5_failed : Room := { frames := 0, cells := 0, slots := 0, locals := 0 }
set_option maxHeartbeats 4000000 in
set_option maxRecDepth 100000 in
theorem cX5c_failed (l : Launch) (G : gG) (Z : va_W) (S : uS) (x1 : Int32) : kMet l yX5_failed wsX5_failed rmX5_failed G kM Z S [.ref (G.2.2 (10, 0)), .int (x1)] (some (.int (bI ((fX5_failed S x1).1)))) ((fX5_failed S x1).2) := by
  refine kMet_of (cc := cX5_failed) (maxL := 2) (ret := (some .boolean)) (by decide) rfl (Nat.le_of_ble_eq_true rfl) ?_
  intro p e s m below meth c hx hb hr hml hlocks hts hown hK hN A hZ hA H locs hw ls hl
  have hl : lv_has ls 2 [(0, .ref (G.2.2 (10, 0))), (1, .int (x1))] := hl
  have hiX5 : ∀ w ∈ wsX50, w ∈ wsX5_failed := by decide +kernel
  refine lv_aload_n hx hb dX5_failed_0 rfl (lv_at hl 0 rfl) ?_
  refine lv_iload_n hx hb dX5_failed_1 rfl (lv_at hl 1 rfl) ?_
  refine p_10_0 (v := x1) hx hb hts hiX5 hown hK hw kM_10 (hts (.fieldLink RX5 58 "BranchPredictorModel" "thrown" "I") (by decide +kernel)) dX5_failed_2 (fun H locs hw => ?_)
  refine lv_iconst (v := 0) hx hb dX5_failed_5 (by decide) ?_
  exact k_zret (r := false) hx hb hr hlocks hK hw (congrArg (fun z : Bool × uS => some (Value.int (bI (z.1)))) (show (fX5_failed S x1) = (false, (uI S 10 0 0 x1)) from by unfold fX5_failed; rfl)) (congrArg (a₁ := (fX5_failed S x1)) (a₂ := (false, (uI S 10 0 0 x1))) (fun z : Bool × uS => z.2) (show (fX5_failed S x1) = (false, (uI S 10 0 0 x1)) from by unfold fX5_failed; rfl)) dX5_failed_6
abbrev rmX5_plainIndex : Room := { frames := 0, cells := 0, slots := 0, locals := 0 }
set_option maxHeartbeats 4000000 in
set_option maxRecDepth 100000 in
theorem cX5c_plainIndex (l : Launch) (G : gG) (Z : va_W) (S : uS) (P1 : Nat) (h_P1 : S.1 10 0 1 = nI P1) (h_P1b : P1 ≤ 8) (X1 : Nat) (h_X1b : X1 < 65536) : kMet l yX5_plainIndex wsX5_plainIndex rmX5_plainIndex G kM Z S [.ref (G.2.2 (10, 0)), .int (nI X1)] (some (.int (nI (X1 % 2 ^ P1)))) S := by
  refine kMet_of (cc := cX5_plainIndex) (maxL := 2) (ret := (some .int)) (by decide) rfl (Nat.le_of_ble_eq_true rfl) ?_
  intro p e s m below meth c hx hb hr hml hlocks hts hown hK hN A hZ hA H locs hw ls hl
  have hl : lv_has ls 2 [(0, .ref (G.2.2 (10, 0))), (1, .int (nI X1))] := hl
  have hiX5 : ∀ w ∈ wsX50, w ∈ wsX5_plainIndex := by decide +kernel
  refine lv_iload_n hx hb dX5_plainIndex_0 rfl (lv_at hl 1 rfl) ?_
  refine lv_iconst (v := 1) hx hb dX5_plainIndex_1 (by decide) ?_
  refine lv_aload_n hx hb dX5_plainIndex_2 rfl (lv_at hl 0 rfl) ?_
  refine g_10_1 hx hb hts hiX5 hown hK hw kM_10 (hts (.fieldLink RX5 62 "BranchPredictorModel" "p" "I") (by decide +kernel)) dX5_plainIndex_3 ?_
  refine k_topi (z := nI P1) (h_P1) ?_
  refine lv_ishl hx hb dX5_plainIndex_6 ?_
  refine lv_irem hx hb dX5_plainIndex_7 (m_ne h_P1b) ?_
  refine k_topi (z := nI (X1 % 2 ^ P1)) (m_rem (by omega) h_P1b) ?_
  exact k_iret hx hb hr hlocks hK hw rfl rfl dX5_plainIndex_8
abbrev rmX5_globalIndex : Room := { frames := 0, cells := 0, slots := 0, locals := 0 }
set_option maxHeartbeats 4000000 in
set_option maxRecDepth 100000 in
theorem cX5c_globalIndex (l : Launch) (G : gG) (Z : va_W) (S : uS) (Q1 : Nat) (h_Q1 : S.1 10 0 2 = nI Q1) (h_Q1b : Q1 ≤ 8) (X1 : Nat) (h_X1b : X1 < 65536) (Y1 : Nat) (h_Y1b : Y1 < 256) : kMet l yX5_globalIndex wsX5_globalIndex rmX5_globalIndex G kM Z S [.ref (G.2.2 (10, 0)), .int (nI X1), .int (nI Y1)] (some (.int (nI (256 + ((X1 ^^^ Y1) % 2 ^ Q1))))) S := by
  refine kMet_of (cc := cX5_globalIndex) (maxL := 3) (ret := (some .int)) (by decide) rfl (Nat.le_of_ble_eq_true rfl) ?_
  intro p e s m below meth c hx hb hr hml hlocks hts hown hK hN A hZ hA H locs hw ls hl
  have hl : lv_has ls 3 [(0, .ref (G.2.2 (10, 0))), (1, .int (nI X1)), (2, .int (nI Y1))] := hl
  have hiX5 : ∀ w ∈ wsX50, w ∈ wsX5_globalIndex := by decide +kernel
  refine lv_sipush (v := 256) hx hb dX5_globalIndex_0 (by decide) ?_
  refine lv_iload_n hx hb dX5_globalIndex_3 rfl (lv_at hl 1 rfl) ?_
  refine lv_iload_n hx hb dX5_globalIndex_4 rfl (lv_at hl 2 rfl) ?_
  refine lv_ixor hx hb dX5_globalIndex_5 ?_
  refine k_topi (z := nI (X1 ^^^ Y1)) (nx_xor X1 Y1) ?_
  refine lv_iconst (v := 1) hx hb dX5_globalIndex_6 (by decide) ?_
  refine lv_aload_n hx hb dX5_globalIndex_7 rfl (lv_at hl 0 rfl) ?_
  refine g_10_2 hx hb hts hiX5 hown hK hw kM_10 (hts (.fieldLink RX5 65 "BranchPredictorModel" "g" "I") (by decide +kernel)) dX5_globalIndex_8 ?_
  refine k_topi (z := nI Q1) (h_Q1) ?_
  refine lv_ishl hx hb dX5_globalIndex_11 ?_
  refine lv_irem hx hb dX5_globalIndex_12 (m_ne h_Q1b) ?_
  refine k_topi (z := nI ((X1 ^^^ Y1) % 2 ^ Q1)) (m_rem (by have h9 := m_xor h_X1b (Nat.lt_trans h_Y1b (by decide)); omega) h_Q1b) ?_
  refine lv_iadd hx hb dX5_globalIndex_13 ?_
  refine k_topi (z := nI (256 + ((X1 ^^^ Y1) % 2 ^ Q1))) (nI_add 256 ((X1 ^^^ Y1) % 2 ^ Q1)) ?_
  exact k_iret hx hb hr hlocks hK hw rfl rfl dX5_globalIndex_14
abbrev rmX5_choiceIndex : Room := { frames := 0, cells := 0, slots := 0, locals := 0 }
set_option maxHeartbeats 4000000 in
set_option maxRecDepth 100000 in
theorem cX5c_choiceIndex (l : Launch) (G : gG) (Z : va_W) (S : uS) (P1 : Nat) (h_P1 : S.1 10 0 1 = nI P1) (h_P1b : P1 ≤ 8) (X1 : Nat) (h_X1b : X1 < 65536) : kMet l yX5_choiceIndex wsX5_choiceIndex rmX5_choiceIndex G kM Z S [.ref (G.2.2 (10, 0)), .int (nI X1)] (some (.int (nI (512 + (X1 % 2 ^ P1))))) S := by
  refine kMet_of (cc := cX5_choiceIndex) (maxL := 2) (ret := (some .int)) (by decide) rfl (Nat.le_of_ble_eq_true rfl) ?_
  intro p e s m below meth c hx hb hr hml hlocks hts hown hK hN A hZ hA H locs hw ls hl
  have hl : lv_has ls 2 [(0, .ref (G.2.2 (10, 0))), (1, .int (nI X1))] := hl
  have hiX5 : ∀ w ∈ wsX50, w ∈ wsX5_choiceIndex := by decide +kernel
  refine lv_sipush (v := 512) hx hb dX5_choiceIndex_0 (by decide) ?_
  refine lv_iload_n hx hb dX5_choiceIndex_3 rfl (lv_at hl 1 rfl) ?_
  refine lv_iconst (v := 1) hx hb dX5_choiceIndex_4 (by decide) ?_
  refine lv_aload_n hx hb dX5_choiceIndex_5 rfl (lv_at hl 0 rfl) ?_
  refine g_10_1 hx hb hts hiX5 hown hK hw kM_10 (hts (.fieldLink RX5 62 "BranchPredictorModel" "p" "I") (by decide +kernel)) dX5_choiceIndex_6 ?_
  refine k_topi (z := nI P1) (h_P1) ?_
  refine lv_ishl hx hb dX5_choiceIndex_9 ?_
  refine lv_irem hx hb dX5_choiceIndex_10 (m_ne h_P1b) ?_
  refine k_topi (z := nI (X1 % 2 ^ P1)) (m_rem (by omega) h_P1b) ?_
  refine lv_iadd hx hb dX5_choiceIndex_11 ?_
  refine k_topi (z := nI (512 + (X1 % 2 ^ P1))) (nI_add 512 (X1 % 2 ^ P1)) ?_
  exact k_iret hx hb hr hlocks hK hw rfl rfl dX5_choiceIndex_12
def fX5_says (S : uS) (I1 : Nat) : Bool :=
  if (S.1 11 0 I1) < (2 : Int32) then false else true
abbrev rmX5_says : Room := { frames := 0, cells := 0, slots := 0, locals := 0 }
set_option maxHeartbeats 4000000 in
set_option maxRecDepth 100000 in
theorem cX5c_says (l : Launch) (G : gG) (Z : va_W) (S : uS) (I1 : Nat) (h_I1b : I1 < 768) : kMet l yX5_says wsX5_says rmX5_says G kM Z S [.ref (G.2.2 (10, 0)), .int (nI I1)] (some (.int (bI ((fX5_says S I1))))) S := by
  refine kMet_of (cc := cX5_says) (maxL := 2) (ret := (some .boolean)) (by decide) rfl (Nat.le_of_ble_eq_true rfl) ?_
  intro p e s m below meth c hx hb hr hml hlocks hts hown hK hN A hZ hA H locs hw ls hl
  have hl : lv_has ls 2 [(0, .ref (G.2.2 (10, 0))), (1, .int (nI I1))] := hl
  have hiX5 : ∀ w ∈ wsX50, w ∈ wsX5_says := by decide +kernel
  refine lv_aload_n hx hb dX5_says_0 rfl (lv_at hl 0 rfl) ?_
  refine g_10_5 hx hb hts hiX5 hown hK hw kM_10 (hts (.fieldLink RX5 9 "BranchPredictorModel" "counters" "[I") (by decide +kernel)) dX5_says_1 ?_
  refine lv_iload_n hx hb dX5_says_4 rfl (lv_at hl 1 rfl) ?_
  refine ld_11_0 hx hb hK hw kM_11_0 (vp_in_nI (by first | omega | (split <;> omega)) (by decide)) dX5_says_5 ?_
  refine k_topi (z := S.1 11 0 I1) (by rw [nI_clamp (show I1 < 2 ^ 31 from by first | omega | (split <;> omega))]) ?_
  refine lv_iconst (v := 2) hx hb dX5_says_6 (by decide) ?_
  refine k_join (P := fun x9 : Bool => W p l e rmX5_says s m [.ref (G.2.2 (10, 0)), .int (nI I1)].toArray below meth c H locs 0 0 (MQ below (kQ G kM Z A (some (.int (bI ((fX5_says S I1))))) S) [.ref (G.2.2 (10, 0)), .int (nI I1)].toArray s 0 0 A) (F0 m 15 ls [.int (bI (x9))])) (C := (S.1 11 0 I1) < (2 : Int32)) (a := false) (b := true) ?_ (fun ka kb => ?_)
  rotate_left
  · refine lv_icmp_lt (tgt := 14) hx hb dX5_says_7 (by decide) (fun c_1 => ?_) (fun c_1 => ?_)
    · skip
      refine lv_iconst (v := 0) hx hb dX5_says_14 (by decide) ?_
      exact ka c_1
    · skip
      refine lv_iconst (v := 1) hx hb dX5_says_10 (by decide) ?_
      refine lv_goto (tgt := 15) hx hb dX5_says_11 (by decide) ?_
      exact kb c_1
  show W p l e rmX5_says s m [.ref (G.2.2 (10, 0)), .int (nI I1)].toArray below meth c H locs 0 0 (MQ below (kQ G kM Z A (some (.int (bI ((fX5_says S I1))))) S) [.ref (G.2.2 (10, 0)), .int (nI I1)].toArray s 0 0 A) (F0 m 15 ls [.int (bI (if (S.1 11 0 I1) < (2 : Int32) then false else true))])
  exact k_zret (r := if (S.1 11 0 I1) < (2 : Int32) then false else true) hx hb hr hlocks hK hw (congrArg (fun z : Bool => some (Value.int (bI (z)))) (show (fX5_says S I1) = if (S.1 11 0 I1) < (2 : Int32) then false else true from by unfold fX5_says; rfl)) rfl dX5_says_15
abbrev rmX5_appended : Room := { frames := 0, cells := 0, slots := 0, locals := 0 }
set_option maxHeartbeats 4000000 in
set_option maxRecDepth 100000 in
theorem cX5c_appended (l : Launch) (G : gG) (Z : va_W) (S : uS) (H1 : Nat) (h_H1 : S.1 10 0 3 = nI H1) (h_H1b : H1 ≤ 8) (Y1 : Nat) (h_Y1b : Y1 < 256) (b1 : Bool) : kMet l yX5_appended wsX5_appended rmX5_appended G kM Z S [.ref (G.2.2 (10, 0)), .int (nI Y1), .int (bI (b1))] (some (.int (nI ((2 * Y1 + (if b1 = false then 0 else 1)) % 2 ^ H1)))) S := by
  refine kMet_of (cc := cX5_appended) (maxL := 3) (ret := (some .int)) (by decide) rfl (Nat.le_of_ble_eq_true rfl) ?_
  intro p e s m below meth c hx hb hr hml hlocks hts hown hK hN A hZ hA H locs hw ls hl
  have hl : lv_has ls 3 [(0, .ref (G.2.2 (10, 0))), (1, .int (nI Y1)), (2, .int (bI (b1)))] := hl
  have hiX5 : ∀ w ∈ wsX50, w ∈ wsX5_appended := by decide +kernel
  refine lv_iconst (v := 2) hx hb dX5_appended_0 (by decide) ?_
  refine lv_iload_n hx hb dX5_appended_1 rfl (lv_at hl 1 rfl) ?_
  refine lv_imul hx hb dX5_appended_2 ?_
  refine k_topi (z := nI (2 * Y1)) (pk_mul 2 Y1) ?_
  refine lv_iload_n hx hb dX5_appended_3 rfl (lv_at hl 2 rfl) ?_
  refine k_join (P := fun x9 : Int32 => W p l e rmX5_appended s m [.ref (G.2.2 (10, 0)), .int (nI Y1), .int (bI (b1))].toArray below meth c H locs 0 0 (MQ below (kQ G kM Z A (some (.int (nI ((2 * Y1 + (if b1 = false then 0 else 1)) % 2 ^ H1)))) S) [.ref (G.2.2 (10, 0)), .int (nI Y1), .int (bI (b1))].toArray s 0 0 A) (F0 m 12 ls [.int (x9), .int (nI (2 * Y1))])) (C := b1 = false) (a := (0 : Int32)) (b := (1 : Int32)) ?_ (fun ka kb => ?_)
  rotate_left
  · refine k_if_eq (b := b1) (tgt := 11) hx hb dX5_appended_4 (by decide) (fun c_1 => ?_) (fun c_1 => ?_)
    · skip
      refine lv_iconst (v := 0) hx hb dX5_appended_11 (by decide) ?_
      exact ka c_1
    · skip
      refine lv_iconst (v := 1) hx hb dX5_appended_7 (by decide) ?_
      refine lv_goto (tgt := 12) hx hb dX5_appended_8 (by decide) ?_
      exact kb c_1
  show W p l e rmX5_appended s m [.ref (G.2.2 (10, 0)), .int (nI Y1), .int (bI (b1))].toArray below meth c H locs 0 0 (MQ below (kQ G kM Z A (some (.int (nI ((2 * Y1 + (if b1 = false then 0 else 1)) % 2 ^ H1)))) S) [.ref (G.2.2 (10, 0)), .int (nI Y1), .int (bI (b1))].toArray s 0 0 A) (F0 m 12 ls [.int (if b1 = false then (0 : Int32) else (1 : Int32)), .int (nI (2 * Y1))])
  refine k_topi (z := nI (if b1 = false then 0 else 1)) (by split <;> rfl) ?_
  refine lv_iadd hx hb dX5_appended_12 ?_
  refine k_topi (z := nI (2 * Y1 + (if b1 = false then 0 else 1))) (nI_add (2 * Y1) (if b1 = false then 0 else 1)) ?_
  refine lv_iconst (v := 1) hx hb dX5_appended_13 (by decide) ?_
  refine lv_aload_n hx hb dX5_appended_14 rfl (lv_at hl 0 rfl) ?_
  refine g_10_3 hx hb hts hiX5 hown hK hw kM_10 (hts (.fieldLink RX5 68 "BranchPredictorModel" "h" "I") (by decide +kernel)) dX5_appended_15 ?_
  refine k_topi (z := nI H1) (h_H1) ?_
  refine lv_ishl hx hb dX5_appended_18 ?_
  refine lv_irem hx hb dX5_appended_19 (m_ne h_H1b) ?_
  refine k_topi (z := nI ((2 * Y1 + (if b1 = false then 0 else 1)) % 2 ^ H1)) (m_rem (by split <;> omega) h_H1b) ?_
  exact k_iret hx hb hr hlocks hK hw rfl rfl dX5_appended_20
def lX5_loopOf (x1 : Int32) : Nat → Nat → uS → Int32
  | 0, i, S => (-1 : Int32)
  | n + 1, i, S => if (S.2.2 12 3 i) = false then (lX5_loopOf x1 n (i + 1) S)
    else if (S.1 11 4 i) = x1 then nI i
      else (lX5_loopOf x1 n (i + 1) S)
abbrev rmX5_loopOf : Room := { frames := 0, cells := 0, slots := 0, locals := 0 }
set_option maxHeartbeats 4000000 in
set_option maxRecDepth 100000 in
theorem cX5c_loopOf (l : Launch) (G : gG) (Z : va_W) (S : uS) (x1 : Int32) : kMet l yX5_loopOf wsX5_loopOf rmX5_loopOf G kM Z S [.ref (G.2.2 (10, 0)), .int (x1)] (some (.int ((lX5_loopOf x1 8 0 S)))) S := by
  refine kMet_of (cc := cX5_loopOf) (maxL := 3) (ret := (some .int)) (by decide) rfl (Nat.le_of_ble_eq_true rfl) ?_
  intro p e s m below meth c hx hb hr hml hlocks hts hown hK hN A hZ hA H locs hw ls hl
  have hl : lv_has ls 3 [(0, .ref (G.2.2 (10, 0))), (1, .int (x1))] := hl
  have hiX5 : ∀ w ∈ wsX50, w ∈ wsX5_loopOf := by decide +kernel
  refine lv_iconst (v := 0) hx hb dX5_loopOf_0 (by decide) ?_
  refine lv_istore_n (lv' := [(2, .int ((0 : Int32))), (0, .ref (G.2.2 (10, 0))), (1, .int (x1))]) hx hb dX5_loopOf_1 rfl hl (by decide) rfl (fun ls hl => ?_)
  have hloop_lX5_loopOf : ∀ (n i : Nat) (H : Heap) (locs : List Loc) (ls : Array Slot), i + n = 8 → kS G kM S Z A s.heap H locs → lv_has ls 3 [(0, .ref (G.2.2 (10, 0))), (1, .int (x1)), (2, .int (nI i))] → ((some (.int ((lX5_loopOf x1 8 0 S)))) : Option Value) = some (.int ((lX5_loopOf x1 n i S))) → W p l e rmX5_loopOf s m [.ref (G.2.2 (10, 0)), .int (x1)].toArray below meth c H locs 0 0 (MQ below (kQ G kM Z A (some (.int ((lX5_loopOf x1 8 0 S)))) S) [.ref (G.2.2 (10, 0)), .int (x1)].toArray s 0 0 A) (F0 m 2 ls []) := by
    intro n
    induction n with
    | zero =>
      intro i H locs ls hin hw hl kx
      have z_1 : (8 : Int32) ≤ (nI i) := (nI_le (a := 8) (b := i) (by omega) (by omega))
      refine lv_iload_n hx hb dX5_loopOf_2 rfl (lv_at hl 2 rfl) ?_
      refine lv_bipush (v := 8) hx hb dX5_loopOf_3 (by decide) ?_
      refine lv_icmp_ge (tgt := 35) hx hb dX5_loopOf_5 (by decide) (fun _ => ?_) (fun h9 => absurd z_1 h9)
      refine lv_iconst (v := -1) hx hb dX5_loopOf_35 (by decide) ?_
      exact k_iret hx hb hr hlocks hK hw kx rfl dX5_loopOf_36
    | succ n ih =>
      intro i H locs ls hin hw hl kx
      have hi : i < 8 := by omega
      have hi31 : i < 2 ^ 31 := Nat.lt_trans hi (by decide)
      have z_2 : ¬ ((8 : Int32) ≤ (nI i)) := (nI_ge (a := i) (b := 8) hi (by decide))
      refine lv_iload_n hx hb dX5_loopOf_2 rfl (lv_at hl 2 rfl) ?_
      refine lv_bipush (v := 8) hx hb dX5_loopOf_3 (by decide) ?_
      refine lv_icmp_ge (tgt := 35) hx hb dX5_loopOf_5 (by decide) (fun h9 => absurd h9 z_2) (fun _ => ?_)
      refine lv_aload_n hx hb dX5_loopOf_8 rfl (lv_at hl 0 rfl) ?_
      refine g_10_13 hx hb hts hiX5 hown hK hw kM_10 (hts (.fieldLink RX5 32 "BranchPredictorModel" "isLoop" "[Z") (by decide +kernel)) dX5_loopOf_9 ?_
      refine lv_iload_n hx hb dX5_loopOf_12 rfl (lv_at hl 2 rfl) ?_
      refine ld_12_3 hx hb hK hw kM_12_3 (vp_in_nI (by first | omega | (split <;> omega)) (by decide)) dX5_loopOf_13 ?_
      refine k_topz (z := S.2.2 12 3 i) (by rw [nI_clamp hi31]) ?_
      refine k_if_eq (b := S.2.2 12 3 i) (tgt := 29) hx hb dX5_loopOf_14 (by decide) (fun c_3 => ?_) (fun c_3 => ?_)
      · skip
        refine lv_iinc (v := nI (i + 1)) (lv' := [(2, .int (nI (i + 1))), (0, .ref (G.2.2 (10, 0))), (1, .int (x1))]) hx hb dX5_loopOf_29 hl (k := 2) rfl (by rw [← nI_1]; rfl) (by decide) rfl (fun ls hl => ?_)
        refine lv_goto (tgt := 2) hx hb dX5_loopOf_32 (by decide) ?_
        exact ih (i + 1) H locs ls (by omega) hw (lv_sub hl [1, 2, 0] rfl) (kx.trans (congrArg (fun z : Int32 => some (Value.int (z))) (show (lX5_loopOf x1 (n + 1) i S) = (lX5_loopOf x1 n (i + 1) S) from by rw [lX5_loopOf, if_pos c_3])))
      · skip
        refine lv_aload_n hx hb dX5_loopOf_17 rfl (lv_at hl 0 rfl) ?_
        refine g_10_14 hx hb hts hiX5 hown hK hw kM_10 (hts (.fieldLink RX5 35 "BranchPredictorModel" "loopPlaces" "[I") (by decide +kernel)) dX5_loopOf_18 ?_
        refine lv_iload_n hx hb dX5_loopOf_21 rfl (lv_at hl 2 rfl) ?_
        refine ld_11_4 hx hb hK hw kM_11_4 (vp_in_nI (by first | omega | (split <;> omega)) (by decide)) dX5_loopOf_22 ?_
        refine k_topi (z := S.1 11 4 i) (by rw [nI_clamp hi31]) ?_
        refine lv_iload_n hx hb dX5_loopOf_23 rfl (lv_at hl 1 rfl) ?_
        refine lv_icmp_ne (tgt := 29) hx hb dX5_loopOf_24 (by decide) (fun c_4 => ?_) (fun c_4 => ?_)
        · skip
          refine lv_iinc (v := nI (i + 1)) (lv' := [(2, .int (nI (i + 1))), (0, .ref (G.2.2 (10, 0))), (1, .int (x1))]) hx hb dX5_loopOf_29 hl (k := 2) rfl (by rw [← nI_1]; rfl) (by decide) rfl (fun ls hl => ?_)
          refine lv_goto (tgt := 2) hx hb dX5_loopOf_32 (by decide) ?_
          exact ih (i + 1) H locs ls (by omega) hw (lv_sub hl [1, 2, 0] rfl) (kx.trans (congrArg (fun z : Int32 => some (Value.int (z))) (show (lX5_loopOf x1 (n + 1) i S) = (lX5_loopOf x1 n (i + 1) S) from by rw [lX5_loopOf, if_neg c_3, if_neg c_4])))
        · skip
          refine lv_iload_n hx hb dX5_loopOf_27 rfl (lv_at hl 2 rfl) ?_
          exact k_iret hx hb hr hlocks hK hw (kx.trans (congrArg (fun z : Int32 => some (Value.int (z))) (show (lX5_loopOf x1 (n + 1) i S) = nI i from by rw [lX5_loopOf, if_neg c_3, if_pos c_4]))) rfl dX5_loopOf_28
  exact hloop_lX5_loopOf 8 0 H locs ls (by omega) hw (lv_sub hl [1, 2, 0] rfl) rfl
theorem lX5_loopOf_c (x : Int32) {S S' : uS} (n i : Nat) (h1 : ∀ i, S.2.2 12 3 i = S'.2.2 12 3 i) (h2 : ∀ i, S.1 11 4 i = S'.1 11 4 i) : lX5_loopOf x n i S = lX5_loopOf x n i S' := by
  induction n generalizing i with
  | zero => rfl
  | succ n ih => rw [lX5_loopOf, lX5_loopOf, h1, h2, ih]
theorem lO_at (x : Int32) (S : uS) : ∀ n i : Nat, i + n = 8 → lX5_loopOf x n i S = -1 ∨ ∃ j : Nat, j < 8 ∧ i ≤ j ∧ lX5_loopOf x n i S = nI j := by
  intro n
  induction n with
  | zero => intro i _; exact Or.inl rfl
  | succ n ih =>
    intro i h
    rw [lX5_loopOf]
    have hh := ih (i + 1) (by omega)
    have hq : lX5_loopOf x n (i + 1) S = -1 ∨ ∃ j : Nat, j < 8 ∧ i ≤ j ∧ lX5_loopOf x n (i + 1) S = nI j := by
      rcases hh with h1 | ⟨j, h1, h2, h3⟩
      · exact Or.inl h1
      · exact Or.inr ⟨j, h1, by omega, h3⟩
    split
    · exact hq
    · split
      · exact Or.inr ⟨i, by omega, Nat.le_refl _, rfl⟩
      · exact hq
theorem lO_in {x : Int32} {S : uS} (h : ¬ lX5_loopOf x 8 0 S = -1) : vp_in (lX5_loopOf x 8 0 S) 8 := by
  rcases lO_at x S 8 0 rfl with h1 | ⟨j, h1, -, h3⟩
  · exact absurd h1 h
  · rw [h3]; exact vp_in_nI h1 (by decide)
theorem lO_nI {x : Int32} {S : uS} (h : ¬ lX5_loopOf x 8 0 S = -1) : lX5_loopOf x 8 0 S = nI (lX5_loopOf x 8 0 S).toNatClampNeg := by
  rcases lO_at x S 8 0 rfl with h1 | ⟨j, h1, -, h3⟩
  · exact absurd h1 h
  · rw [h3, nI_clamp (by omega)]
def fX5_isTaken (S : uS) (J1 : Nat) : Bool :=
  if (S.2.2 12 1 J1) = false then S.2.2 12 0 (4 * J1 + 3) else S.2.2 12 2 J1
abbrev rmX5_isTaken : Room := { frames := 0, cells := 0, slots := 0, locals := 0 }
set_option maxHeartbeats 4000000 in
set_option maxRecDepth 100000 in
theorem cX5c_isTaken (l : Launch) (G : gG) (Z : va_W) (S : uS) (J1 : Nat) (h_J1b : J1 < 16) : kMet l yX5_isTaken wsX5_isTaken rmX5_isTaken G kM Z S [.ref (G.2.2 (10, 0)), .int (nI J1)] (some (.int (bI ((fX5_isTaken S J1))))) S := by
  refine kMet_of (cc := cX5_isTaken) (maxL := 2) (ret := (some .boolean)) (by decide) rfl (Nat.le_of_ble_eq_true rfl) ?_
  intro p e s m below meth c hx hb hr hml hlocks hts hown hK hN A hZ hA H locs hw ls hl
  have hl : lv_has ls 2 [(0, .ref (G.2.2 (10, 0))), (1, .int (nI J1))] := hl
  have hiX5 : ∀ w ∈ wsX50, w ∈ wsX5_isTaken := by decide +kernel
  refine lv_aload_n hx hb dX5_isTaken_0 rfl (lv_at hl 0 rfl) ?_
  refine g_10_11 hx hb hts hiX5 hown hK hw kM_10 (hts (.fieldLink RX5 26 "BranchPredictorModel" "areResolved" "[Z") (by decide +kernel)) dX5_isTaken_1 ?_
  refine lv_iload_n hx hb dX5_isTaken_4 rfl (lv_at hl 1 rfl) ?_
  refine ld_12_1 hx hb hK hw kM_12_1 (vp_in_nI (by first | omega | (split <;> omega)) (by decide)) dX5_isTaken_5 ?_
  refine k_topz (z := S.2.2 12 1 J1) (by rw [nI_clamp (show J1 < 2 ^ 31 from by first | omega | (split <;> omega))]) ?_
  refine k_join (P := fun x9 : Bool => W p l e rmX5_isTaken s m [.ref (G.2.2 (10, 0)), .int (nI J1)].toArray below meth c H locs 0 0 (MQ below (kQ G kM Z A (some (.int (bI ((fX5_isTaken S J1))))) S) [.ref (G.2.2 (10, 0)), .int (nI J1)].toArray s 0 0 A) (F0 m 28 ls [.int (bI (x9))])) (C := (S.2.2 12 1 J1) = false) (a := S.2.2 12 0 (4 * J1 + 3)) (b := S.2.2 12 2 J1) ?_ (fun ka kb => ?_)
  rotate_left
  · refine k_if_eq (b := S.2.2 12 1 J1) (tgt := 18) hx hb dX5_isTaken_6 (by decide) (fun c_1 => ?_) (fun c_1 => ?_)
    · skip
      refine lv_aload_n hx hb dX5_isTaken_18 rfl (lv_at hl 0 rfl) ?_
      refine g_10_10 hx hb hts hiX5 hown hK hw kM_10 (hts (.fieldLink RX5 22 "BranchPredictorModel" "predictions" "[Z") (by decide +kernel)) dX5_isTaken_19 ?_
      refine lv_iconst (v := 4) hx hb dX5_isTaken_22 (by decide) ?_
      refine lv_iload_n hx hb dX5_isTaken_23 rfl (lv_at hl 1 rfl) ?_
      refine lv_imul hx hb dX5_isTaken_24 ?_
      refine k_topi (z := nI (4 * J1)) (pk_mul 4 J1) ?_
      refine lv_iconst (v := 3) hx hb dX5_isTaken_25 (by decide) ?_
      refine lv_iadd hx hb dX5_isTaken_26 ?_
      refine k_topi (z := nI (4 * J1 + 3)) (nI_add (4 * J1) 3) ?_
      refine ld_12_0 hx hb hK hw kM_12_0 (vp_in_nI (by first | omega | (split <;> omega)) (by decide)) dX5_isTaken_27 ?_
      refine k_topz (z := S.2.2 12 0 (4 * J1 + 3)) (by rw [nI_clamp (show 4 * J1 + 3 < 2 ^ 31 from by first | omega | (split <;> omega))]) ?_
      exact ka c_1
    · skip
      refine lv_aload_n hx hb dX5_isTaken_9 rfl (lv_at hl 0 rfl) ?_
      refine g_10_12 hx hb hts hiX5 hown hK hw kM_10 (hts (.fieldLink RX5 29 "BranchPredictorModel" "outcomes" "[Z") (by decide +kernel)) dX5_isTaken_10 ?_
      refine lv_iload_n hx hb dX5_isTaken_13 rfl (lv_at hl 1 rfl) ?_
      refine ld_12_2 hx hb hK hw kM_12_2 (vp_in_nI (by first | omega | (split <;> omega)) (by decide)) dX5_isTaken_14 ?_
      refine k_topz (z := S.2.2 12 2 J1) (by rw [nI_clamp (show J1 < 2 ^ 31 from by first | omega | (split <;> omega))]) ?_
      refine lv_goto (tgt := 28) hx hb dX5_isTaken_15 (by decide) ?_
      exact kb c_1
  show W p l e rmX5_isTaken s m [.ref (G.2.2 (10, 0)), .int (nI J1)].toArray below meth c H locs 0 0 (MQ below (kQ G kM Z A (some (.int (bI ((fX5_isTaken S J1))))) S) [.ref (G.2.2 (10, 0)), .int (nI J1)].toArray s 0 0 A) (F0 m 28 ls [.int (bI (if (S.2.2 12 1 J1) = false then S.2.2 12 0 (4 * J1 + 3) else S.2.2 12 2 J1))])
  exact k_zret (r := if (S.2.2 12 1 J1) = false then S.2.2 12 0 (4 * J1 + 3) else S.2.2 12 2 J1) hx hb hr hlocks hK hw (congrArg (fun z : Bool => some (Value.int (bI (z)))) (show (fX5_isTaken S J1) = if (S.2.2 12 1 J1) = false then S.2.2 12 0 (4 * J1 + 3) else S.2.2 12 2 J1 from by unfold fX5_isTaken; rfl)) rfl dX5_isTaken_28
def lX5_presumed (K1 : Nat) : Nat → Nat → Int32 → uS → Int32
  | 0, i, a1, S => (a1)
  | n + 1, i, a1, S => if (S.1 11 2 i) = (S.1 11 4 K1) then (lX5_presumed K1 n (i + 1) (if (fX5_isTaken S i) = false then (0 : Int32) else a1 + (1 : Int32)) S)
    else (lX5_presumed K1 n (i + 1) a1 S)
abbrev rmX5_presumed : Room := { frames := 1, cells := 0, slots := 0, locals := 21 }
set_option maxHeartbeats 4000000 in
set_option maxRecDepth 100000 in
theorem cX5c_presumed (l : Launch) (G : gG) (Z : va_W) (S : uS) (F1 : Nat) (h_F1 : S.1 10 0 7 = nI F1) (h_F1b : F1 ≤ 16) (K1 : Nat) (h_K1b : K1 < 8) : kMet l yX5_presumed wsX5_presumed rmX5_presumed G kM Z S [.ref (G.2.2 (10, 0)), .int (nI K1)] (some (.int ((lX5_presumed K1 F1 0 (S.1 11 5 K1) S)))) S := by
  refine kMet_of (cc := cX5_presumed) (maxL := 4) (ret := (some .int)) (by decide) rfl (Nat.le_of_ble_eq_true rfl) ?_
  intro p e s m below meth c hx hb hr hml hlocks hts hown hK hN A hZ hA H locs hw ls hl
  have hl : lv_has ls 4 [(0, .ref (G.2.2 (10, 0))), (1, .int (nI K1))] := hl
  have hiX5 : ∀ w ∈ wsX50, w ∈ wsX5_presumed := by decide +kernel
  refine lv_aload_n hx hb dX5_presumed_0 rfl (lv_at hl 0 rfl) ?_
  refine g_10_15 hx hb hts hiX5 hown hK hw kM_10 (hts (.fieldLink RX5 38 "BranchPredictorModel" "loopCounts" "[I") (by decide +kernel)) dX5_presumed_1 ?_
  refine lv_iload_n hx hb dX5_presumed_4 rfl (lv_at hl 1 rfl) ?_
  refine ld_11_5 hx hb hK hw kM_11_5 (vp_in_nI (by first | omega | (split <;> omega)) (by decide)) dX5_presumed_5 ?_
  refine k_topi (z := S.1 11 5 K1) (by rw [nI_clamp (show K1 < 2 ^ 31 from by first | omega | (split <;> omega))]) ?_
  refine lv_istore_n (lv' := [(2, .int (S.1 11 5 K1)), (0, .ref (G.2.2 (10, 0))), (1, .int (nI K1))]) hx hb dX5_presumed_6 rfl hl (by decide) rfl (fun ls hl => ?_)
  refine lv_iconst (v := 0) hx hb dX5_presumed_7 (by decide) ?_
  refine lv_istore_n (lv' := [(3, .int ((0 : Int32))), (2, .int (S.1 11 5 K1)), (0, .ref (G.2.2 (10, 0))), (1, .int (nI K1))]) hx hb dX5_presumed_8 rfl hl (by decide) rfl (fun ls hl => ?_)
  have hloop_lX5_presumed : ∀ (n i : Nat) (a1 : Int32) (H : Heap) (locs : List Loc) (ls : Array Slot), i + n = F1 → kS G kM S Z A s.heap H locs → lv_has ls 4 [(0, .ref (G.2.2 (10, 0))), (1, .int (nI K1)), (2, .int (a1)), (3, .int (nI i))] → (∀ (H : Heap) (locs : List Loc) (ls : Array Slot), kS G kM S Z A s.heap H locs → lv_has ls 4 [(0, .ref (G.2.2 (10, 0))), (1, .int (nI K1)), (2, .int ((lX5_presumed K1 n i a1 S))), (3, .int (nI F1))] → W p l e rmX5_presumed s m [.ref (G.2.2 (10, 0)), .int (nI K1)].toArray below meth c H locs 0 0 (MQ below (kQ G kM Z A (some (.int ((lX5_presumed K1 F1 0 (S.1 11 5 K1) S)))) S) [.ref (G.2.2 (10, 0)), .int (nI K1)].toArray s 0 0 A) (F0 m 54 ls [])) → W p l e rmX5_presumed s m [.ref (G.2.2 (10, 0)), .int (nI K1)].toArray below meth c H locs 0 0 (MQ below (kQ G kM Z A (some (.int ((lX5_presumed K1 F1 0 (S.1 11 5 K1) S)))) S) [.ref (G.2.2 (10, 0)), .int (nI K1)].toArray s 0 0 A) (F0 m 9 ls []) := by
    intro n
    induction n with
    | zero =>
      intro i a1 H locs ls hin hw hl kx
      have z_1 : (nI F1) ≤ (nI i) := (nI_le (a := F1) (b := i) (by omega) (by omega))
      refine lv_iload_n hx hb dX5_presumed_9 rfl (lv_at hl 3 rfl) ?_
      refine lv_aload_n hx hb dX5_presumed_10 rfl (lv_at hl 0 rfl) ?_
      refine g_10_7 hx hb hts hiX5 hown hK hw kM_10 (hts (.fieldLink RX5 74 "BranchPredictorModel" "flying" "I") (by decide +kernel)) dX5_presumed_11 ?_
      refine k_topi (z := nI F1) (h_F1) ?_
      refine lv_icmp_ge (tgt := 54) hx hb dX5_presumed_14 (by decide) (fun _ => ?_) (fun h9 => absurd z_1 h9)
      have hin : i = F1 := hin
      rw [hin] at hl
      exact kx H locs ls hw (lv_sub hl [0, 1, 2, 3] rfl)
    | succ n ih =>
      intro i a1 H locs ls hin hw hl kx
      have hi : i < F1 := by omega
      have hi31 : i < 2 ^ 31 := Nat.lt_trans hi (by omega)
      have z_2 : ¬ ((nI F1) ≤ (nI i)) := (nI_ge (a := i) (b := F1) hi (by omega))
      refine lv_iload_n hx hb dX5_presumed_9 rfl (lv_at hl 3 rfl) ?_
      refine lv_aload_n hx hb dX5_presumed_10 rfl (lv_at hl 0 rfl) ?_
      refine g_10_7 hx hb hts hiX5 hown hK hw kM_10 (hts (.fieldLink RX5 74 "BranchPredictorModel" "flying" "I") (by decide +kernel)) dX5_presumed_11 ?_
      refine k_topi (z := nI F1) (h_F1) ?_
      refine lv_icmp_ge (tgt := 54) hx hb dX5_presumed_14 (by decide) (fun h9 => absurd h9 z_2) (fun _ => ?_)
      refine lv_aload_n hx hb dX5_presumed_17 rfl (lv_at hl 0 rfl) ?_
      refine g_10_8 hx hb hts hiX5 hown hK hw kM_10 (hts (.fieldLink RX5 16 "BranchPredictorModel" "places" "[I") (by decide +kernel)) dX5_presumed_18 ?_
      refine lv_iload_n hx hb dX5_presumed_21 rfl (lv_at hl 3 rfl) ?_
      refine ld_11_2 hx hb hK hw kM_11_2 (vp_in_nI (by first | omega | (split <;> omega)) (by decide)) dX5_presumed_22 ?_
      refine k_topi (z := S.1 11 2 i) (by rw [nI_clamp hi31]) ?_
      refine lv_aload_n hx hb dX5_presumed_23 rfl (lv_at hl 0 rfl) ?_
      refine g_10_14 hx hb hts hiX5 hown hK hw kM_10 (hts (.fieldLink RX5 35 "BranchPredictorModel" "loopPlaces" "[I") (by decide +kernel)) dX5_presumed_24 ?_
      refine lv_iload_n hx hb dX5_presumed_27 rfl (lv_at hl 1 rfl) ?_
      refine ld_11_4 hx hb hK hw kM_11_4 (vp_in_nI (by first | omega | (split <;> omega)) (by decide)) dX5_presumed_28 ?_
      refine k_topi (z := S.1 11 4 K1) (by rw [nI_clamp (show K1 < 2 ^ 31 from by first | omega | (split <;> omega))]) ?_
      refine lv_icmp_ne (tgt := 48) hx hb dX5_presumed_29 (by decide) (fun c_3 => ?_) (fun c_3 => ?_)
      · skip
        refine lv_iinc (v := nI (i + 1)) (lv' := [(3, .int (nI (i + 1))), (0, .ref (G.2.2 (10, 0))), (1, .int (nI K1)), (2, .int (a1))]) hx hb dX5_presumed_48 hl (k := 3) rfl (by rw [← nI_1]; rfl) (by decide) rfl (fun ls hl => ?_)
        refine lv_goto (tgt := 9) hx hb dX5_presumed_51 (by decide) ?_
        exact ih (i + 1) a1 H locs ls (by omega) hw (lv_sub hl [1, 2, 3, 0] rfl) (by rw [(show (lX5_presumed K1 (n + 1) i a1 S) = (lX5_presumed K1 n (i + 1) a1 S) from by rw [lX5_presumed, if_neg c_3])] at kx; exact kx)
      · skip
        refine lv_aload_n hx hb dX5_presumed_32 rfl (lv_at hl 0 rfl) ?_
        refine lv_iload_n hx hb dX5_presumed_33 rfl (lv_at hl 3 rfl) ?_
        refine k_callV (C := RX5) (n := 1) (rest := []) ⟨hx, hb, hml, hown, hts⟩ (cX5c_isTaken l G Z S i (by omega)) (cwV 1 hts gX5_presumed_X5_isTaken rfl rfl rfl (by decide +kernel) ⟨Nat.le_of_ble_eq_true rfl, Nat.le_of_ble_eq_true rfl⟩) (k_recv hK hw kM_10 rfl rfl) hK hN hZ hA hw (Nat.zero_le _) (Nat.zero_le _) rfl hl.1 rfl (Nat.le_of_ble_eq_true rfl) dX5_presumed_34 (fun H locs hw => ?_)
        refine W.eq (g2 := F0 m 37 ls [.int (bI ((fX5_isTaken S i)))]) rfl ?_
        refine k_join (P := fun x9 : Int32 => W p l e rmX5_presumed s m [.ref (G.2.2 (10, 0)), .int (nI K1)].toArray below meth c H locs 0 0 (MQ below (kQ G kM Z A (some (.int ((lX5_presumed K1 F1 0 (S.1 11 5 K1) S)))) S) [.ref (G.2.2 (10, 0)), .int (nI K1)].toArray s 0 0 A) (F0 m 47 ls [.int (x9)])) (C := (fX5_isTaken S i) = false) (a := (0 : Int32)) (b := a1 + (1 : Int32)) ?_ (fun ka kb => ?_)
        rotate_left
        · refine k_if_eq (b := (fX5_isTaken S i)) (tgt := 46) hx hb dX5_presumed_37 (by decide) (fun c_4 => ?_) (fun c_4 => ?_)
          · skip
            refine lv_iconst (v := 0) hx hb dX5_presumed_46 (by decide) ?_
            exact ka c_4
          · skip
            refine lv_iload_n hx hb dX5_presumed_40 rfl (lv_at hl 2 rfl) ?_
            refine lv_iconst (v := 1) hx hb dX5_presumed_41 (by decide) ?_
            refine lv_iadd hx hb dX5_presumed_42 ?_
            refine lv_goto (tgt := 47) hx hb dX5_presumed_43 (by decide) ?_
            exact kb c_4
        show W p l e rmX5_presumed s m [.ref (G.2.2 (10, 0)), .int (nI K1)].toArray below meth c H locs 0 0 (MQ below (kQ G kM Z A (some (.int ((lX5_presumed K1 F1 0 (S.1 11 5 K1) S)))) S) [.ref (G.2.2 (10, 0)), .int (nI K1)].toArray s 0 0 A) (F0 m 47 ls [.int (if (fX5_isTaken S i) = false then (0 : Int32) else a1 + (1 : Int32))])
        refine lv_istore_n (lv' := [(2, .int (if (fX5_isTaken S i) = false then (0 : Int32) else a1 + (1 : Int32))), (0, .ref (G.2.2 (10, 0))), (1, .int (nI K1)), (3, .int (nI i))]) hx hb dX5_presumed_47 rfl hl (by decide) rfl (fun ls hl => ?_)
        refine lv_iinc (v := nI (i + 1)) (lv' := [(3, .int (nI (i + 1))), (2, .int (if (fX5_isTaken S i) = false then (0 : Int32) else a1 + (1 : Int32))), (0, .ref (G.2.2 (10, 0))), (1, .int (nI K1))]) hx hb dX5_presumed_48 hl (k := 3) rfl (by rw [← nI_1]; rfl) (by decide) rfl (fun ls hl => ?_)
        refine lv_goto (tgt := 9) hx hb dX5_presumed_51 (by decide) ?_
        exact ih (i + 1) (if (fX5_isTaken S i) = false then (0 : Int32) else a1 + (1 : Int32)) H locs ls (by omega) hw (lv_sub hl [2, 3, 1, 0] rfl) (by rw [(show (lX5_presumed K1 (n + 1) i a1 S) = (lX5_presumed K1 n (i + 1) (if (fX5_isTaken S i) = false then (0 : Int32) else a1 + (1 : Int32)) S) from by rw [lX5_presumed, if_pos c_3])] at kx; exact kx)
  refine hloop_lX5_presumed F1 0 (S.1 11 5 K1) H locs ls (by omega) hw (lv_sub hl [2, 3, 1, 0] rfl) (fun H locs ls hw hl => ?_)
  refine lv_iload_n hx hb dX5_presumed_54 rfl (lv_at hl 2 rfl) ?_
  exact k_iret hx hb hr hlocks hK hw rfl rfl dX5_presumed_55
def fX5_isFlying (S : uS) (x1 : Int32) : Bool :=
  if x1 < (0 : Int32) then false
  else if (S.1 10 0 7) ≤ x1 then false else true
abbrev rmX5_isFlying : Room := { frames := 0, cells := 0, slots := 0, locals := 0 }
set_option maxHeartbeats 4000000 in
set_option maxRecDepth 100000 in
theorem cX5c_isFlying (l : Launch) (G : gG) (Z : va_W) (S : uS) (x1 : Int32) : kMet l yX5_isFlying wsX5_isFlying rmX5_isFlying G kM Z S [.ref (G.2.2 (10, 0)), .int (x1)] (some (.int (bI ((fX5_isFlying S x1))))) S := by
  refine kMet_of (cc := cX5_isFlying) (maxL := 2) (ret := (some .boolean)) (by decide) rfl (Nat.le_of_ble_eq_true rfl) ?_
  intro p e s m below meth c hx hb hr hml hlocks hts hown hK hN A hZ hA H locs hw ls hl
  have hl : lv_has ls 2 [(0, .ref (G.2.2 (10, 0))), (1, .int (x1))] := hl
  have hiX5 : ∀ w ∈ wsX50, w ∈ wsX5_isFlying := by decide +kernel
  refine lv_iload_n hx hb dX5_isFlying_0 rfl (lv_at hl 1 rfl) ?_
  refine lv_if_lt (x := x1) (tgt := 16) hx hb dX5_isFlying_1 (by decide) (fun c_1 => ?_) (fun c_1 => ?_)
  · skip
    refine lv_iconst (v := 0) hx hb dX5_isFlying_16 (by decide) ?_
    exact k_zret (r := false) hx hb hr hlocks hK hw (congrArg (fun z : Bool => some (Value.int (bI (z)))) (show (fX5_isFlying S x1) = false from by unfold fX5_isFlying; rw [if_pos c_1])) rfl dX5_isFlying_17
  · skip
    refine lv_iload_n hx hb dX5_isFlying_4 rfl (lv_at hl 1 rfl) ?_
    refine lv_aload_n hx hb dX5_isFlying_5 rfl (lv_at hl 0 rfl) ?_
    refine g_10_7 hx hb hts hiX5 hown hK hw kM_10 (hts (.fieldLink RX5 74 "BranchPredictorModel" "flying" "I") (by decide +kernel)) dX5_isFlying_6 ?_
    refine k_join (P := fun x9 : Bool => W p l e rmX5_isFlying s m [.ref (G.2.2 (10, 0)), .int (x1)].toArray below meth c H locs 0 0 (MQ below (kQ G kM Z A (some (.int (bI ((fX5_isFlying S x1))))) S) [.ref (G.2.2 (10, 0)), .int (x1)].toArray s 0 0 A) (F0 m 17 ls [.int (bI (x9))])) (C := (S.1 10 0 7) ≤ x1) (a := false) (b := true) ?_ (fun ka kb => ?_)
    rotate_left
    · refine lv_icmp_ge (tgt := 16) hx hb dX5_isFlying_9 (by decide) (fun c_2 => ?_) (fun c_2 => ?_)
      · skip
        refine lv_iconst (v := 0) hx hb dX5_isFlying_16 (by decide) ?_
        exact ka c_2
      · skip
        refine lv_iconst (v := 1) hx hb dX5_isFlying_12 (by decide) ?_
        refine lv_goto (tgt := 17) hx hb dX5_isFlying_13 (by decide) ?_
        exact kb c_2
    show W p l e rmX5_isFlying s m [.ref (G.2.2 (10, 0)), .int (x1)].toArray below meth c H locs 0 0 (MQ below (kQ G kM Z A (some (.int (bI ((fX5_isFlying S x1))))) S) [.ref (G.2.2 (10, 0)), .int (x1)].toArray s 0 0 A) (F0 m 17 ls [.int (bI (if (S.1 10 0 7) ≤ x1 then false else true))])
    exact k_zret (r := if (S.1 10 0 7) ≤ x1 then false else true) hx hb hr hlocks hK hw (congrArg (fun z : Bool => some (Value.int (bI (z)))) (show (fX5_isFlying S x1) = if (S.1 10 0 7) ≤ x1 then false else true from by unfold fX5_isFlying; rw [if_neg c_1])) rfl dX5_isFlying_17
def fX5_isWrong (S : uS) (J1 : Nat) : Bool :=
  if (S.2.2 12 1 J1) = false then false
  else if (S.2.2 12 2 J1) = (S.2.2 12 0 (4 * J1 + 3)) then false else true
abbrev rmX5_isWrong : Room := { frames := 0, cells := 0, slots := 0, locals := 0 }
set_option maxHeartbeats 4000000 in
set_option maxRecDepth 100000 in
theorem cX5c_isWrong (l : Launch) (G : gG) (Z : va_W) (S : uS) (J1 : Nat) (h_J1b : J1 < 16) : kMet l yX5_isWrong wsX5_isWrong rmX5_isWrong G kM Z S [.ref (G.2.2 (10, 0)), .int (nI J1)] (some (.int (bI ((fX5_isWrong S J1))))) S := by
  refine kMet_of (cc := cX5_isWrong) (maxL := 2) (ret := (some .boolean)) (by decide) rfl (Nat.le_of_ble_eq_true rfl) ?_
  intro p e s m below meth c hx hb hr hml hlocks hts hown hK hN A hZ hA H locs hw ls hl
  have hl : lv_has ls 2 [(0, .ref (G.2.2 (10, 0))), (1, .int (nI J1))] := hl
  have hiX5 : ∀ w ∈ wsX50, w ∈ wsX5_isWrong := by decide +kernel
  refine lv_aload_n hx hb dX5_isWrong_0 rfl (lv_at hl 0 rfl) ?_
  refine g_10_11 hx hb hts hiX5 hown hK hw kM_10 (hts (.fieldLink RX5 26 "BranchPredictorModel" "areResolved" "[Z") (by decide +kernel)) dX5_isWrong_1 ?_
  refine lv_iload_n hx hb dX5_isWrong_4 rfl (lv_at hl 1 rfl) ?_
  refine ld_12_1 hx hb hK hw kM_12_1 (vp_in_nI (by first | omega | (split <;> omega)) (by decide)) dX5_isWrong_5 ?_
  refine k_topz (z := S.2.2 12 1 J1) (by rw [nI_clamp (show J1 < 2 ^ 31 from by first | omega | (split <;> omega))]) ?_
  refine k_if_eq (b := S.2.2 12 1 J1) (tgt := 32) hx hb dX5_isWrong_6 (by decide) (fun c_1 => ?_) (fun c_1 => ?_)
  · skip
    refine lv_iconst (v := 0) hx hb dX5_isWrong_32 (by decide) ?_
    exact k_zret (r := false) hx hb hr hlocks hK hw (congrArg (fun z : Bool => some (Value.int (bI (z)))) (show (fX5_isWrong S J1) = false from by unfold fX5_isWrong; rw [if_pos c_1])) rfl dX5_isWrong_33
  · skip
    refine lv_aload_n hx hb dX5_isWrong_9 rfl (lv_at hl 0 rfl) ?_
    refine g_10_12 hx hb hts hiX5 hown hK hw kM_10 (hts (.fieldLink RX5 29 "BranchPredictorModel" "outcomes" "[Z") (by decide +kernel)) dX5_isWrong_10 ?_
    refine lv_iload_n hx hb dX5_isWrong_13 rfl (lv_at hl 1 rfl) ?_
    refine ld_12_2 hx hb hK hw kM_12_2 (vp_in_nI (by first | omega | (split <;> omega)) (by decide)) dX5_isWrong_14 ?_
    refine k_topz (z := S.2.2 12 2 J1) (by rw [nI_clamp (show J1 < 2 ^ 31 from by first | omega | (split <;> omega))]) ?_
    refine lv_aload_n hx hb dX5_isWrong_15 rfl (lv_at hl 0 rfl) ?_
    refine g_10_10 hx hb hts hiX5 hown hK hw kM_10 (hts (.fieldLink RX5 22 "BranchPredictorModel" "predictions" "[Z") (by decide +kernel)) dX5_isWrong_16 ?_
    refine lv_iconst (v := 4) hx hb dX5_isWrong_19 (by decide) ?_
    refine lv_iload_n hx hb dX5_isWrong_20 rfl (lv_at hl 1 rfl) ?_
    refine lv_imul hx hb dX5_isWrong_21 ?_
    refine k_topi (z := nI (4 * J1)) (pk_mul 4 J1) ?_
    refine lv_iconst (v := 3) hx hb dX5_isWrong_22 (by decide) ?_
    refine lv_iadd hx hb dX5_isWrong_23 ?_
    refine k_topi (z := nI (4 * J1 + 3)) (nI_add (4 * J1) 3) ?_
    refine ld_12_0 hx hb hK hw kM_12_0 (vp_in_nI (by first | omega | (split <;> omega)) (by decide)) dX5_isWrong_24 ?_
    refine k_topz (z := S.2.2 12 0 (4 * J1 + 3)) (by rw [nI_clamp (show 4 * J1 + 3 < 2 ^ 31 from by first | omega | (split <;> omega))]) ?_
    refine k_join (P := fun x9 : Bool => W p l e rmX5_isWrong s m [.ref (G.2.2 (10, 0)), .int (nI J1)].toArray below meth c H locs 0 0 (MQ below (kQ G kM Z A (some (.int (bI ((fX5_isWrong S J1))))) S) [.ref (G.2.2 (10, 0)), .int (nI J1)].toArray s 0 0 A) (F0 m 33 ls [.int (bI (x9))])) (C := (S.2.2 12 2 J1) = (S.2.2 12 0 (4 * J1 + 3))) (a := false) (b := true) ?_ (fun ka kb => ?_)
    rotate_left
    · refine k_icmp_eq (a := S.2.2 12 2 J1) (b := S.2.2 12 0 (4 * J1 + 3)) (tgt := 32) hx hb dX5_isWrong_25 (by decide) (fun c_2 => ?_) (fun c_2 => ?_)
      · skip
        refine lv_iconst (v := 0) hx hb dX5_isWrong_32 (by decide) ?_
        exact ka c_2
      · skip
        refine lv_iconst (v := 1) hx hb dX5_isWrong_28 (by decide) ?_
        refine lv_goto (tgt := 33) hx hb dX5_isWrong_29 (by decide) ?_
        exact kb c_2
    show W p l e rmX5_isWrong s m [.ref (G.2.2 (10, 0)), .int (nI J1)].toArray below meth c H locs 0 0 (MQ below (kQ G kM Z A (some (.int (bI ((fX5_isWrong S J1))))) S) [.ref (G.2.2 (10, 0)), .int (nI J1)].toArray s 0 0 A) (F0 m 33 ls [.int (bI (if (S.2.2 12 2 J1) = (S.2.2 12 0 (4 * J1 + 3)) then false else true))])
    exact k_zret (r := if (S.2.2 12 2 J1) = (S.2.2 12 0 (4 * J1 + 3)) then false else true) hx hb hr hlocks hK hw (congrArg (fun z : Bool => some (Value.int (bI (z)))) (show (fX5_isWrong S J1) = if (S.2.2 12 2 J1) = (S.2.2 12 0 (4 * J1 + 3)) then false else true from by unfold fX5_isWrong; rw [if_neg c_1])) rfl dX5_isWrong_33
def fX5_isKind (S : uS) (x1 : Int32) : Bool :=
  if x1 < (0 : Int32) then false
  else if (4 : Int32) ≤ x1 then false else true
abbrev rmX5_isKind : Room := { frames := 0, cells := 0, slots := 0, locals := 0 }
set_option maxHeartbeats 4000000 in
set_option maxRecDepth 100000 in
theorem cX5c_isKind (l : Launch) (G : gG) (Z : va_W) (S : uS) (x1 : Int32) : kMet l yX5_isKind wsX5_isKind rmX5_isKind G kM Z S [.int (x1)] (some (.int (bI ((fX5_isKind S x1))))) S := by
  refine kMet_of (cc := cX5_isKind) (maxL := 1) (ret := (some .boolean)) (by decide) rfl (Nat.le_of_ble_eq_true rfl) ?_
  intro p e s m below meth c hx hb hr hml hlocks hts hown hK hN A hZ hA H locs hw ls hl
  have hl : lv_has ls 1 [(0, .int (x1))] := hl
  refine lv_iload_n hx hb dX5_isKind_0 rfl (lv_at hl 0 rfl) ?_
  refine lv_if_lt (x := x1) (tgt := 13) hx hb dX5_isKind_1 (by decide) (fun c_1 => ?_) (fun c_1 => ?_)
  · skip
    refine lv_iconst (v := 0) hx hb dX5_isKind_13 (by decide) ?_
    exact k_zret (r := false) hx hb hr hlocks hK hw (congrArg (fun z : Bool => some (Value.int (bI (z)))) (show (fX5_isKind S x1) = false from by unfold fX5_isKind; rw [if_pos c_1])) rfl dX5_isKind_14
  · skip
    refine lv_iload_n hx hb dX5_isKind_4 rfl (lv_at hl 0 rfl) ?_
    refine lv_iconst (v := 4) hx hb dX5_isKind_5 (by decide) ?_
    refine k_join (P := fun x9 : Bool => W p l e rmX5_isKind s m [.int (x1)].toArray below meth c H locs 0 0 (MQ below (kQ G kM Z A (some (.int (bI ((fX5_isKind S x1))))) S) [.int (x1)].toArray s 0 0 A) (F0 m 14 ls [.int (bI (x9))])) (C := (4 : Int32) ≤ x1) (a := false) (b := true) ?_ (fun ka kb => ?_)
    rotate_left
    · refine lv_icmp_ge (tgt := 13) hx hb dX5_isKind_6 (by decide) (fun c_2 => ?_) (fun c_2 => ?_)
      · skip
        refine lv_iconst (v := 0) hx hb dX5_isKind_13 (by decide) ?_
        exact ka c_2
      · skip
        refine lv_iconst (v := 1) hx hb dX5_isKind_9 (by decide) ?_
        refine lv_goto (tgt := 14) hx hb dX5_isKind_10 (by decide) ?_
        exact kb c_2
    show W p l e rmX5_isKind s m [.int (x1)].toArray below meth c H locs 0 0 (MQ below (kQ G kM Z A (some (.int (bI ((fX5_isKind S x1))))) S) [.int (x1)].toArray s 0 0 A) (F0 m 14 ls [.int (bI (if (4 : Int32) ≤ x1 then false else true))])
    exact k_zret (r := if (4 : Int32) ≤ x1 then false else true) hx hb hr hlocks hK hw (congrArg (fun z : Bool => some (Value.int (bI (z)))) (show (fX5_isKind S x1) = if (4 : Int32) ≤ x1 then false else true from by unfold fX5_isKind; rw [if_neg c_1])) rfl dX5_isKind_14
