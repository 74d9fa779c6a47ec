theorem i_nI0 {x : Int32} {n : Nat} (h0 : ¬ x < 0) (h : ¬ nI n ≤ x) (hn : n < 2 ^ 31) : vp_in x n := by
  obtain ⟨j, h1, h2⟩ := nI_of h0
  rw [h2] at h ⊢
  refine vp_in_nI ?_ hn
  rw [nI_leI hn h1] at h
  omega
def okPlace (x1 : Int32) : Bool := if x1 < (0 : Int32) then false else if x1 ≤ (65535 : Int32) then true else false
def okKind (x1 : Int32) : Bool := if x1 < (0 : Int32) then false else if x1 < (4 : Int32) then true else false
def okFly (S : uS) (x1 : Int32) : Bool := if x1 < (0 : Int32) then false else if x1 < S.1 0 0 13 then true else false
theorem okKind_in {x : Int32} (h : okKind x = true) : vp_in x 4 := by
  unfold okKind at h
  by_cases h0 : x < 0
  · rw [if_pos h0] at h; cases h
  · rw [if_neg h0] at h
    by_cases h1 : x < 4
    · obtain ⟨j, h2, h3⟩ := nI_of h0
      rw [h3] at h1 ⊢
      exact vp_in_nI ((nI_ltI h2 (show 4 < 2 ^ 31 by decide)).mp h1) (by decide)
    · rw [if_neg h1] at h; cases h
abbrev rmX4_requirePlace : Room := { frames := 6, cells := 1, slots := 6, locals := 82 }
set_option maxHeartbeats 4000000 in
set_option maxRecDepth 100000 in
theorem cX4c_requirePlace (l : Launch) (hlt : l.stackTraces = false) (G : gG) (Z : va_W) (S : uS) (x1 : Int32) : kMetX l yX4_requirePlace wsX4_requirePlace rmX4_requirePlace G kC Z S [.int (x1)] (if okPlace x1 = true then .inl (none, S) else .inr "java/lang/IllegalArgumentException") 1 6 := by
  refine kMetX_of (cc := cX4_requirePlace) (maxL := 1) (ret := none) (by decide) rfl (Nat.le_of_ble_eq_true rfl) ?_
  intro p e s m below meth c hx hb hr hml hlocks hno hts hown hK hN A hZ hA H locs hw ls hl
  have hl : lv_has ls 1 [(0, .int (x1))] := hl
  refine lv_iload_n hx hb dX4_requirePlace_0 rfl (lv_at hl 0 rfl) ?_
  refine lv_if_lt (x := x1) (tgt := 10) hx hb dX4_requirePlace_1 (by decide) (fun c_1 => ?_) (fun c_1 => ?_)
  · skip
    exact kx_throw (cls := "java/lang/IllegalArgumentException") (ik := 68) (is := 200) (ic := 72) hx hb hlt hown (by decide) (hts (.classLink RX4 68 "java/lang/IllegalArgumentException") (by decide +kernel)) (hts (.initialized "java/lang/IllegalArgumentException") (by decide +kernel)) hN (by decide) (kx_at_72 hN (fun w h => hts w (List.mem_cons_of_mem _ (List.mem_append_right _ h)))) vx_ok_72 hK hZ hw (hl.1.trans hml.symm) hno dX4_requirePlace_10 dX4_requirePlace_13 dX4_requirePlace_14 dX4_requirePlace_16 dX4_requirePlace_19 (Nat.le_of_ble_eq_true rfl) (Nat.le_of_ble_eq_true rfl) (Nat.le_of_ble_eq_true rfl) (Nat.le_of_ble_eq_true rfl) hlocks (if_neg (by unfold okPlace; rw [if_pos c_1]; decide)) (Nat.le_of_ble_eq_true rfl) (Nat.le_of_ble_eq_true rfl)
  · skip
    refine lv_iload_n hx hb dX4_requirePlace_4 rfl (lv_at hl 0 rfl) ?_
    refine lv_ldc (v := 65535) hx hb hown (hts (.constant RX4 199 (65535)) (by decide +kernel)) dX4_requirePlace_5 ?_
    refine lv_icmp_le (tgt := 20) hx hb dX4_requirePlace_7 (by decide) (fun c_2 => ?_) (fun c_2 => ?_)
    · skip
      exact kx_ret (if_pos (by unfold okPlace; rw [if_neg c_1, if_pos c_2])) (Nat.le_of_ble_eq_true rfl) (Nat.le_of_ble_eq_true rfl) (k_vret hx hb hr hlocks hK hw rfl rfl dX4_requirePlace_20)
    · skip
      exact kx_throw (cls := "java/lang/IllegalArgumentException") (ik := 68) (is := 200) (ic := 72) hx hb hlt hown (by decide) (hts (.classLink RX4 68 "java/lang/IllegalArgumentException") (by decide +kernel)) (hts (.initialized "java/lang/IllegalArgumentException") (by decide +kernel)) hN (by decide) (kx_at_72 hN (fun w h => hts w (List.mem_cons_of_mem _ (List.mem_append_right _ h)))) vx_ok_72 hK hZ hw (hl.1.trans hml.symm) hno dX4_requirePlace_10 dX4_requirePlace_13 dX4_requirePlace_14 dX4_requirePlace_16 dX4_requirePlace_19 (Nat.le_of_ble_eq_true rfl) (Nat.le_of_ble_eq_true rfl) (Nat.le_of_ble_eq_true rfl) (Nat.le_of_ble_eq_true rfl) hlocks (if_neg (by unfold okPlace; rw [if_neg c_1, if_neg c_2]; decide)) (Nat.le_of_ble_eq_true rfl) (Nat.le_of_ble_eq_true rfl)
abbrev rmX4_requireKind : Room := { frames := 6, cells := 1, slots := 6, locals := 82 }
set_option maxHeartbeats 4000000 in
set_option maxRecDepth 100000 in
theorem cX4c_requireKind (l : Launch) (hlt : l.stackTraces = false) (G : gG) (Z : va_W) (S : uS) (x1 : Int32) : kMetX l yX4_requireKind wsX4_requireKind rmX4_requireKind G kC Z S [.int (x1)] (if okKind x1 = true then .inl (none, S) else .inr "java/lang/IndexOutOfBoundsException") 1 6 := by
  refine kMetX_of (cc := cX4_requireKind) (maxL := 1) (ret := none) (by decide) rfl (Nat.le_of_ble_eq_true rfl) ?_
  intro p e s m below meth c hx hb hr hml hlocks hno hts hown hK hN A hZ hA H locs hw ls hl
  have hl : lv_has ls 1 [(0, .int (x1))] := hl
  refine lv_iload_n hx hb dX4_requireKind_0 rfl (lv_at hl 0 rfl) ?_
  refine lv_if_lt (x := x1) (tgt := 9) hx hb dX4_requireKind_1 (by decide) (fun c_1 => ?_) (fun c_1 => ?_)
  · skip
    exact kx_throw (cls := "java/lang/IndexOutOfBoundsException") (ik := 135) (is := 202) (ic := 139) hx hb hlt hown (by decide) (hts (.classLink RX4 135 "java/lang/IndexOutOfBoundsException") (by decide +kernel)) (hts (.initialized "java/lang/IndexOutOfBoundsException") (by decide +kernel)) hN (by decide) (kx_at_139 hN (fun w h => hts w (List.mem_cons_of_mem _ (List.mem_append_right _ h)))) vx_ok_139 hK hZ hw (hl.1.trans hml.symm) hno dX4_requireKind_9 dX4_requireKind_12 dX4_requireKind_13 dX4_requireKind_15 dX4_requireKind_18 (Nat.le_of_ble_eq_true rfl) (Nat.le_of_ble_eq_true rfl) (Nat.le_of_ble_eq_true rfl) (Nat.le_of_ble_eq_true rfl) hlocks (if_neg (by unfold okKind; rw [if_pos c_1]; decide)) (Nat.le_of_ble_eq_true rfl) (Nat.le_of_ble_eq_true rfl)
  · skip
    refine lv_iload_n hx hb dX4_requireKind_4 rfl (lv_at hl 0 rfl) ?_
    refine lv_iconst (v := 4) hx hb dX4_requireKind_5 (by decide) ?_
    refine lv_icmp_lt (tgt := 19) hx hb dX4_requireKind_6 (by decide) (fun c_2 => ?_) (fun c_2 => ?_)
    · skip
      exact kx_ret (if_pos (by unfold okKind; rw [if_neg c_1, if_pos c_2])) (Nat.le_of_ble_eq_true rfl) (Nat.le_of_ble_eq_true rfl) (k_vret hx hb hr hlocks hK hw rfl rfl dX4_requireKind_19)
    · skip
      exact kx_throw (cls := "java/lang/IndexOutOfBoundsException") (ik := 135) (is := 202) (ic := 139) hx hb hlt hown (by decide) (hts (.classLink RX4 135 "java/lang/IndexOutOfBoundsException") (by decide +kernel)) (hts (.initialized "java/lang/IndexOutOfBoundsException") (by decide +kernel)) hN (by decide) (kx_at_139 hN (fun w h => hts w (List.mem_cons_of_mem _ (List.mem_append_right _ h)))) vx_ok_139 hK hZ hw (hl.1.trans hml.symm) hno dX4_requireKind_9 dX4_requireKind_12 dX4_requireKind_13 dX4_requireKind_15 dX4_requireKind_18 (Nat.le_of_ble_eq_true rfl) (Nat.le_of_ble_eq_true rfl) (Nat.le_of_ble_eq_true rfl) (Nat.le_of_ble_eq_true rfl) hlocks (if_neg (by unfold okKind; rw [if_neg c_1, if_neg c_2]; decide)) (Nat.le_of_ble_eq_true rfl) (Nat.le_of_ble_eq_true rfl)
abbrev rmX4_requireInFlight : Room := { frames := 6, cells := 1, slots := 6, locals := 82 }
set_option maxHeartbeats 4000000 in
set_option maxRecDepth 100000 in
theorem cX4c_requireInFlight (l : Launch) (hlt : l.stackTraces = false) (G : gG) (Z : va_W) (S : uS) (x1 : Int32) : kMetX l yX4_requireInFlight wsX4_requireInFlight rmX4_requireInFlight G kC Z S [.ref (G.2.2 (0, 0)), .int (x1)] (if okFly S x1 = true then .inl (none, S) else .inr "java/lang/IndexOutOfBoundsException") 1 6 := by
  refine kMetX_of (cc := cX4_requireInFlight) (maxL := 2) (ret := none) (by decide) rfl (Nat.le_of_ble_eq_true rfl) ?_
  intro p e s m below meth c hx hb hr hml hlocks hno hts hown hK hN A hZ hA H locs hw ls hl
  have hl : lv_has ls 2 [(0, .ref (G.2.2 (0, 0))), (1, .int (x1))] := hl
  have hiX4 : ∀ w ∈ wsX40, w ∈ wsX4_requireInFlight := by decide +kernel
  refine lv_iload_n hx hb dX4_requireInFlight_0 rfl (lv_at hl 1 rfl) ?_
  refine lv_if_lt (x := x1) (tgt := 12) hx hb dX4_requireInFlight_1 (by decide) (fun c_1 => ?_) (fun c_1 => ?_)
  · skip
    exact kx_throw (cls := "java/lang/IndexOutOfBoundsException") (ik := 135) (is := 204) (ic := 139) hx hb hlt hown (by decide) (hts (.classLink RX4 135 "java/lang/IndexOutOfBoundsException") (by decide +kernel)) (hts (.initialized "java/lang/IndexOutOfBoundsException") (by decide +kernel)) hN (by decide) (kx_at_139 hN (fun w h => hts w (List.mem_cons_of_mem _ (List.mem_append_right _ h)))) vx_ok_139 hK hZ hw (hl.1.trans hml.symm) hno dX4_requireInFlight_12 dX4_requireInFlight_15 dX4_requireInFlight_16 dX4_requireInFlight_18 dX4_requireInFlight_21 (Nat.le_of_ble_eq_true rfl) (Nat.le_of_ble_eq_true rfl) (Nat.le_of_ble_eq_true rfl) (Nat.le_of_ble_eq_true rfl) hlocks (if_neg (by unfold okFly; rw [if_pos c_1]; decide)) (Nat.le_of_ble_eq_true rfl) (Nat.le_of_ble_eq_true rfl)
  · skip
    refine lv_iload_n hx hb dX4_requireInFlight_4 rfl (lv_at hl 1 rfl) ?_
    refine lv_aload_n hx hb dX4_requireInFlight_5 rfl (lv_at hl 0 rfl) ?_
    refine g_0_13 hx hb hts hiX4 hown hK hw kC_0 (hts (.fieldLink RX4 79 "BranchPredictor" "flying" "I") (by decide +kernel)) dX4_requireInFlight_6 ?_
    refine lv_icmp_lt (tgt := 22) hx hb dX4_requireInFlight_9 (by decide) (fun c_2 => ?_) (fun c_2 => ?_)
    · skip
      exact kx_ret (if_pos (by unfold okFly; rw [if_neg c_1, if_pos c_2])) (Nat.le_of_ble_eq_true rfl) (Nat.le_of_ble_eq_true rfl) (k_vret hx hb hr hlocks hK hw rfl rfl dX4_requireInFlight_22)
    · skip
      exact kx_throw (cls := "java/lang/IndexOutOfBoundsException") (ik := 135) (is := 204) (ic := 139) hx hb hlt hown (by decide) (hts (.classLink RX4 135 "java/lang/IndexOutOfBoundsException") (by decide +kernel)) (hts (.initialized "java/lang/IndexOutOfBoundsException") (by decide +kernel)) hN (by decide) (kx_at_139 hN (fun w h => hts w (List.mem_cons_of_mem _ (List.mem_append_right _ h)))) vx_ok_139 hK hZ hw (hl.1.trans hml.symm) hno dX4_requireInFlight_12 dX4_requireInFlight_15 dX4_requireInFlight_16 dX4_requireInFlight_18 dX4_requireInFlight_21 (Nat.le_of_ble_eq_true rfl) (Nat.le_of_ble_eq_true rfl) (Nat.le_of_ble_eq_true rfl) (Nat.le_of_ble_eq_true rfl) hlocks (if_neg (by unfold okFly; rw [if_neg c_1, if_neg c_2]; decide)) (Nat.le_of_ble_eq_true rfl) (Nat.le_of_ble_eq_true rfl)
def xX4_setSizes (S : uS) (x1 : Int32) (x2 : Int32) (x3 : Int32) : kR :=
  if (fX4_isTableBits S x1) = false then .inr "java/lang/IllegalArgumentException"
  else if (fX4_isTableBits S x2) = false then .inr "java/lang/IllegalArgumentException"
    else if x3 < (0 : Int32) then .inr "java/lang/IllegalArgumentException"
      else if x3 ≤ x2 then if x1 = (S.1 0 0 8) then if x2 = (S.1 0 0 9) then .inl (some (.int (bI (if x3 = (S.1 0 0 10) then false else true))), (fX4_startAnew S x1 x2 x3))
            else .inl (some (.int (bI (true))), (fX4_startAnew S x1 x2 x3))
          else .inl (some (.int (bI (true))), (fX4_startAnew S x1 x2 x3))
        else .inr "java/lang/IllegalArgumentException"
abbrev rmX4_setSizes : Room := { frames := 6, cells := 1, slots := 6, locals := 82 }
set_option maxHeartbeats 4000000 in
set_option maxRecDepth 100000 in
theorem cX4c_setSizes (l : Launch) (hlt : l.stackTraces = false) (G : gG) (Z : va_W) (S : uS) (x1 : Int32) (x2 : Int32) (x3 : Int32) : kMetX l yX4_setSizes wsX4_setSizes rmX4_setSizes G kC Z S [.ref (G.2.2 (0, 0)), .int (x1), .int (x2), .int (x3)] (xX4_setSizes S x1 x2 x3) 1 6 := by
  refine kMetX_of (cc := cX4_setSizes) (maxL := 5) (ret := (some .boolean)) (by decide) rfl (Nat.le_of_ble_eq_true rfl) ?_
  intro p e s m below meth c hx hb hr hml hlocks hno hts hown hK hN A hZ hA H locs hw ls hl
  have hl : lv_has ls 5 [(0, .ref (G.2.2 (0, 0))), (1, .int (x1)), (2, .int (x2)), (3, .int (x3))] := hl
  have hiX4 : ∀ w ∈ wsX40, w ∈ wsX4_setSizes := by decide +kernel
  refine lv_iload_n hx hb dX4_setSizes_0 rfl (lv_at hl 1 rfl) ?_
  refine k_callS (n := 1) (rest := []) ⟨hx, hb, hml, hown, hts⟩ (cX4c_isTableBits l G Z S x1) (va_cwS 1 hts gX4_setSizes_X4_isTableBits rfl rfl rfl (by decide +kernel) ⟨Nat.le_of_ble_eq_true rfl, Nat.le_of_ble_eq_true rfl⟩) hK hN hZ hA hw (Nat.le_of_ble_eq_true rfl) (Nat.le_of_ble_eq_true rfl) rfl hl.1 rfl (Nat.le_of_ble_eq_true rfl) dX4_setSizes_1 (fun H locs hw => ?_)
  refine W.eq (g2 := F0 m 4 ls [.int (bI ((fX4_isTableBits S x1)))]) rfl ?_
  refine k_if_eq (b := (fX4_isTableBits S x1)) (tgt := 23) hx hb dX4_setSizes_4 (by decide) (fun c_1 => ?_) (fun c_1 => ?_)
  · skip
    exact kx_throw (cls := "java/lang/IllegalArgumentException") (ik := 68) (is := 70) (ic := 72) hx hb hlt hown (by decide) (hts (.classLink RX4 68 "java/lang/IllegalArgumentException") (by decide +kernel)) (hts (.initialized "java/lang/IllegalArgumentException") (by decide +kernel)) hN (by decide) (kx_at_72 hN (fun w h => hts w (List.mem_cons_of_mem _ (List.mem_append_right _ h)))) vx_ok_72 hK hZ hw (hl.1.trans hml.symm) hno dX4_setSizes_23 dX4_setSizes_26 dX4_setSizes_27 dX4_setSizes_29 dX4_setSizes_32 (Nat.le_of_ble_eq_true rfl) (Nat.le_of_ble_eq_true rfl) (Nat.le_of_ble_eq_true rfl) (Nat.le_of_ble_eq_true rfl) hlocks (show (xX4_setSizes S x1 x2 x3) = .inr "java/lang/IllegalArgumentException" from by unfold xX4_setSizes; rw [if_pos c_1]) (Nat.le_of_ble_eq_true rfl) (Nat.le_of_ble_eq_true rfl)
  · skip
    refine lv_iload_n hx hb dX4_setSizes_7 rfl (lv_at hl 2 rfl) ?_
    refine k_callS (n := 1) (rest := []) ⟨hx, hb, hml, hown, hts⟩ (cX4c_isTableBits l G Z S x2) (va_cwS 1 hts gX4_setSizes_X4_isTableBits rfl rfl rfl (by decide +kernel) ⟨Nat.le_of_ble_eq_true rfl, Nat.le_of_ble_eq_true rfl⟩) hK hN hZ hA hw (Nat.le_of_ble_eq_true rfl) (Nat.le_of_ble_eq_true rfl) rfl hl.1 rfl (Nat.le_of_ble_eq_true rfl) dX4_setSizes_8 (fun H locs hw => ?_)
    refine W.eq (g2 := F0 m 11 ls [.int (bI ((fX4_isTableBits S x2)))]) rfl ?_
    refine k_if_eq (b := (fX4_isTableBits S x2)) (tgt := 23) hx hb dX4_setSizes_11 (by decide) (fun c_2 => ?_) (fun c_2 => ?_)
    · skip
      exact kx_throw (cls := "java/lang/IllegalArgumentException") (ik := 68) (is := 70) (ic := 72) hx hb hlt hown (by decide) (hts (.classLink RX4 68 "java/lang/IllegalArgumentException") (by decide +kernel)) (hts (.initialized "java/lang/IllegalArgumentException") (by decide +kernel)) hN (by decide) (kx_at_72 hN (fun w h => hts w (List.mem_cons_of_mem _ (List.mem_append_right _ h)))) vx_ok_72 hK hZ hw (hl.1.trans hml.symm) hno dX4_setSizes_23 dX4_setSizes_26 dX4_setSizes_27 dX4_setSizes_29 dX4_setSizes_32 (Nat.le_of_ble_eq_true rfl) (Nat.le_of_ble_eq_true rfl) (Nat.le_of_ble_eq_true rfl) (Nat.le_of_ble_eq_true rfl) hlocks (show (xX4_setSizes S x1 x2 x3) = .inr "java/lang/IllegalArgumentException" from by unfold xX4_setSizes; rw [if_neg c_1, if_pos c_2]) (Nat.le_of_ble_eq_true rfl) (Nat.le_of_ble_eq_true rfl)
    · skip
      refine lv_iload_n hx hb dX4_setSizes_14 rfl (lv_at hl 3 rfl) ?_
      refine lv_if_lt (x := x3) (tgt := 23) hx hb dX4_setSizes_15 (by decide) (fun c_3 => ?_) (fun c_3 => ?_)
      · skip
        exact kx_throw (cls := "java/lang/IllegalArgumentException") (ik := 68) (is := 70) (ic := 72) hx hb hlt hown (by decide) (hts (.classLink RX4 68 "java/lang/IllegalArgumentException") (by decide +kernel)) (hts (.initialized "java/lang/IllegalArgumentException") (by decide +kernel)) hN (by decide) (kx_at_72 hN (fun w h => hts w (List.mem_cons_of_mem _ (List.mem_append_right _ h)))) vx_ok_72 hK hZ hw (hl.1.trans hml.symm) hno dX4_setSizes_23 dX4_setSizes_26 dX4_setSizes_27 dX4_setSizes_29 dX4_setSizes_32 (Nat.le_of_ble_eq_true rfl) (Nat.le_of_ble_eq_true rfl) (Nat.le_of_ble_eq_true rfl) (Nat.le_of_ble_eq_true rfl) hlocks (show (xX4_setSizes S x1 x2 x3) = .inr "java/lang/IllegalArgumentException" from by unfold xX4_setSizes; rw [if_neg c_1, if_neg c_2, if_pos c_3]) (Nat.le_of_ble_eq_true rfl) (Nat.le_of_ble_eq_true rfl)
      · skip
        refine lv_iload_n hx hb dX4_setSizes_18 rfl (lv_at hl 3 rfl) ?_
        refine lv_iload_n hx hb dX4_setSizes_19 rfl (lv_at hl 2 rfl) ?_
        refine lv_icmp_le (tgt := 33) hx hb dX4_setSizes_20 (by decide) (fun c_4 => ?_) (fun c_4 => ?_)
        · skip
          refine lv_iload_n hx hb dX4_setSizes_33 rfl (lv_at hl 1 rfl) ?_
          refine lv_aload_n hx hb dX4_setSizes_34 rfl (lv_at hl 0 rfl) ?_
          refine g_0_8 hx hb hts hiX4 hown hK hw kC_0 (hts (.fieldLink RX4 48 "BranchPredictor" "plainBits" "I") (by decide +kernel)) dX4_setSizes_35 ?_
          refine lv_icmp_ne (tgt := 57) hx hb dX4_setSizes_38 (by decide) (fun c_5 => ?_) (fun c_5 => ?_)
          · skip
            refine lv_iconst (v := 1) hx hb dX4_setSizes_57 (by decide) ?_
            refine lv_goto (tgt := 62) hx hb dX4_setSizes_58 (by decide) ?_
            refine lv_istore (lv' := [(4, .int ((1 : Int32))), (0, .ref (G.2.2 (0, 0))), (1, .int (x1)), (2, .int (x2)), (3, .int (x3))]) hx hb dX4_setSizes_62 hl (by decide) rfl (fun ls hl => ?_)
            refine lv_aload_n hx hb dX4_setSizes_64 rfl (lv_at hl 1 rfl) ?_
            refine lv_iload_n hx hb dX4_setSizes_65 rfl (lv_at hl 2 rfl) ?_
            refine lv_iload_n hx hb dX4_setSizes_66 rfl (lv_at hl 3 rfl) ?_
            refine lv_iload_n hx hb dX4_setSizes_67 rfl (lv_at hl 4 rfl) ?_
            refine k_callV (C := RX4) (n := 3) (rest := []) ⟨hx, hb, hml, hown, hts⟩ (cX4c_startAnew l G Z S x1 x2 x3) (cwV 3 hts gX4_setSizes_X4_startAnew rfl rfl rfl (by decide +kernel) ⟨Nat.le_of_ble_eq_true rfl, Nat.le_of_ble_eq_true rfl⟩) (k_recv hK hw kC_0 rfl rfl) hK hN hZ hA hw (Nat.le_of_ble_eq_true rfl) (Nat.le_of_ble_eq_true rfl) rfl hl.1 rfl (Nat.le_of_ble_eq_true rfl) dX4_setSizes_68 (fun H locs hw => ?_)
            refine W.eq (g2 := F0 m 71 ls []) rfl ?_
            refine lv_iload hx hb dX4_setSizes_71 (lv_at hl 0 rfl) ?_
            exact kx_ret (show (xX4_setSizes S x1 x2 x3) = .inl (some (.int (bI (true))), (fX4_startAnew S x1 x2 x3)) from by unfold xX4_setSizes; rw [if_neg c_1, if_neg c_2, if_neg c_3, if_pos c_4, if_neg c_5]) (Nat.le_of_ble_eq_true rfl) (Nat.le_of_ble_eq_true rfl) (k_zret (r := true) hx hb hr hlocks hK hw rfl rfl dX4_setSizes_73)
          · skip
            refine lv_iload_n hx hb dX4_setSizes_41 rfl (lv_at hl 2 rfl) ?_
            refine lv_aload_n hx hb dX4_setSizes_42 rfl (lv_at hl 0 rfl) ?_
            refine g_0_9 hx hb hts hiX4 hown hK hw kC_0 (hts (.fieldLink RX4 52 "BranchPredictor" "globalBits" "I") (by decide +kernel)) dX4_setSizes_43 ?_
            refine lv_icmp_ne (tgt := 57) hx hb dX4_setSizes_46 (by decide) (fun c_6 => ?_) (fun c_6 => ?_)
            · skip
              refine lv_iconst (v := 1) hx hb dX4_setSizes_57 (by decide) ?_
              refine lv_goto (tgt := 62) hx hb dX4_setSizes_58 (by decide) ?_
              refine lv_istore (lv' := [(4, .int ((1 : Int32))), (0, .ref (G.2.2 (0, 0))), (1, .int (x1)), (2, .int (x2)), (3, .int (x3))]) hx hb dX4_setSizes_62 hl (by decide) rfl (fun ls hl => ?_)
              refine lv_aload_n hx hb dX4_setSizes_64 rfl (lv_at hl 1 rfl) ?_
              refine lv_iload_n hx hb dX4_setSizes_65 rfl (lv_at hl 2 rfl) ?_
              refine lv_iload_n hx hb dX4_setSizes_66 rfl (lv_at hl 3 rfl) ?_
              refine lv_iload_n hx hb dX4_setSizes_67 rfl (lv_at hl 4 rfl) ?_
              refine k_callV (C := RX4) (n := 3) (rest := []) ⟨hx, hb, hml, hown, hts⟩ (cX4c_startAnew l G Z S x1 x2 x3) (cwV 3 hts gX4_setSizes_X4_startAnew rfl rfl rfl (by decide +kernel) ⟨Nat.le_of_ble_eq_true rfl, Nat.le_of_ble_eq_true rfl⟩) (k_recv hK hw kC_0 rfl rfl) hK hN hZ hA hw (Nat.le_of_ble_eq_true rfl) (Nat.le_of_ble_eq_true rfl) rfl hl.1 rfl (Nat.le_of_ble_eq_true rfl) dX4_setSizes_68 (fun H locs hw => ?_)
              refine W.eq (g2 := F0 m 71 ls []) rfl ?_
              refine lv_iload hx hb dX4_setSizes_71 (lv_at hl 0 rfl) ?_
              exact kx_ret (show (xX4_setSizes S x1 x2 x3) = .inl (some (.int (bI (true))), (fX4_startAnew S x1 x2 x3)) from by unfold xX4_setSizes; rw [if_neg c_1, if_neg c_2, if_neg c_3, if_pos c_4, if_pos c_5, if_neg c_6]) (Nat.le_of_ble_eq_true rfl) (Nat.le_of_ble_eq_true rfl) (k_zret (r := true) hx hb hr hlocks hK hw rfl rfl dX4_setSizes_73)
            · skip
              refine lv_iload_n hx hb dX4_setSizes_49 rfl (lv_at hl 3 rfl) ?_
              refine lv_aload_n hx hb dX4_setSizes_50 rfl (lv_at hl 0 rfl) ?_
              refine g_0_10 hx hb hts hiX4 hown hK hw kC_0 (hts (.fieldLink RX4 55 "BranchPredictor" "historyBits" "I") (by decide +kernel)) dX4_setSizes_51 ?_
              refine k_join (P := fun x9 : Bool => W p l e rmX4_setSizes s m [.ref (G.2.2 (0, 0)), .int (x1), .int (x2), .int (x3)].toArray below meth c H locs 0 0 (vx_MQ below (kQx G kC Z A (xX4_setSizes S x1 x2 x3)) (kXx G kC Z A S (xX4_setSizes S x1 x2 x3)) [.ref (G.2.2 (0, 0)), .int (x1), .int (x2), .int (x3)].toArray s 1 6 A) (F0 m 62 ls [.int (bI (x9))])) (C := x3 = (S.1 0 0 10)) (a := false) (b := true) ?_ (fun ka kb => ?_)
              rotate_left
              · refine lv_icmp_eq (tgt := 61) hx hb dX4_setSizes_54 (by decide) (fun c_7 => ?_) (fun c_7 => ?_)
                · skip
                  refine lv_iconst (v := 0) hx hb dX4_setSizes_61 (by decide) ?_
                  exact ka c_7
                · skip
                  refine lv_iconst (v := 1) hx hb dX4_setSizes_57 (by decide) ?_
                  refine lv_goto (tgt := 62) hx hb dX4_setSizes_58 (by decide) ?_
                  exact kb c_7
              show W p l e rmX4_setSizes s m [.ref (G.2.2 (0, 0)), .int (x1), .int (x2), .int (x3)].toArray below meth c H locs 0 0 (vx_MQ below (kQx G kC Z A (xX4_setSizes S x1 x2 x3)) (kXx G kC Z A S (xX4_setSizes S x1 x2 x3)) [.ref (G.2.2 (0, 0)), .int (x1), .int (x2), .int (x3)].toArray s 1 6 A) (F0 m 62 ls [.int (bI (if x3 = (S.1 0 0 10) then false else true))])
              refine lv_istore (lv' := [(4, .int (bI (if x3 = (S.1 0 0 10) then false else true))), (0, .ref (G.2.2 (0, 0))), (1, .int (x1)), (2, .int (x2)), (3, .int (x3))]) hx hb dX4_setSizes_62 hl (by decide) rfl (fun ls hl => ?_)
              refine lv_aload_n hx hb dX4_setSizes_64 rfl (lv_at hl 1 rfl) ?_
              refine lv_iload_n hx hb dX4_setSizes_65 rfl (lv_at hl 2 rfl) ?_
              refine lv_iload_n hx hb dX4_setSizes_66 rfl (lv_at hl 3 rfl) ?_
              refine lv_iload_n hx hb dX4_setSizes_67 rfl (lv_at hl 4 rfl) ?_
              refine k_callV (C := RX4) (n := 3) (rest := []) ⟨hx, hb, hml, hown, hts⟩ (cX4c_startAnew l G Z S x1 x2 x3) (cwV 3 hts gX4_setSizes_X4_startAnew rfl rfl rfl (by decide +kernel) ⟨Nat.le_of_ble_eq_true rfl, Nat.le_of_ble_eq_true rfl⟩) (k_recv hK hw kC_0 rfl rfl) hK hN hZ hA hw (Nat.le_of_ble_eq_true rfl) (Nat.le_of_ble_eq_true rfl) rfl hl.1 rfl (Nat.le_of_ble_eq_true rfl) dX4_setSizes_68 (fun H locs hw => ?_)
              refine W.eq (g2 := F0 m 71 ls []) rfl ?_
              refine lv_iload hx hb dX4_setSizes_71 (lv_at hl 0 rfl) ?_
              exact kx_ret (show (xX4_setSizes S x1 x2 x3) = .inl (some (.int (bI (if x3 = (S.1 0 0 10) then false else true))), (fX4_startAnew S x1 x2 x3)) from by unfold xX4_setSizes; rw [if_neg c_1, if_neg c_2, if_neg c_3, if_pos c_4, if_pos c_5, if_pos c_6]) (Nat.le_of_ble_eq_true rfl) (Nat.le_of_ble_eq_true rfl) (k_zret (r := if x3 = (S.1 0 0 10) then false else true) hx hb hr hlocks hK hw rfl rfl dX4_setSizes_73)
        · skip
          exact kx_throw (cls := "java/lang/IllegalArgumentException") (ik := 68) (is := 70) (ic := 72) hx hb hlt hown (by decide) (hts (.classLink RX4 68 "java/lang/IllegalArgumentException") (by decide +kernel)) (hts (.initialized "java/lang/IllegalArgumentException") (by decide +kernel)) hN (by decide) (kx_at_72 hN (fun w h => hts w (List.mem_cons_of_mem _ (List.mem_append_right _ h)))) vx_ok_72 hK hZ hw (hl.1.trans hml.symm) hno dX4_setSizes_23 dX4_setSizes_26 dX4_setSizes_27 dX4_setSizes_29 dX4_setSizes_32 (Nat.le_of_ble_eq_true rfl) (Nat.le_of_ble_eq_true rfl) (Nat.le_of_ble_eq_true rfl) (Nat.le_of_ble_eq_true rfl) hlocks (show (xX4_setSizes S x1 x2 x3) = .inr "java/lang/IllegalArgumentException" from by unfold xX4_setSizes; rw [if_neg c_1, if_neg c_2, if_neg c_3, if_neg c_4]) (Nat.le_of_ble_eq_true rfl) (Nat.le_of_ble_eq_true rfl)
def xX4_predict (S : uS) (N1 : Nat) (x1 : Int32) : kR :=
  if okPlace x1 = true then if (S.1 0 0 13) < (16 : Int32) then .inl (some (.int (bI ((fX4_launch S N1 x1).1))), ((fX4_launch S N1 x1).2))
    else .inr "java/lang/IllegalStateException"
  else .inr "java/lang/IllegalArgumentException"
abbrev rmX4_predict : Room := { frames := 7, cells := 2, slots := 12, locals := 102 }
set_option maxHeartbeats 4000000 in
set_option maxRecDepth 100000 in
theorem cX4c_predict (l : Launch) (hlt : l.stackTraces = false) (G : gG) (Z : va_W) (S : uS) (N1 : Nat) (h_N1 : S.1 0 0 13 = nI N1) (h_N1b : N1 < 2 ^ 31) (x1 : Int32) : kMetX l yX4_predict wsX4_predict rmX4_predict G kC Z S [.ref (G.2.2 (0, 0)), .int (x1)] (xX4_predict S N1 x1) 2 12 := by
  refine kMetX_of (cc := cX4_predict) (maxL := 2) (ret := (some .boolean)) (by decide) rfl (Nat.le_of_ble_eq_true rfl) ?_
  intro p e s m below meth c hx hb hr hml hlocks hno hts hown hK hN A hZ hA H locs hw ls hl
  have hl : lv_has ls 2 [(0, .ref (G.2.2 (0, 0))), (1, .int (x1))] := hl
  have hiX4 : ∀ w ∈ wsX40, w ∈ wsX4_predict := by decide +kernel
  refine lv_iload_n hx hb dX4_predict_0 rfl (lv_at hl 1 rfl) ?_
  refine kx_callS (n := 1) (mc0 := 1) (ms0 := 6) (rest := []) ⟨hx, hb, hml, hown, hts⟩ (cX4c_requirePlace l hlt G Z S x1) (va_cwS 1 hts gX4_predict_X4_requirePlace rfl rfl rfl (by decide +kernel) ⟨Nat.le_of_ble_eq_true rfl, Nat.le_of_ble_eq_true rfl⟩) hK hN hZ hA hw (Nat.le_of_ble_eq_true rfl) (Nat.le_of_ble_eq_true rfl) rfl hl.1 rfl (Nat.le_of_ble_eq_true rfl) dX4_predict_1 (fun E hE q9 ce H locs hw hce hcv hcl => ?_) (fun v u hvu H locs hw => ?_)
  · have c_1 : ¬ (okPlace x1 = true) := fun h9 => by rw [if_pos h9] at hE; cases hE
    rw [if_neg c_1] at hE
    cases hE
    exact kx_prop hK hw hno hlocks hce hcv hcl (show (xX4_predict S N1 x1) = .inr "java/lang/IllegalArgumentException" from by unfold xX4_predict; rw [if_neg c_1]) (Nat.le_of_ble_eq_true rfl) (Nat.le_of_ble_eq_true rfl)
  have c_1 : okPlace x1 = true := Classical.byContradiction (fun h9 => by rw [if_neg h9] at hvu; cases hvu)
  rw [if_pos c_1] at hvu
  cases hvu
  refine W.eq (g2 := F0 m 4 ls []) rfl ?_
  refine lv_aload_n hx hb dX4_predict_4 rfl (lv_at hl 0 rfl) ?_
  refine g_0_13 hx hb hts hiX4 hown hK hw kC_0 (hts (.fieldLink RX4 79 "BranchPredictor" "flying" "I") (by decide +kernel)) dX4_predict_5 ?_
  refine lv_bipush (v := 16) hx hb dX4_predict_8 (by decide) ?_
  refine lv_icmp_lt (tgt := 23) hx hb dX4_predict_10 (by decide) (fun c_2 => ?_) (fun c_2 => ?_)
  · skip
    refine lv_aload_n hx hb dX4_predict_23 rfl (lv_at hl 0 rfl) ?_
    refine lv_iload_n hx hb dX4_predict_24 rfl (lv_at hl 1 rfl) ?_
    refine k_callV (C := RX4) (n := 1) (rest := []) ⟨hx, hb, hml, hown, hts⟩ (cX4c_launch l G Z S N1 h_N1 h_N1b x1) (cwV 1 hts gX4_predict_X4_launch rfl rfl rfl (by decide +kernel) ⟨Nat.le_of_ble_eq_true rfl, Nat.le_of_ble_eq_true rfl⟩) (k_recv hK hw kC_0 rfl rfl) hK hN hZ hA hw (Nat.le_of_ble_eq_true rfl) (Nat.le_of_ble_eq_true rfl) rfl hl.1 rfl (Nat.le_of_ble_eq_true rfl) dX4_predict_25 (fun H locs hw => ?_)
    refine W.eq (g2 := F0 m 28 ls [.int (bI ((fX4_launch S N1 x1).1))]) rfl ?_
    exact kx_ret (show (xX4_predict S N1 x1) = .inl (some (.int (bI ((fX4_launch S N1 x1).1))), ((fX4_launch S N1 x1).2)) from by unfold xX4_predict; rw [if_pos c_1, if_pos c_2]) (Nat.le_of_ble_eq_true rfl) (Nat.le_of_ble_eq_true rfl) (k_zret (r := (fX4_launch S N1 x1).1) hx hb hr hlocks hK hw rfl rfl dX4_predict_28)
  · skip
    exact kx_throw (cls := "java/lang/IllegalStateException") (ik := 82) (is := 84) (ic := 86) hx hb hlt hown (by decide) (hts (.classLink RX4 82 "java/lang/IllegalStateException") (by decide +kernel)) (hts (.initialized "java/lang/IllegalStateException") (by decide +kernel)) hN (by decide) (kx_at_86 hN (fun w h => hts w (List.mem_cons_of_mem _ (List.mem_append_left _ (List.mem_append_right _ h))))) vx_ok_86 hK hZ hw (hl.1.trans hml.symm) hno dX4_predict_13 dX4_predict_16 dX4_predict_17 dX4_predict_19 dX4_predict_22 (Nat.le_of_ble_eq_true rfl) (Nat.le_of_ble_eq_true rfl) (Nat.le_of_ble_eq_true rfl) (Nat.le_of_ble_eq_true rfl) hlocks (show (xX4_predict S N1 x1) = .inr "java/lang/IllegalStateException" from by unfold xX4_predict; rw [if_pos c_1, if_neg c_2]) (Nat.le_of_ble_eq_true rfl) (Nat.le_of_ble_eq_true rfl)
def xX4_resolve (S : uS) (x1 : Int32) (b1 : Bool) : kR :=
  if okFly S x1 = true then if (S.1 8 (fIx S x1) 1) = (0 : Int32) then .inl (some (.int ((fX4_settle S x1 b1).1)), ((fX4_settle S x1 b1).2))
    else .inr "java/lang/IllegalStateException"
  else .inr "java/lang/IndexOutOfBoundsException"
abbrev rmX4_resolve : Room := { frames := 7, cells := 2, slots := 12, locals := 103 }
set_option maxHeartbeats 4000000 in
set_option maxRecDepth 100000 in
theorem cX4c_resolve (l : Launch) (hlt : l.stackTraces = false) (G : gG) (Z : va_W) (S : uS) (x1 : Int32) (b1 : Bool) : kMetX l yX4_resolve wsX4_resolve rmX4_resolve G kC Z S [.ref (G.2.2 (0, 0)), .int (x1), .int (bI (b1))] (xX4_resolve S x1 b1) 2 12 := by
  refine kMetX_of (cc := cX4_resolve) (maxL := 3) (ret := (some .int)) (by decide) rfl (Nat.le_of_ble_eq_true rfl) ?_
  intro p e s m below meth c hx hb hr hml hlocks hno hts hown hK hN A hZ hA H locs hw ls hl
  have hl : lv_has ls 3 [(0, .ref (G.2.2 (0, 0))), (1, .int (x1)), (2, .int (bI (b1)))] := hl
  have hiX1 : ∀ w ∈ wsX10, w ∈ wsX4_resolve := by decide +kernel
  refine lv_aload_n hx hb dX4_resolve_0 rfl (lv_at hl 0 rfl) ?_
  refine lv_iload_n hx hb dX4_resolve_1 rfl (lv_at hl 1 rfl) ?_
  refine kx_callV (C := RX4) (n := 1) (mc0 := 1) (ms0 := 6) (rest := []) ⟨hx, hb, hml, hown, hts⟩ (cX4c_requireInFlight l hlt G Z S x1) (cwV 1 hts gX4_resolve_X4_requireInFlight rfl rfl rfl (by decide +kernel) ⟨Nat.le_of_ble_eq_true rfl, Nat.le_of_ble_eq_true rfl⟩) (k_recv hK hw kC_0 rfl rfl) hK hN hZ hA hw (Nat.le_of_ble_eq_true rfl) (Nat.le_of_ble_eq_true rfl) rfl hl.1 rfl (Nat.le_of_ble_eq_true rfl) dX4_resolve_2 (fun E hE q9 ce H locs hw hce hcv hcl => ?_) (fun v u hvu H locs hw => ?_)
  · have c_1 : ¬ (okFly S x1 = true) := fun h9 => by rw [if_pos h9] at hE; cases hE
    rw [if_neg c_1] at hE
    cases hE
    exact kx_prop hK hw hno hlocks hce hcv hcl (show (xX4_resolve S x1 b1) = .inr "java/lang/IndexOutOfBoundsException" from by unfold xX4_resolve; rw [if_neg c_1]) (Nat.le_of_ble_eq_true rfl) (Nat.le_of_ble_eq_true rfl)
  have c_1 : okFly S x1 = true := Classical.byContradiction (fun h9 => by rw [if_neg h9] at hvu; cases hvu)
  rw [if_pos c_1] at hvu
  cases hvu
  refine W.eq (g2 := F0 m 5 ls []) rfl ?_
  refine lv_aload_n hx hb dX4_resolve_5 rfl (lv_at hl 0 rfl) ?_
  refine lv_iload_n hx hb dX4_resolve_6 rfl (lv_at hl 1 rfl) ?_
  refine k_callV (C := RX4) (n := 1) (rest := []) ⟨hx, hb, hml, hown, hts⟩ (cX4c_branchAt l G Z S x1) (cwV 1 hts gX4_resolve_X4_branchAt rfl rfl rfl (by decide +kernel) ⟨Nat.le_of_ble_eq_true rfl, Nat.le_of_ble_eq_true rfl⟩) (k_recv hK hw kC_0 rfl rfl) hK hN hZ hA hw (Nat.le_of_ble_eq_true rfl) (Nat.le_of_ble_eq_true rfl) rfl hl.1 rfl (Nat.le_of_ble_eq_true rfl) dX4_resolve_7 (fun H locs hw => ?_)
  refine W.eq (g2 := F0 m 10 ls [.ref (G.2.2 (8, (fIx S x1)))]) rfl ?_
  refine g_8_1 hx hb hts hiX1 hown hK hw (kC_8 (fIx_lt S x1)) (hts (.fieldLink RX4 97 "BranchPredictor$Branch" "state" "I") (by decide +kernel)) dX4_resolve_10 ?_
  refine lv_if_eq (x := S.1 8 (fIx S x1) 1) (tgt := 26) hx hb dX4_resolve_13 (by decide) (fun c_2 => ?_) (fun c_2 => ?_)
  · skip
    refine lv_aload_n hx hb dX4_resolve_26 rfl (lv_at hl 0 rfl) ?_
    refine lv_iload_n hx hb dX4_resolve_27 rfl (lv_at hl 1 rfl) ?_
    refine lv_iload_n hx hb dX4_resolve_28 rfl (lv_at hl 2 rfl) ?_
    refine k_callV (C := RX4) (n := 2) (rest := []) ⟨hx, hb, hml, hown, hts⟩ (cX4c_settle l G Z S x1 b1) (cwV 2 hts gX4_resolve_X4_settle rfl rfl rfl (by decide +kernel) ⟨Nat.le_of_ble_eq_true rfl, Nat.le_of_ble_eq_true rfl⟩) (k_recv hK hw kC_0 rfl rfl) hK hN hZ hA hw (Nat.le_of_ble_eq_true rfl) (Nat.le_of_ble_eq_true rfl) rfl hl.1 rfl (Nat.le_of_ble_eq_true rfl) dX4_resolve_29 (fun H locs hw => ?_)
    refine W.eq (g2 := F0 m 32 ls [.int ((fX4_settle S x1 b1).1)]) rfl ?_
    exact kx_ret (show (xX4_resolve S x1 b1) = .inl (some (.int ((fX4_settle S x1 b1).1)), ((fX4_settle S x1 b1).2)) from by unfold xX4_resolve; rw [if_pos c_1, if_pos c_2]) (Nat.le_of_ble_eq_true rfl) (Nat.le_of_ble_eq_true rfl) (k_iret hx hb hr hlocks hK hw rfl rfl dX4_resolve_32)
  · skip
    exact kx_throw (cls := "java/lang/IllegalStateException") (ik := 82) (is := 100) (ic := 86) hx hb hlt hown (by decide) (hts (.classLink RX4 82 "java/lang/IllegalStateException") (by decide +kernel)) (hts (.initialized "java/lang/IllegalStateException") (by decide +kernel)) hN (by decide) (kx_at_86 hN (fun w h => hts w (List.mem_cons_of_mem _ (List.mem_append_left _ (List.mem_append_right _ h))))) vx_ok_86 hK hZ hw (hl.1.trans hml.symm) hno dX4_resolve_16 dX4_resolve_19 dX4_resolve_20 dX4_resolve_22 dX4_resolve_25 (Nat.le_of_ble_eq_true rfl) (Nat.le_of_ble_eq_true rfl) (Nat.le_of_ble_eq_true rfl) (Nat.le_of_ble_eq_true rfl) hlocks (show (xX4_resolve S x1 b1) = .inr "java/lang/IllegalStateException" from by unfold xX4_resolve; rw [if_pos c_1, if_neg c_2]) (Nat.le_of_ble_eq_true rfl) (Nat.le_of_ble_eq_true rfl)
def xX4_commit (S : uS)  : kR :=
  if (S.1 0 0 13) = (0 : Int32) then .inr "java/lang/IllegalStateException"
  else if (S.1 8 (fIx S (0 : Int32)) 1) = (0 : Int32) then .inr "java/lang/IllegalStateException"
    else .inl (some (.int (bI ((fX4_retire S).1))), ((fX4_retire S).2))
abbrev rmX4_commit : Room := { frames := 6, cells := 1, slots := 6, locals := 91 }
set_option maxHeartbeats 4000000 in
set_option maxRecDepth 100000 in
theorem cX4c_commit (l : Launch) (hlt : l.stackTraces = false) (G : gG) (Z : va_W) (S : uS)  : kMetX l yX4_commit wsX4_commit rmX4_commit G kC Z S [.ref (G.2.2 (0, 0))] (xX4_commit S) 1 6 := by
  refine kMetX_of (cc := cX4_commit) (maxL := 1) (ret := (some .boolean)) (by decide) rfl (Nat.le_of_ble_eq_true rfl) ?_
  intro p e s m below meth c hx hb hr hml hlocks hno hts hown hK hN A hZ hA H locs hw ls hl
  have hl : lv_has ls 1 [(0, .ref (G.2.2 (0, 0)))] := hl
  have hiX1 : ∀ w ∈ wsX10, w ∈ wsX4_commit := by decide +kernel
  have hiX4 : ∀ w ∈ wsX40, w ∈ wsX4_commit := by decide +kernel
  refine lv_aload_n hx hb dX4_commit_0 rfl (lv_at hl 0 rfl) ?_
  refine g_0_13 hx hb hts hiX4 hown hK hw kC_0 (hts (.fieldLink RX4 79 "BranchPredictor" "flying" "I") (by decide +kernel)) dX4_commit_1 ?_
  refine lv_if_eq (x := S.1 0 0 13) (tgt := 18) hx hb dX4_commit_4 (by decide) (fun c_1 => ?_) (fun c_1 => ?_)
  · skip
    exact kx_throw (cls := "java/lang/IllegalStateException") (ik := 82) (is := 106) (ic := 86) hx hb hlt hown (by decide) (hts (.classLink RX4 82 "java/lang/IllegalStateException") (by decide +kernel)) (hts (.initialized "java/lang/IllegalStateException") (by decide +kernel)) hN (by decide) (kx_at_86 hN (fun w h => hts w (List.mem_cons_of_mem _ (List.mem_append_right _ h)))) vx_ok_86 hK hZ hw (hl.1.trans hml.symm) hno dX4_commit_18 dX4_commit_21 dX4_commit_22 dX4_commit_24 dX4_commit_27 (Nat.le_of_ble_eq_true rfl) (Nat.le_of_ble_eq_true rfl) (Nat.le_of_ble_eq_true rfl) (Nat.le_of_ble_eq_true rfl) hlocks (show (xX4_commit S) = .inr "java/lang/IllegalStateException" from by unfold xX4_commit; rw [if_pos c_1]) (Nat.le_of_ble_eq_true rfl) (Nat.le_of_ble_eq_true rfl)
  · skip
    refine lv_aload_n hx hb dX4_commit_7 rfl (lv_at hl 0 rfl) ?_
    refine lv_iconst (v := 0) hx hb dX4_commit_8 (by decide) ?_
    refine k_callV (C := RX4) (n := 1) (rest := []) ⟨hx, hb, hml, hown, hts⟩ (cX4c_branchAt l G Z S (0 : Int32)) (cwV 1 hts gX4_commit_X4_branchAt rfl rfl rfl (by decide +kernel) ⟨Nat.le_of_ble_eq_true rfl, Nat.le_of_ble_eq_true rfl⟩) (k_recv hK hw kC_0 rfl rfl) hK hN hZ hA hw (Nat.le_of_ble_eq_true rfl) (Nat.le_of_ble_eq_true rfl) rfl hl.1 rfl (Nat.le_of_ble_eq_true rfl) dX4_commit_9 (fun H locs hw => ?_)
    refine W.eq (g2 := F0 m 12 ls [.ref (G.2.2 (8, (fIx S (0 : Int32))))]) rfl ?_
    refine g_8_1 hx hb hts hiX1 hown hK hw (kC_8 (fIx_lt S (0 : Int32))) (hts (.fieldLink RX4 97 "BranchPredictor$Branch" "state" "I") (by decide +kernel)) dX4_commit_12 ?_
    refine lv_if_ne (x := S.1 8 (fIx S (0 : Int32)) 1) (tgt := 28) hx hb dX4_commit_15 (by decide) (fun c_2 => ?_) (fun c_2 => ?_)
    · skip
      refine lv_aload_n hx hb dX4_commit_28 rfl (lv_at hl 0 rfl) ?_
      refine k_callV (C := RX4) (n := 0) (rest := []) ⟨hx, hb, hml, hown, hts⟩ (cX4c_retire l G Z S) (cwV 0 hts gX4_commit_X4_retire rfl rfl rfl (by decide +kernel) ⟨Nat.le_of_ble_eq_true rfl, Nat.le_of_ble_eq_true rfl⟩) (k_recv hK hw kC_0 rfl rfl) hK hN hZ hA hw (Nat.le_of_ble_eq_true rfl) (Nat.le_of_ble_eq_true rfl) rfl hl.1 rfl (Nat.le_of_ble_eq_true rfl) dX4_commit_29 (fun H locs hw => ?_)
      refine W.eq (g2 := F0 m 32 ls [.int (bI ((fX4_retire S).1))]) rfl ?_
      exact kx_ret (show (xX4_commit S) = .inl (some (.int (bI ((fX4_retire S).1))), ((fX4_retire S).2)) from by unfold xX4_commit; rw [if_neg c_1, if_neg c_2]) (Nat.le_of_ble_eq_true rfl) (Nat.le_of_ble_eq_true rfl) (k_zret (r := (fX4_retire S).1) hx hb hr hlocks hK hw rfl rfl dX4_commit_32)
    · skip
      exact kx_throw (cls := "java/lang/IllegalStateException") (ik := 82) (is := 106) (ic := 86) hx hb hlt hown (by decide) (hts (.classLink RX4 82 "java/lang/IllegalStateException") (by decide +kernel)) (hts (.initialized "java/lang/IllegalStateException") (by decide +kernel)) hN (by decide) (kx_at_86 hN (fun w h => hts w (List.mem_cons_of_mem _ (List.mem_append_right _ h)))) vx_ok_86 hK hZ hw (hl.1.trans hml.symm) hno dX4_commit_18 dX4_commit_21 dX4_commit_22 dX4_commit_24 dX4_commit_27 (Nat.le_of_ble_eq_true rfl) (Nat.le_of_ble_eq_true rfl) (Nat.le_of_ble_eq_true rfl) (Nat.le_of_ble_eq_true rfl) hlocks (show (xX4_commit S) = .inr "java/lang/IllegalStateException" from by unfold xX4_commit; rw [if_neg c_1, if_pos c_2]) (Nat.le_of_ble_eq_true rfl) (Nat.le_of_ble_eq_true rfl)
def xX4_train (S : uS) (N1 : Nat) (x1 : Int32) (b1 : Bool) : kR :=
  if okPlace x1 = true then if (S.1 0 0 13) = (0 : Int32) then .inl (some (.int (bI (if ((fX4_retire ((fX4_settle ((fX4_launch S N1 x1).2) (0 : Int32) b1).2)).1) = false then true else false))), ((fX4_retire ((fX4_settle ((fX4_launch S N1 x1).2) (0 : Int32) b1).2)).2))
    else .inr "java/lang/IllegalStateException"
  else .inr "java/lang/IllegalArgumentException"
abbrev rmX4_train : Room := { frames := 7, cells := 2, slots := 12, locals := 102 }
set_option maxHeartbeats 4000000 in
set_option maxRecDepth 100000 in
theorem cX4c_train (l : Launch) (hlt : l.stackTraces = false) (G : gG) (Z : va_W) (S : uS) (N1 : Nat) (h_N1 : S.1 0 0 13 = nI N1) (h_N1b : N1 < 2 ^ 31) (x1 : Int32) (b1 : Bool) : kMetX l yX4_train wsX4_train rmX4_train G kC Z S [.ref (G.2.2 (0, 0)), .int (x1), .int (bI (b1))] (xX4_train S N1 x1 b1) 2 12 := by
  refine kMetX_of (cc := cX4_train) (maxL := 3) (ret := (some .boolean)) (by decide) rfl (Nat.le_of_ble_eq_true rfl) ?_
  intro p e s m below meth c hx hb hr hml hlocks hno hts hown hK hN A hZ hA H locs hw ls hl
  have hl : lv_has ls 3 [(0, .ref (G.2.2 (0, 0))), (1, .int (x1)), (2, .int (bI (b1)))] := hl
  have hiX4 : ∀ w ∈ wsX40, w ∈ wsX4_train := by decide +kernel
  refine lv_iload_n hx hb dX4_train_0 rfl (lv_at hl 1 rfl) ?_
  refine kx_callS (n := 1) (mc0 := 1) (ms0 := 6) (rest := []) ⟨hx, hb, hml, hown, hts⟩ (cX4c_requirePlace l hlt G Z S x1) (va_cwS 1 hts gX4_train_X4_requirePlace rfl rfl rfl (by decide +kernel) ⟨Nat.le_of_ble_eq_true rfl, Nat.le_of_ble_eq_true rfl⟩) hK hN hZ hA hw (Nat.le_of_ble_eq_true rfl) (Nat.le_of_ble_eq_true rfl) rfl hl.1 rfl (Nat.le_of_ble_eq_true rfl) dX4_train_1 (fun E hE q9 ce H locs hw hce hcv hcl => ?_) (fun v u hvu H locs hw => ?_)
  · have c_1 : ¬ (okPlace x1 = true) := fun h9 => by rw [if_pos h9] at hE; cases hE
    rw [if_neg c_1] at hE
    cases hE
    exact kx_prop hK hw hno hlocks hce hcv hcl (show (xX4_train S N1 x1 b1) = .inr "java/lang/IllegalArgumentException" from by unfold xX4_train; rw [if_neg c_1]) (Nat.le_of_ble_eq_true rfl) (Nat.le_of_ble_eq_true rfl)
  have c_1 : okPlace x1 = true := Classical.byContradiction (fun h9 => by rw [if_neg h9] at hvu; cases hvu)
  rw [if_pos c_1] at hvu
  cases hvu
  refine W.eq (g2 := F0 m 4 ls []) rfl ?_
  refine lv_aload_n hx hb dX4_train_4 rfl (lv_at hl 0 rfl) ?_
  refine g_0_13 hx hb hts hiX4 hown hK hw kC_0 (hts (.fieldLink RX4 79 "BranchPredictor" "flying" "I") (by decide +kernel)) dX4_train_5 ?_
  refine lv_if_eq (x := S.1 0 0 13) (tgt := 21) hx hb dX4_train_8 (by decide) (fun c_2 => ?_) (fun c_2 => ?_)
  · skip
    refine lv_aload_n hx hb dX4_train_21 rfl (lv_at hl 0 rfl) ?_
    refine lv_iload_n hx hb dX4_train_22 rfl (lv_at hl 1 rfl) ?_
    refine k_callV (C := RX4) (n := 1) (rest := []) ⟨hx, hb, hml, hown, hts⟩ (cX4c_launch l G Z S N1 h_N1 h_N1b x1) (cwV 1 hts gX4_train_X4_launch rfl rfl rfl (by decide +kernel) ⟨Nat.le_of_ble_eq_true rfl, Nat.le_of_ble_eq_true rfl⟩) (k_recv hK hw kC_0 rfl rfl) hK hN hZ hA hw (Nat.le_of_ble_eq_true rfl) (Nat.le_of_ble_eq_true rfl) rfl hl.1 rfl (Nat.le_of_ble_eq_true rfl) dX4_train_23 (fun H locs hw => ?_)
    refine W.eq (g2 := F0 m 26 ls [.int (bI ((fX4_launch S N1 x1).1))]) rfl ?_
    refine lv_pop hx hb dX4_train_26 rfl ?_
    refine lv_aload_n hx hb dX4_train_27 rfl (lv_at hl 0 rfl) ?_
    refine lv_iconst (v := 0) hx hb dX4_train_28 (by decide) ?_
    refine lv_iload_n hx hb dX4_train_29 rfl (lv_at hl 2 rfl) ?_
    refine k_callV (C := RX4) (n := 2) (rest := []) ⟨hx, hb, hml, hown, hts⟩ (cX4c_settle l G Z ((fX4_launch S N1 x1).2) (0 : Int32) b1) (cwV 2 hts gX4_train_X4_settle rfl rfl rfl (by decide +kernel) ⟨Nat.le_of_ble_eq_true rfl, Nat.le_of_ble_eq_true rfl⟩) (k_recv hK hw kC_0 rfl rfl) hK hN hZ hA hw (Nat.le_of_ble_eq_true rfl) (Nat.le_of_ble_eq_true rfl) rfl hl.1 rfl (Nat.le_of_ble_eq_true rfl) dX4_train_30 (fun H locs hw => ?_)
    refine W.eq (g2 := F0 m 33 ls [.int ((fX4_settle ((fX4_launch S N1 x1).2) (0 : Int32) b1).1)]) rfl ?_
    refine lv_pop hx hb dX4_train_33 rfl ?_
    refine lv_aload_n hx hb dX4_train_34 rfl (lv_at hl 0 rfl) ?_
    refine k_callV (C := RX4) (n := 0) (rest := []) ⟨hx, hb, hml, hown, hts⟩ (cX4c_retire l G Z ((fX4_settle ((fX4_launch S N1 x1).2) (0 : Int32) b1).2)) (cwV 0 hts gX4_train_X4_retire rfl rfl rfl (by decide +kernel) ⟨Nat.le_of_ble_eq_true rfl, Nat.le_of_ble_eq_true rfl⟩) (k_recv hK hw kC_0 rfl rfl) hK hN hZ hA hw (Nat.le_of_ble_eq_true rfl) (Nat.le_of_ble_eq_true rfl) rfl hl.1 rfl (Nat.le_of_ble_eq_true rfl) dX4_train_35 (fun H locs hw => ?_)
    refine W.eq (g2 := F0 m 38 ls [.int (bI ((fX4_retire ((fX4_settle ((fX4_launch S N1 x1).2) (0 : Int32) b1).2)).1))]) rfl ?_
    refine k_join (P := fun x9 : Bool => W p l e rmX4_train s m [.ref (G.2.2 (0, 0)), .int (x1), .int (bI (b1))].toArray below meth c H locs 1 6 (vx_MQ below (kQx G kC Z A (xX4_train S N1 x1 b1)) (kXx G kC Z A S (xX4_train S N1 x1 b1)) [.ref (G.2.2 (0, 0)), .int (x1), .int (bI (b1))].toArray s 2 12 A) (F0 m 46 ls [.int (bI (x9))])) (C := ((fX4_retire ((fX4_settle ((fX4_launch S N1 x1).2) (0 : Int32) b1).2)).1) = false) (a := true) (b := false) ?_ (fun ka kb => ?_)
    rotate_left
    · refine k_if_ne (b := (fX4_retire ((fX4_settle ((fX4_launch S N1 x1).2) (0 : Int32) b1).2)).1) (tgt := 45) hx hb dX4_train_38 (by decide) (fun c_3 => ?_) (fun c_3 => ?_)
      · skip
        refine lv_iconst (v := 0) hx hb dX4_train_45 (by decide) ?_
        exact kb c_3
      · skip
        refine lv_iconst (v := 1) hx hb dX4_train_41 (by decide) ?_
        refine lv_goto (tgt := 46) hx hb dX4_train_42 (by decide) ?_
        exact ka c_3
    show W p l e rmX4_train s m [.ref (G.2.2 (0, 0)), .int (x1), .int (bI (b1))].toArray below meth c H locs 1 6 (vx_MQ below (kQx G kC Z A (xX4_train S N1 x1 b1)) (kXx G kC Z A S (xX4_train S N1 x1 b1)) [.ref (G.2.2 (0, 0)), .int (x1), .int (bI (b1))].toArray s 2 12 A) (F0 m 46 ls [.int (bI (if ((fX4_retire ((fX4_settle ((fX4_launch S N1 x1).2) (0 : Int32) b1).2)).1) = false then true else false))])
    exact kx_ret (show (xX4_train S N1 x1 b1) = .inl (some (.int (bI (if ((fX4_retire ((fX4_settle ((fX4_launch S N1 x1).2) (0 : Int32) b1).2)).1) = false then true else false))), ((fX4_retire ((fX4_settle ((fX4_launch S N1 x1).2) (0 : Int32) b1).2)).2)) from by unfold xX4_train; rw [if_pos c_1, if_pos c_2]) (Nat.le_of_ble_eq_true rfl) (Nat.le_of_ble_eq_true rfl) (k_zret (r := if ((fX4_retire ((fX4_settle ((fX4_launch S N1 x1).2) (0 : Int32) b1).2)).1) = false then true else false) hx hb hr hlocks hK hw rfl rfl dX4_train_46)
  · skip
    exact kx_throw (cls := "java/lang/IllegalStateException") (ik := 82) (is := 112) (ic := 86) hx hb hlt hown (by decide) (hts (.classLink RX4 82 "java/lang/IllegalStateException") (by decide +kernel)) (hts (.initialized "java/lang/IllegalStateException") (by decide +kernel)) hN (by decide) (kx_at_86 hN (fun w h => hts w (List.mem_cons_of_mem _ (List.mem_append_left _ (List.mem_append_right _ h))))) vx_ok_86 hK hZ hw (hl.1.trans hml.symm) hno dX4_train_11 dX4_train_14 dX4_train_15 dX4_train_17 dX4_train_20 (Nat.le_of_ble_eq_true rfl) (Nat.le_of_ble_eq_true rfl) (Nat.le_of_ble_eq_true rfl) (Nat.le_of_ble_eq_true rfl) hlocks (show (xX4_train S N1 x1 b1) = .inr "java/lang/IllegalStateException" from by unfold xX4_train; rw [if_pos c_1, if_neg c_2]) (Nat.le_of_ble_eq_true rfl) (Nat.le_of_ble_eq_true rfl)
def xX4_flush (S : uS) (x1 : Int32) : kR :=
  if x1 < (0 : Int32) then .inr "java/lang/IllegalArgumentException"
  else if x1 ≤ (S.1 0 0 13) then if x1 ≤ (0 : Int32) then .inl (some (.int (S.1 0 0 13)), S)
      else .inl (some (.int (((fX4_dropFrom (uI S 0 0 11 (S.1 8 (fIx S ((S.1 0 0 13) - x1)) 2)) ((S.1 0 0 13) - x1)).2).1 0 0 13)), ((fX4_dropFrom (uI S 0 0 11 (S.1 8 (fIx S ((S.1 0 0 13) - x1)) 2)) ((S.1 0 0 13) - x1)).2))
    else .inr "java/lang/IllegalArgumentException"
abbrev rmX4_flush : Room := { frames := 6, cells := 1, slots := 6, locals := 82 }
set_option maxHeartbeats 4000000 in
set_option maxRecDepth 100000 in
theorem cX4c_flush (l : Launch) (hlt : l.stackTraces = false) (G : gG) (Z : va_W) (S : uS) (x1 : Int32) : kMetX l yX4_flush wsX4_flush rmX4_flush G kC Z S [.ref (G.2.2 (0, 0)), .int (x1)] (xX4_flush S x1) 1 6 := by
  refine kMetX_of (cc := cX4_flush) (maxL := 3) (ret := (some .int)) (by decide) rfl (Nat.le_of_ble_eq_true rfl) ?_
  intro p e s m below meth c hx hb hr hml hlocks hno hts hown hK hN A hZ hA H locs hw ls hl
  have hl : lv_has ls 3 [(0, .ref (G.2.2 (0, 0))), (1, .int (x1))] := hl
  have hiX1 : ∀ w ∈ wsX10, w ∈ wsX4_flush := by decide +kernel
  have hiX4 : ∀ w ∈ wsX40, w ∈ wsX4_flush := by decide +kernel
  refine lv_iload_n hx hb dX4_flush_0 rfl (lv_at hl 1 rfl) ?_
  refine lv_if_lt (x := x1) (tgt := 12) hx hb dX4_flush_1 (by decide) (fun c_1 => ?_) (fun c_1 => ?_)
  · skip
    exact kx_throw (cls := "java/lang/IllegalArgumentException") (ik := 68) (is := 114) (ic := 72) hx hb hlt hown (by decide) (hts (.classLink RX4 68 "java/lang/IllegalArgumentException") (by decide +kernel)) (hts (.initialized "java/lang/IllegalArgumentException") (by decide +kernel)) hN (by decide) (kx_at_72 hN (fun w h => hts w (List.mem_cons_of_mem _ (List.mem_append_right _ h)))) vx_ok_72 hK hZ hw (hl.1.trans hml.symm) hno dX4_flush_12 dX4_flush_15 dX4_flush_16 dX4_flush_18 dX4_flush_21 (Nat.le_of_ble_eq_true rfl) (Nat.le_of_ble_eq_true rfl) (Nat.le_of_ble_eq_true rfl) (Nat.le_of_ble_eq_true rfl) hlocks (show (xX4_flush S x1) = .inr "java/lang/IllegalArgumentException" from by unfold xX4_flush; rw [if_pos c_1]) (Nat.le_of_ble_eq_true rfl) (Nat.le_of_ble_eq_true rfl)
  · skip
    refine lv_iload_n hx hb dX4_flush_4 rfl (lv_at hl 1 rfl) ?_
    refine lv_aload_n hx hb dX4_flush_5 rfl (lv_at hl 0 rfl) ?_
    refine g_0_13 hx hb hts hiX4 hown hK hw kC_0 (hts (.fieldLink RX4 79 "BranchPredictor" "flying" "I") (by decide +kernel)) dX4_flush_6 ?_
    refine lv_icmp_le (tgt := 22) hx hb dX4_flush_9 (by decide) (fun c_2 => ?_) (fun c_2 => ?_)
    · skip
      refine lv_iload_n hx hb dX4_flush_22 rfl (lv_at hl 1 rfl) ?_
      refine lv_if_le (x := x1) (tgt := 51) hx hb dX4_flush_23 (by decide) (fun c_3 => ?_) (fun c_3 => ?_)
      · skip
        refine lv_aload_n hx hb dX4_flush_51 rfl (lv_at hl 0 rfl) ?_
        refine g_0_13 hx hb hts hiX4 hown hK hw kC_0 (hts (.fieldLink RX4 79 "BranchPredictor" "flying" "I") (by decide +kernel)) dX4_flush_52 ?_
        exact kx_ret (show (xX4_flush S x1) = .inl (some (.int (S.1 0 0 13)), S) from by unfold xX4_flush; rw [if_neg c_1, if_pos c_2, if_pos c_3]) (Nat.le_of_ble_eq_true rfl) (Nat.le_of_ble_eq_true rfl) (k_iret hx hb hr hlocks hK hw rfl rfl dX4_flush_55)
      · skip
        refine lv_aload_n hx hb dX4_flush_26 rfl (lv_at hl 0 rfl) ?_
        refine g_0_13 hx hb hts hiX4 hown hK hw kC_0 (hts (.fieldLink RX4 79 "BranchPredictor" "flying" "I") (by decide +kernel)) dX4_flush_27 ?_
        refine lv_iload_n hx hb dX4_flush_30 rfl (lv_at hl 1 rfl) ?_
        refine lv_isub hx hb dX4_flush_31 ?_
        refine lv_istore_n (lv' := [(2, .int ((S.1 0 0 13) - x1)), (0, .ref (G.2.2 (0, 0))), (1, .int (x1))]) hx hb dX4_flush_32 rfl hl (by decide) rfl (fun ls hl => ?_)
        refine lv_aload_n hx hb dX4_flush_33 rfl (lv_at hl 1 rfl) ?_
        refine lv_aload_n hx hb dX4_flush_34 rfl (lv_at hl 1 rfl) ?_
        refine lv_iload_n hx hb dX4_flush_35 rfl (lv_at hl 0 rfl) ?_
        refine k_callV (C := RX4) (n := 1) (rest := [.ref (G.2.2 (0, 0))]) ⟨hx, hb, hml, hown, hts⟩ (cX4c_branchAt l G Z S ((S.1 0 0 13) - x1)) (cwV 1 hts gX4_flush_X4_branchAt rfl rfl rfl (by decide +kernel) ⟨Nat.le_of_ble_eq_true rfl, Nat.le_of_ble_eq_true rfl⟩) (k_recv hK hw kC_0 rfl rfl) hK hN hZ hA hw (Nat.le_of_ble_eq_true rfl) (Nat.le_of_ble_eq_true rfl) rfl hl.1 rfl (Nat.le_of_ble_eq_true rfl) dX4_flush_36 (fun H locs hw => ?_)
        refine W.eq (g2 := F0 m 39 ls [.ref (G.2.2 (8, (fIx S ((S.1 0 0 13) - x1)))), .ref (G.2.2 (0, 0))]) rfl ?_
        refine g_8_2 hx hb hts hiX1 hown hK hw (kC_8 (fIx_lt S ((S.1 0 0 13) - x1))) (hts (.fieldLink RX4 116 "BranchPredictor$Branch" "historyAhead" "I") (by decide +kernel)) dX4_flush_39 ?_
        refine p_0_11 (v := S.1 8 (fIx S ((S.1 0 0 13) - x1)) 2) hx hb hts hiX4 hown hK hw kC_0 (hts (.fieldLink RX4 119 "BranchPredictor" "outcomes" "I") (by decide +kernel)) dX4_flush_42 (fun H locs hw => ?_)
        refine lv_aload_n hx hb dX4_flush_45 rfl (lv_at hl 1 rfl) ?_
        refine lv_iload_n hx hb dX4_flush_46 rfl (lv_at hl 0 rfl) ?_
        refine k_callV (C := RX4) (n := 1) (rest := []) ⟨hx, hb, hml, hown, hts⟩ (cX4c_dropFrom l G Z (uI S 0 0 11 (S.1 8 (fIx S ((S.1 0 0 13) - x1)) 2)) ((S.1 0 0 13) - x1)) (cwV 1 hts gX4_flush_X4_dropFrom rfl rfl rfl (by decide +kernel) ⟨Nat.le_of_ble_eq_true rfl, Nat.le_of_ble_eq_true rfl⟩) (k_recv hK hw kC_0 rfl rfl) hK hN hZ hA hw (Nat.le_of_ble_eq_true rfl) (Nat.le_of_ble_eq_true rfl) rfl hl.1 rfl (Nat.le_of_ble_eq_true rfl) dX4_flush_47 (fun H locs hw => ?_)
        refine W.eq (g2 := F0 m 50 ls [.int ((fX4_dropFrom (uI S 0 0 11 (S.1 8 (fIx S ((S.1 0 0 13) - x1)) 2)) ((S.1 0 0 13) - x1)).1)]) rfl ?_
        refine lv_pop hx hb dX4_flush_50 rfl ?_
        refine lv_aload_n hx hb dX4_flush_51 rfl (lv_at hl 1 rfl) ?_
        refine g_0_13 hx hb hts hiX4 hown hK hw kC_0 (hts (.fieldLink RX4 79 "BranchPredictor" "flying" "I") (by decide +kernel)) dX4_flush_52 ?_
        exact kx_ret (show (xX4_flush S x1) = .inl (some (.int (((fX4_dropFrom (uI S 0 0 11 (S.1 8 (fIx S ((S.1 0 0 13) - x1)) 2)) ((S.1 0 0 13) - x1)).2).1 0 0 13)), ((fX4_dropFrom (uI S 0 0 11 (S.1 8 (fIx S ((S.1 0 0 13) - x1)) 2)) ((S.1 0 0 13) - x1)).2)) from by unfold xX4_flush; rw [if_neg c_1, if_pos c_2, if_neg c_3]) (Nat.le_of_ble_eq_true rfl) (Nat.le_of_ble_eq_true rfl) (k_iret hx hb hr hlocks hK hw rfl rfl dX4_flush_55)
    · skip
      exact kx_throw (cls := "java/lang/IllegalArgumentException") (ik := 68) (is := 114) (ic := 72) hx hb hlt hown (by decide) (hts (.classLink RX4 68 "java/lang/IllegalArgumentException") (by decide +kernel)) (hts (.initialized "java/lang/IllegalArgumentException") (by decide +kernel)) hN (by decide) (kx_at_72 hN (fun w h => hts w (List.mem_cons_of_mem _ (List.mem_append_right _ h)))) vx_ok_72 hK hZ hw (hl.1.trans hml.symm) hno dX4_flush_12 dX4_flush_15 dX4_flush_16 dX4_flush_18 dX4_flush_21 (Nat.le_of_ble_eq_true rfl) (Nat.le_of_ble_eq_true rfl) (Nat.le_of_ble_eq_true rfl) (Nat.le_of_ble_eq_true rfl) hlocks (show (xX4_flush S x1) = .inr "java/lang/IllegalArgumentException" from by unfold xX4_flush; rw [if_neg c_1, if_neg c_2]) (Nat.le_of_ble_eq_true rfl) (Nat.le_of_ble_eq_true rfl)
def xX4_place (S : uS) (x1 : Int32) : kR :=
  if okFly S x1 = true then .inl (some (.int (S.1 8 (fIx S x1) 0)), S)
  else .inr "java/lang/IndexOutOfBoundsException"
abbrev rmX4_place : Room := { frames := 7, cells := 1, slots := 6, locals := 103 }
set_option maxHeartbeats 4000000 in
set_option maxRecDepth 100000 in
theorem cX4c_place (l : Launch) (hlt : l.stackTraces = false) (G : gG) (Z : va_W) (S : uS) (x1 : Int32) : kMetX l yX4_place wsX4_place rmX4_place G kC Z S [.ref (G.2.2 (0, 0)), .int (x1)] (xX4_place S x1) 1 6 := by
  refine kMetX_of (cc := cX4_place) (maxL := 2) (ret := (some .int)) (by decide) rfl (Nat.le_of_ble_eq_true rfl) ?_
  intro p e s m below meth c hx hb hr hml hlocks hno hts hown hK hN A hZ hA H locs hw ls hl
  have hl : lv_has ls 2 [(0, .ref (G.2.2 (0, 0))), (1, .int (x1))] := hl
  have hiX1 : ∀ w ∈ wsX10, w ∈ wsX4_place := by decide +kernel
  refine lv_aload_n hx hb dX4_place_0 rfl (lv_at hl 0 rfl) ?_
  refine lv_iload_n hx hb dX4_place_1 rfl (lv_at hl 1 rfl) ?_
  refine kx_callV (C := RX4) (n := 1) (mc0 := 1) (ms0 := 6) (rest := []) ⟨hx, hb, hml, hown, hts⟩ (cX4c_requireInFlight l hlt G Z S x1) (cwV 1 hts gX4_place_X4_requireInFlight rfl rfl rfl (by decide +kernel) ⟨Nat.le_of_ble_eq_true rfl, Nat.le_of_ble_eq_true rfl⟩) (k_recv hK hw kC_0 rfl rfl) hK hN hZ hA hw (Nat.le_of_ble_eq_true rfl) (Nat.le_of_ble_eq_true rfl) rfl hl.1 rfl (Nat.le_of_ble_eq_true rfl) dX4_place_2 (fun E hE q9 ce H locs hw hce hcv hcl => ?_) (fun v u hvu H locs hw => ?_)
  · have c_1 : ¬ (okFly S x1 = true) := fun h9 => by rw [if_pos h9] at hE; cases hE
    rw [if_neg c_1] at hE
    cases hE
    exact kx_prop hK hw hno hlocks hce hcv hcl (show (xX4_place S x1) = .inr "java/lang/IndexOutOfBoundsException" from by unfold xX4_place; rw [if_neg c_1]) (Nat.le_of_ble_eq_true rfl) (Nat.le_of_ble_eq_true rfl)
  have c_1 : okFly S x1 = true := Classical.byContradiction (fun h9 => by rw [if_neg h9] at hvu; cases hvu)
  rw [if_pos c_1] at hvu
  cases hvu
  refine W.eq (g2 := F0 m 5 ls []) rfl ?_
  refine lv_aload_n hx hb dX4_place_5 rfl (lv_at hl 0 rfl) ?_
  refine lv_iload_n hx hb dX4_place_6 rfl (lv_at hl 1 rfl) ?_
  refine k_callV (C := RX4) (n := 1) (rest := []) ⟨hx, hb, hml, hown, hts⟩ (cX4c_branchAt l G Z S x1) (cwV 1 hts gX4_place_X4_branchAt rfl rfl rfl (by decide +kernel) ⟨Nat.le_of_ble_eq_true rfl, Nat.le_of_ble_eq_true rfl⟩) (k_recv hK hw kC_0 rfl rfl) hK hN hZ hA hw (Nat.le_of_ble_eq_true rfl) (Nat.le_of_ble_eq_true rfl) rfl hl.1 rfl (Nat.le_of_ble_eq_true rfl) dX4_place_7 (fun H locs hw => ?_)
  refine W.eq (g2 := F0 m 10 ls [.ref (G.2.2 (8, (fIx S x1)))]) rfl ?_
  refine g_8_0 hx hb hts hiX1 hown hK hw (kC_8 (fIx_lt S x1)) (hts (.fieldLink RX4 126 "BranchPredictor$Branch" "place" "I") (by decide +kernel)) dX4_place_10 ?_
  exact kx_ret (show (xX4_place S x1) = .inl (some (.int (S.1 8 (fIx S x1) 0)), S) from by unfold xX4_place; rw [if_pos c_1]) (Nat.le_of_ble_eq_true rfl) (Nat.le_of_ble_eq_true rfl) (k_iret hx hb hr hlocks hK hw rfl rfl dX4_place_13)
def xX4_state (S : uS) (x1 : Int32) : kR :=
  if okFly S x1 = true then .inl (some (.int (S.1 8 (fIx S x1) 1)), S)
  else .inr "java/lang/IndexOutOfBoundsException"
abbrev rmX4_state : Room := { frames := 7, cells := 1, slots := 6, locals := 103 }
set_option maxHeartbeats 4000000 in
set_option maxRecDepth 100000 in
theorem cX4c_state (l : Launch) (hlt : l.stackTraces = false) (G : gG) (Z : va_W) (S : uS) (x1 : Int32) : kMetX l yX4_state wsX4_state rmX4_state G kC Z S [.ref (G.2.2 (0, 0)), .int (x1)] (xX4_state S x1) 1 6 := by
  refine kMetX_of (cc := cX4_state) (maxL := 2) (ret := (some .int)) (by decide) rfl (Nat.le_of_ble_eq_true rfl) ?_
  intro p e s m below meth c hx hb hr hml hlocks hno hts hown hK hN A hZ hA H locs hw ls hl
  have hl : lv_has ls 2 [(0, .ref (G.2.2 (0, 0))), (1, .int (x1))] := hl
  have hiX1 : ∀ w ∈ wsX10, w ∈ wsX4_state := by decide +kernel
  refine lv_aload_n hx hb dX4_state_0 rfl (lv_at hl 0 rfl) ?_
  refine lv_iload_n hx hb dX4_state_1 rfl (lv_at hl 1 rfl) ?_
  refine kx_callV (C := RX4) (n := 1) (mc0 := 1) (ms0 := 6) (rest := []) ⟨hx, hb, hml, hown, hts⟩ (cX4c_requireInFlight l hlt G Z S x1) (cwV 1 hts gX4_state_X4_requireInFlight rfl rfl rfl (by decide +kernel) ⟨Nat.le_of_ble_eq_true rfl, Nat.le_of_ble_eq_true rfl⟩) (k_recv hK hw kC_0 rfl rfl) hK hN hZ hA hw (Nat.le_of_ble_eq_true rfl) (Nat.le_of_ble_eq_true rfl) rfl hl.1 rfl (Nat.le_of_ble_eq_true rfl) dX4_state_2 (fun E hE q9 ce H locs hw hce hcv hcl => ?_) (fun v u hvu H locs hw => ?_)
  · have c_1 : ¬ (okFly S x1 = true) := fun h9 => by rw [if_pos h9] at hE; cases hE
    rw [if_neg c_1] at hE
    cases hE
    exact kx_prop hK hw hno hlocks hce hcv hcl (show (xX4_state S x1) = .inr "java/lang/IndexOutOfBoundsException" from by unfold xX4_state; rw [if_neg c_1]) (Nat.le_of_ble_eq_true rfl) (Nat.le_of_ble_eq_true rfl)
  have c_1 : okFly S x1 = true := Classical.byContradiction (fun h9 => by rw [if_neg h9] at hvu; cases hvu)
  rw [if_pos c_1] at hvu
  cases hvu
  refine W.eq (g2 := F0 m 5 ls []) rfl ?_
  refine lv_aload_n hx hb dX4_state_5 rfl (lv_at hl 0 rfl) ?_
  refine lv_iload_n hx hb dX4_state_6 rfl (lv_at hl 1 rfl) ?_
  refine k_callV (C := RX4) (n := 1) (rest := []) ⟨hx, hb, hml, hown, hts⟩ (cX4c_branchAt l G Z S x1) (cwV 1 hts gX4_state_X4_branchAt rfl rfl rfl (by decide +kernel) ⟨Nat.le_of_ble_eq_true rfl, Nat.le_of_ble_eq_true rfl⟩) (k_recv hK hw kC_0 rfl rfl) hK hN hZ hA hw (Nat.le_of_ble_eq_true rfl) (Nat.le_of_ble_eq_true rfl) rfl hl.1 rfl (Nat.le_of_ble_eq_true rfl) dX4_state_7 (fun H locs hw => ?_)
  refine W.eq (g2 := F0 m 10 ls [.ref (G.2.2 (8, (fIx S x1)))]) rfl ?_
  refine g_8_1 hx hb hts hiX1 hown hK hw (kC_8 (fIx_lt S x1)) (hts (.fieldLink RX4 97 "BranchPredictor$Branch" "state" "I") (by decide +kernel)) dX4_state_10 ?_
  exact kx_ret (show (xX4_state S x1) = .inl (some (.int (S.1 8 (fIx S x1) 1)), S) from by unfold xX4_state; rw [if_pos c_1]) (Nat.le_of_ble_eq_true rfl) (Nat.le_of_ble_eq_true rfl) (k_iret hx hb hr hlocks hK hw rfl rfl dX4_state_13)
def xX4_predicted (S : uS) (x1 : Int32) (x2 : Int32) : kR :=
  if okFly S x1 = true then if okKind x2 = true then .inl (some (.int (bI ((fX1_saidTaken S (fIx S x1) x2)))), S)
    else .inr "java/lang/IndexOutOfBoundsException"
  else .inr "java/lang/IndexOutOfBoundsException"
abbrev rmX4_predicted : Room := { frames := 7, cells := 2, slots := 12, locals := 103 }
set_option maxHeartbeats 4000000 in
set_option maxRecDepth 100000 in
theorem cX4c_predicted (l : Launch) (hlt : l.stackTraces = false) (G : gG) (Z : va_W) (S : uS) (x1 : Int32) (x2 : Int32) : kMetX l yX4_predicted wsX4_predicted rmX4_predicted G kC Z S [.ref (G.2.2 (0, 0)), .int (x1), .int (x2)] (xX4_predicted S x1 x2) 2 12 := by
  refine kMetX_of (cc := cX4_predicted) (maxL := 3) (ret := (some .boolean)) (by decide) rfl (Nat.le_of_ble_eq_true rfl) ?_
  intro p e s m below meth c hx hb hr hml hlocks hno hts hown hK hN A hZ hA H locs hw ls hl
  have hl : lv_has ls 3 [(0, .ref (G.2.2 (0, 0))), (1, .int (x1)), (2, .int (x2))] := hl
  refine lv_aload_n hx hb dX4_predicted_0 rfl (lv_at hl 0 rfl) ?_
  refine lv_iload_n hx hb dX4_predicted_1 rfl (lv_at hl 1 rfl) ?_
  refine kx_callV (C := RX4) (n := 1) (mc0 := 1) (ms0 := 6) (rest := []) ⟨hx, hb, hml, hown, hts⟩ (cX4c_requireInFlight l hlt G Z S x1) (cwV 1 hts gX4_predicted_X4_requireInFlight rfl rfl rfl (by decide +kernel) ⟨Nat.le_of_ble_eq_true rfl, Nat.le_of_ble_eq_true rfl⟩) (k_recv hK hw kC_0 rfl rfl) hK hN hZ hA hw (Nat.le_of_ble_eq_true rfl) (Nat.le_of_ble_eq_true rfl) rfl hl.1 rfl (Nat.le_of_ble_eq_true rfl) dX4_predicted_2 (fun E hE q9 ce H locs hw hce hcv hcl => ?_) (fun v u hvu H locs hw => ?_)
  · have c_1 : ¬ (okFly S x1 = true) := fun h9 => by rw [if_pos h9] at hE; cases hE
    rw [if_neg c_1] at hE
    cases hE
    exact kx_prop hK hw hno hlocks hce hcv hcl (show (xX4_predicted S x1 x2) = .inr "java/lang/IndexOutOfBoundsException" from by unfold xX4_predicted; rw [if_neg c_1]) (Nat.le_of_ble_eq_true rfl) (Nat.le_of_ble_eq_true rfl)
  have c_1 : okFly S x1 = true := Classical.byContradiction (fun h9 => by rw [if_neg h9] at hvu; cases hvu)
  rw [if_pos c_1] at hvu
  cases hvu
  refine W.eq (g2 := F0 m 5 ls []) rfl ?_
  refine lv_iload_n hx hb dX4_predicted_5 rfl (lv_at hl 2 rfl) ?_
  refine kx_callS (n := 1) (mc0 := 1) (ms0 := 6) (rest := []) ⟨hx, hb, hml, hown, hts⟩ (cX4c_requireKind l hlt G Z S x2) (va_cwS 1 hts gX4_predicted_X4_requireKind rfl rfl rfl (by decide +kernel) ⟨Nat.le_of_ble_eq_true rfl, Nat.le_of_ble_eq_true rfl⟩) hK hN hZ hA hw (Nat.le_of_ble_eq_true rfl) (Nat.le_of_ble_eq_true rfl) rfl hl.1 rfl (Nat.le_of_ble_eq_true rfl) dX4_predicted_6 (fun E hE q9 ce H locs hw hce hcv hcl => ?_) (fun v u hvu H locs hw => ?_)
  · have c_2 : ¬ (okKind x2 = true) := fun h9 => by rw [if_pos h9] at hE; cases hE
    rw [if_neg c_2] at hE
    cases hE
    exact kx_prop hK hw hno hlocks hce hcv hcl (show (xX4_predicted S x1 x2) = .inr "java/lang/IndexOutOfBoundsException" from by unfold xX4_predicted; rw [if_pos c_1, if_neg c_2]) (Nat.le_of_ble_eq_true rfl) (Nat.le_of_ble_eq_true rfl)
  have c_2 : okKind x2 = true := Classical.byContradiction (fun h9 => by rw [if_neg h9] at hvu; cases hvu)
  rw [if_pos c_2] at hvu
  cases hvu
  refine W.eq (g2 := F0 m 9 ls []) rfl ?_
  refine lv_aload_n hx hb dX4_predicted_9 rfl (lv_at hl 0 rfl) ?_
  refine lv_iload_n hx hb dX4_predicted_10 rfl (lv_at hl 1 rfl) ?_
  refine k_callV (C := RX4) (n := 1) (rest := []) ⟨hx, hb, hml, hown, hts⟩ (cX4c_branchAt l G Z S x1) (cwV 1 hts gX4_predicted_X4_branchAt rfl rfl rfl (by decide +kernel) ⟨Nat.le_of_ble_eq_true rfl, Nat.le_of_ble_eq_true rfl⟩) (k_recv hK hw kC_0 rfl rfl) hK hN hZ hA hw (Nat.le_of_ble_eq_true rfl) (Nat.le_of_ble_eq_true rfl) rfl hl.1 rfl (Nat.le_of_ble_eq_true rfl) dX4_predicted_11 (fun H locs hw => ?_)
  refine W.eq (g2 := F0 m 14 ls [.ref (G.2.2 (8, (fIx S x1)))]) rfl ?_
  refine lv_iload_n hx hb dX4_predicted_14 rfl (lv_at hl 2 rfl) ?_
  refine k_callV (C := RX1) (n := 1) (rest := []) ⟨hx, hb, hml, hown, hts⟩ (cX1c_saidTaken l G Z S (fIx S x1) (fIx_lt S x1) x2) (cwV 1 hts gX4_predicted_X1_saidTaken rfl rfl rfl (by decide +kernel) ⟨Nat.le_of_ble_eq_true rfl, Nat.le_of_ble_eq_true rfl⟩) (k_recv hK hw (kC_8 (fIx_lt S x1)) rfl rfl) hK hN hZ hA hw (Nat.le_of_ble_eq_true rfl) (Nat.le_of_ble_eq_true rfl) rfl hl.1 rfl (Nat.le_of_ble_eq_true rfl) dX4_predicted_15 (fun H locs hw => ?_)
  refine W.eq (g2 := F0 m 18 ls [.int (bI ((fX1_saidTaken S (fIx S x1) x2)))]) rfl ?_
  exact kx_ret (show (xX4_predicted S x1 x2) = .inl (some (.int (bI ((fX1_saidTaken S (fIx S x1) x2)))), S) from by unfold xX4_predicted; rw [if_pos c_1, if_pos c_2]) (Nat.le_of_ble_eq_true rfl) (Nat.le_of_ble_eq_true rfl) (k_zret (r := (fX1_saidTaken S (fIx S x1) x2)) hx hb hr hlocks hK hw rfl rfl dX4_predicted_18)
def xX4_counter (S : uS) (x1 : Int32) (x2 : Int32) : kR :=
  if x1 < (0 : Int32) then .inr "java/lang/IndexOutOfBoundsException"
  else if x1 ≤ (2 : Int32) then if x2 < (0 : Int32) then .inr "java/lang/IndexOutOfBoundsException"
      else if x2 < (S.1 1 (fTab x1) 1) then .inl (some (.int (S.1 2 (fTab x1) ((x2 &&& (255 : Int32)).toNatClampNeg))), S)
        else .inr "java/lang/IndexOutOfBoundsException"
    else .inr "java/lang/IndexOutOfBoundsException"
abbrev rmX4_counter : Room := { frames := 6, cells := 1, slots := 6, locals := 82 }
set_option maxHeartbeats 4000000 in
set_option maxRecDepth 100000 in
theorem cX4c_counter (l : Launch) (hlt : l.stackTraces = false) (G : gG) (Z : va_W) (S : uS) (x1 : Int32) (x2 : Int32) : kMetX l yX4_counter wsX4_counter rmX4_counter G kC Z S [.ref (G.2.2 (0, 0)), .int (x1), .int (x2)] (xX4_counter S x1 x2) 1 6 := by
  refine kMetX_of (cc := cX4_counter) (maxL := 4) (ret := (some .int)) (by decide) rfl (Nat.le_of_ble_eq_true rfl) ?_
  intro p e s m below meth c hx hb hr hml hlocks hno hts hown hK hN A hZ hA H locs hw ls hl
  have hl : lv_has ls 4 [(0, .ref (G.2.2 (0, 0))), (1, .int (x1)), (2, .int (x2))] := hl
  have hiX2 : ∀ w ∈ wsX20, w ∈ wsX4_counter := by decide +kernel
  refine lv_iload_n hx hb dX4_counter_0 rfl (lv_at hl 1 rfl) ?_
  refine lv_if_lt (x := x1) (tgt := 9) hx hb dX4_counter_1 (by decide) (fun c_1 => ?_) (fun c_1 => ?_)
  · skip
    exact kx_throw (cls := "java/lang/IndexOutOfBoundsException") (ik := 135) (is := 137) (ic := 139) hx hb hlt hown (by decide) (hts (.classLink RX4 135 "java/lang/IndexOutOfBoundsException") (by decide +kernel)) (hts (.initialized "java/lang/IndexOutOfBoundsException") (by decide +kernel)) hN (by decide) (kx_at_139 hN (fun w h => hts w (List.mem_cons_of_mem _ (List.mem_append_right _ h)))) vx_ok_139 hK hZ hw (hl.1.trans hml.symm) hno dX4_counter_9 dX4_counter_12 dX4_counter_13 dX4_counter_15 dX4_counter_18 (Nat.le_of_ble_eq_true rfl) (Nat.le_of_ble_eq_true rfl) (Nat.le_of_ble_eq_true rfl) (Nat.le_of_ble_eq_true rfl) hlocks (show (xX4_counter S x1 x2) = .inr "java/lang/IndexOutOfBoundsException" from by unfold xX4_counter; rw [if_pos c_1]) (Nat.le_of_ble_eq_true rfl) (Nat.le_of_ble_eq_true rfl)
  · skip
    refine lv_iload_n hx hb dX4_counter_4 rfl (lv_at hl 1 rfl) ?_
    refine lv_iconst (v := 2) hx hb dX4_counter_5 (by decide) ?_
    refine lv_icmp_le (tgt := 19) hx hb dX4_counter_6 (by decide) (fun c_2 => ?_) (fun c_2 => ?_)
    · skip
      refine lv_aload_n hx hb dX4_counter_19 rfl (lv_at hl 0 rfl) ?_
      refine lv_iload_n hx hb dX4_counter_20 rfl (lv_at hl 1 rfl) ?_
      refine k_callV (C := RX4) (n := 1) (rest := []) ⟨hx, hb, hml, hown, hts⟩ (cX4c_tableWith l G Z S x1) (cwV 1 hts gX4_counter_X4_tableWith rfl rfl rfl (by decide +kernel) ⟨Nat.le_of_ble_eq_true rfl, Nat.le_of_ble_eq_true rfl⟩) (k_recv hK hw kC_0 rfl rfl) hK hN hZ hA hw (Nat.le_of_ble_eq_true rfl) (Nat.le_of_ble_eq_true rfl) rfl hl.1 rfl (Nat.le_of_ble_eq_true rfl) dX4_counter_21 (fun H locs hw => ?_)
      refine W.eq (g2 := F0 m 24 ls [.ref (G.2.2 (1, (fTab x1)))]) rfl ?_
      refine lv_astore_n (lv' := [(3, .ref (G.2.2 (1, (fTab x1)))), (0, .ref (G.2.2 (0, 0))), (1, .int (x1)), (2, .int (x2))]) hx hb dX4_counter_24 rfl hl (by decide) rfl (fun ls hl => ?_)
      refine lv_iload_n hx hb dX4_counter_25 rfl (lv_at hl 3 rfl) ?_
      refine lv_if_lt (x := x2) (tgt := 37) hx hb dX4_counter_26 (by decide) (fun c_3 => ?_) (fun c_3 => ?_)
      · skip
        exact kx_throw (cls := "java/lang/IndexOutOfBoundsException") (ik := 135) (is := 147) (ic := 139) hx hb hlt hown (by decide) (hts (.classLink RX4 135 "java/lang/IndexOutOfBoundsException") (by decide +kernel)) (hts (.initialized "java/lang/IndexOutOfBoundsException") (by decide +kernel)) hN (by decide) (kx_at_139 hN (fun w h => hts w (List.mem_cons_of_mem _ (List.mem_append_right _ h)))) vx_ok_139 hK hZ hw (hl.1.trans hml.symm) hno dX4_counter_37 dX4_counter_40 dX4_counter_41 dX4_counter_43 dX4_counter_46 (Nat.le_of_ble_eq_true rfl) (Nat.le_of_ble_eq_true rfl) (Nat.le_of_ble_eq_true rfl) (Nat.le_of_ble_eq_true rfl) hlocks (show (xX4_counter S x1 x2) = .inr "java/lang/IndexOutOfBoundsException" from by unfold xX4_counter; rw [if_neg c_1, if_pos c_2, if_pos c_3]) (Nat.le_of_ble_eq_true rfl) (Nat.le_of_ble_eq_true rfl)
      · skip
        refine lv_iload_n hx hb dX4_counter_29 rfl (lv_at hl 3 rfl) ?_
        refine lv_aload_n hx hb dX4_counter_30 rfl (lv_at hl 0 rfl) ?_
        refine g_1_1 hx hb hts hiX2 hown hK hw (kC_1 (fTab_lt x1)) (hts (.fieldLink RX4 144 "BranchPredictor$CounterTable" "size" "I") (by decide +kernel)) dX4_counter_31 ?_
        refine lv_icmp_lt (tgt := 47) hx hb dX4_counter_34 (by decide) (fun c_4 => ?_) (fun c_4 => ?_)
        · skip
          refine lv_aload_n hx hb dX4_counter_47 rfl (lv_at hl 0 rfl) ?_
          refine lv_iload_n hx hb dX4_counter_48 rfl (lv_at hl 3 rfl) ?_
          refine k_callV (C := RX2) (n := 1) (rest := []) ⟨hx, hb, hml, hown, hts⟩ (cX2c_valueAt l G Z S (fTab x1) (fTab_lt x1) x2) (cwV 1 hts gX4_counter_X2_valueAt rfl rfl rfl (by decide +kernel) ⟨Nat.le_of_ble_eq_true rfl, Nat.le_of_ble_eq_true rfl⟩) (k_recv hK hw (kC_1 (fTab_lt x1)) rfl rfl) hK hN hZ hA hw (Nat.le_of_ble_eq_true rfl) (Nat.le_of_ble_eq_true rfl) rfl hl.1 rfl (Nat.le_of_ble_eq_true rfl) dX4_counter_49 (fun H locs hw => ?_)
          refine W.eq (g2 := F0 m 52 ls [.int (S.1 2 (fTab x1) ((x2 &&& (255 : Int32)).toNatClampNeg))]) rfl ?_
          exact kx_ret (show (xX4_counter S x1 x2) = .inl (some (.int (S.1 2 (fTab x1) ((x2 &&& (255 : Int32)).toNatClampNeg))), S) from by unfold xX4_counter; rw [if_neg c_1, if_pos c_2, if_neg c_3, if_pos c_4]) (Nat.le_of_ble_eq_true rfl) (Nat.le_of_ble_eq_true rfl) (k_iret hx hb hr hlocks hK hw rfl rfl dX4_counter_52)
        · skip
          exact kx_throw (cls := "java/lang/IndexOutOfBoundsException") (ik := 135) (is := 147) (ic := 139) hx hb hlt hown (by decide) (hts (.classLink RX4 135 "java/lang/IndexOutOfBoundsException") (by decide +kernel)) (hts (.initialized "java/lang/IndexOutOfBoundsException") (by decide +kernel)) hN (by decide) (kx_at_139 hN (fun w h => hts w (List.mem_cons_of_mem _ (List.mem_append_right _ h)))) vx_ok_139 hK hZ hw (hl.1.trans hml.symm) hno dX4_counter_37 dX4_counter_40 dX4_counter_41 dX4_counter_43 dX4_counter_46 (Nat.le_of_ble_eq_true rfl) (Nat.le_of_ble_eq_true rfl) (Nat.le_of_ble_eq_true rfl) (Nat.le_of_ble_eq_true rfl) hlocks (show (xX4_counter S x1 x2) = .inr "java/lang/IndexOutOfBoundsException" from by unfold xX4_counter; rw [if_neg c_1, if_pos c_2, if_neg c_3, if_neg c_4]) (Nat.le_of_ble_eq_true rfl) (Nat.le_of_ble_eq_true rfl)
    · skip
      exact kx_throw (cls := "java/lang/IndexOutOfBoundsException") (ik := 135) (is := 137) (ic := 139) hx hb hlt hown (by decide) (hts (.classLink RX4 135 "java/lang/IndexOutOfBoundsException") (by decide +kernel)) (hts (.initialized "java/lang/IndexOutOfBoundsException") (by decide +kernel)) hN (by decide) (kx_at_139 hN (fun w h => hts w (List.mem_cons_of_mem _ (List.mem_append_right _ h)))) vx_ok_139 hK hZ hw (hl.1.trans hml.symm) hno dX4_counter_9 dX4_counter_12 dX4_counter_13 dX4_counter_15 dX4_counter_18 (Nat.le_of_ble_eq_true rfl) (Nat.le_of_ble_eq_true rfl) (Nat.le_of_ble_eq_true rfl) (Nat.le_of_ble_eq_true rfl) hlocks (show (xX4_counter S x1 x2) = .inr "java/lang/IndexOutOfBoundsException" from by unfold xX4_counter; rw [if_neg c_1, if_neg c_2]) (Nat.le_of_ble_eq_true rfl) (Nat.le_of_ble_eq_true rfl)
def xX4_loop (S : uS) (N1 : Nat) (x1 : Int32) (x2 : Int32) : kR :=
  if x1 < (0 : Int32) then .inr "java/lang/IndexOutOfBoundsException"
  else if (8 : Int32) ≤ x1 then .inr "java/lang/IndexOutOfBoundsException"
    else if x2 < (0 : Int32) then .inr "java/lang/IndexOutOfBoundsException"
      else if x2 ≤ (4 : Int32) then if (fX3_isFree S x1.toNatClampNeg) = false then if x2 = (0 : Int32) then .inl (some (.int (S.1 9 x1.toNatClampNeg 0)), S)
            else if x2 = (1 : Int32) then .inl (some (.int (S.1 9 x1.toNatClampNeg 1)), S)
              else if x2 = (2 : Int32) then .inl (some (.int (S.1 9 x1.toNatClampNeg 2)), S)
                else if x2 = (3 : Int32) then .inl (some (.int (S.1 9 x1.toNatClampNeg 3)), S)
                  else .inl (some (.int ((lX4_presumed x1.toNatClampNeg N1 0 (S.1 9 x1.toNatClampNeg 1) S))), S)
          else .inl (some (.int ((-1 : Int32))), S)
        else .inr "java/lang/IndexOutOfBoundsException"
abbrev rmX4_loop : Room := { frames := 6, cells := 1, slots := 6, locals := 82 }
set_option maxHeartbeats 4000000 in
set_option maxRecDepth 100000 in
theorem cX4c_loop (l : Launch) (hlt : l.stackTraces = false) (G : gG) (Z : va_W) (S : uS) (N1 : Nat) (h_N1 : S.1 0 0 13 = nI N1) (h_N1b : N1 < 2 ^ 31) (x1 : Int32) (x2 : Int32) : kMetX l yX4_loop wsX4_loop rmX4_loop G kC Z S [.ref (G.2.2 (0, 0)), .int (x1), .int (x2)] (xX4_loop S N1 x1 x2) 1 6 := by
  refine kMetX_of (cc := cX4_loop) (maxL := 4) (ret := (some .int)) (by decide) rfl (Nat.le_of_ble_eq_true rfl) ?_
  intro p e s m below meth c hx hb hr hml hlocks hno hts hown hK hN A hZ hA H locs hw ls hl
  have hl : lv_has ls 4 [(0, .ref (G.2.2 (0, 0))), (1, .int (x1)), (2, .int (x2))] := hl
  have hiX3 : ∀ w ∈ wsX30, w ∈ wsX4_loop := by decide +kernel
  have hiX4 : ∀ w ∈ wsX40, w ∈ wsX4_loop := by decide +kernel
  refine lv_iload_n hx hb dX4_loop_0 rfl (lv_at hl 1 rfl) ?_
  refine lv_if_lt (x := x1) (tgt := 19) hx hb dX4_loop_1 (by decide) (fun c_1 => ?_) (fun c_1 => ?_)
  · skip
    exact kx_throw (cls := "java/lang/IndexOutOfBoundsException") (ik := 135) (is := 152) (ic := 139) hx hb hlt hown (by decide) (hts (.classLink RX4 135 "java/lang/IndexOutOfBoundsException") (by decide +kernel)) (hts (.initialized "java/lang/IndexOutOfBoundsException") (by decide +kernel)) hN (by decide) (kx_at_139 hN (fun w h => hts w (List.mem_cons_of_mem _ (List.mem_append_right _ h)))) vx_ok_139 hK hZ hw (hl.1.trans hml.symm) hno dX4_loop_19 dX4_loop_22 dX4_loop_23 dX4_loop_25 dX4_loop_28 (Nat.le_of_ble_eq_true rfl) (Nat.le_of_ble_eq_true rfl) (Nat.le_of_ble_eq_true rfl) (Nat.le_of_ble_eq_true rfl) hlocks (show (xX4_loop S N1 x1 x2) = .inr "java/lang/IndexOutOfBoundsException" from by unfold xX4_loop; rw [if_pos c_1]) (Nat.le_of_ble_eq_true rfl) (Nat.le_of_ble_eq_true rfl)
  · skip
    refine lv_iload_n hx hb dX4_loop_4 rfl (lv_at hl 1 rfl) ?_
    refine lv_bipush (v := 8) hx hb dX4_loop_5 (by decide) ?_
    refine lv_icmp_ge (tgt := 19) hx hb dX4_loop_7 (by decide) (fun c_2 => ?_) (fun c_2 => ?_)
    · skip
      exact kx_throw (cls := "java/lang/IndexOutOfBoundsException") (ik := 135) (is := 152) (ic := 139) hx hb hlt hown (by decide) (hts (.classLink RX4 135 "java/lang/IndexOutOfBoundsException") (by decide +kernel)) (hts (.initialized "java/lang/IndexOutOfBoundsException") (by decide +kernel)) hN (by decide) (kx_at_139 hN (fun w h => hts w (List.mem_cons_of_mem _ (List.mem_append_right _ h)))) vx_ok_139 hK hZ hw (hl.1.trans hml.symm) hno dX4_loop_19 dX4_loop_22 dX4_loop_23 dX4_loop_25 dX4_loop_28 (Nat.le_of_ble_eq_true rfl) (Nat.le_of_ble_eq_true rfl) (Nat.le_of_ble_eq_true rfl) (Nat.le_of_ble_eq_true rfl) hlocks (show (xX4_loop S N1 x1 x2) = .inr "java/lang/IndexOutOfBoundsException" from by unfold xX4_loop; rw [if_neg c_1, if_pos c_2]) (Nat.le_of_ble_eq_true rfl) (Nat.le_of_ble_eq_true rfl)
    · skip
      refine lv_iload_n hx hb dX4_loop_10 rfl (lv_at hl 2 rfl) ?_
      refine lv_if_lt (x := x2) (tgt := 19) hx hb dX4_loop_11 (by decide) (fun c_3 => ?_) (fun c_3 => ?_)
      · skip
        exact kx_throw (cls := "java/lang/IndexOutOfBoundsException") (ik := 135) (is := 152) (ic := 139) hx hb hlt hown (by decide) (hts (.classLink RX4 135 "java/lang/IndexOutOfBoundsException") (by decide +kernel)) (hts (.initialized "java/lang/IndexOutOfBoundsException") (by decide +kernel)) hN (by decide) (kx_at_139 hN (fun w h => hts w (List.mem_cons_of_mem _ (List.mem_append_right _ h)))) vx_ok_139 hK hZ hw (hl.1.trans hml.symm) hno dX4_loop_19 dX4_loop_22 dX4_loop_23 dX4_loop_25 dX4_loop_28 (Nat.le_of_ble_eq_true rfl) (Nat.le_of_ble_eq_true rfl) (Nat.le_of_ble_eq_true rfl) (Nat.le_of_ble_eq_true rfl) hlocks (show (xX4_loop S N1 x1 x2) = .inr "java/lang/IndexOutOfBoundsException" from by unfold xX4_loop; rw [if_neg c_1, if_neg c_2, if_pos c_3]) (Nat.le_of_ble_eq_true rfl) (Nat.le_of_ble_eq_true rfl)
      · skip
        refine lv_iload_n hx hb dX4_loop_14 rfl (lv_at hl 2 rfl) ?_
        refine lv_iconst (v := 4) hx hb dX4_loop_15 (by decide) ?_
        refine lv_icmp_le (tgt := 29) hx hb dX4_loop_16 (by decide) (fun c_4 => ?_) (fun c_4 => ?_)
        · skip
          refine lv_aload_n hx hb dX4_loop_29 rfl (lv_at hl 0 rfl) ?_
          refine g_0_6 hx hb hts hiX4 hown hK hw kC_0 (hts (.fieldLink RX4 40 "BranchPredictor" "loops" "[LBranchPredictor$Loop;") (by decide +kernel)) dX4_loop_30 ?_
          refine lv_iload_n hx hb dX4_loop_33 rfl (lv_at hl 1 rfl) ?_
          refine ald_6 hx hb hK hw kC_6 (i_nI0 (n := 8) c_1 c_2 (by decide)) dX4_loop_34 ?_
          refine lv_astore_n (lv' := [(3, .ref (G.2.2 (9, x1.toNatClampNeg))), (0, .ref (G.2.2 (0, 0))), (1, .int (x1)), (2, .int (x2))]) hx hb dX4_loop_35 rfl hl (by decide) rfl (fun ls hl => ?_)
          refine lv_aload_n hx hb dX4_loop_36 rfl (lv_at hl 0 rfl) ?_
          refine k_callV (C := RX3) (n := 0) (rest := []) ⟨hx, hb, hml, hown, hts⟩ (cX3c_isFree l G Z S x1.toNatClampNeg (vp_lt (i_nI0 (n := 8) c_1 c_2 (by decide)))) (cwV 0 hts gX4_loop_X3_isFree rfl rfl rfl (by decide +kernel) ⟨Nat.le_of_ble_eq_true rfl, Nat.le_of_ble_eq_true rfl⟩) (k_recv hK hw (kC_9 (vp_lt (i_nI0 (n := 8) c_1 c_2 (by decide)))) rfl rfl) hK hN hZ hA hw (Nat.le_of_ble_eq_true rfl) (Nat.le_of_ble_eq_true rfl) rfl hl.1 rfl (Nat.le_of_ble_eq_true rfl) dX4_loop_37 (fun H locs hw => ?_)
          refine W.eq (g2 := F0 m 40 ls [.int (bI ((fX3_isFree S x1.toNatClampNeg)))]) rfl ?_
          refine k_if_eq (b := (fX3_isFree S x1.toNatClampNeg)) (tgt := 45) hx hb dX4_loop_40 (by decide) (fun c_5 => ?_) (fun c_5 => ?_)
          · skip
            refine lv_iload_n hx hb dX4_loop_45 rfl (lv_at hl 3 rfl) ?_
            by_cases c_6 : x2 = (0 : Int32)
            · refine lv_tableIn (off := 30) (tgt := 76) hx hb dX4_loop_46 (by rw [c_6]; decide) (by rw [c_6]; decide) (by rw [c_6]; rfl) (by decide) ?_
              refine lv_aload_n hx hb dX4_loop_76 rfl (lv_at hl 0 rfl) ?_
              refine g_9_0 hx hb hts hiX3 hown hK hw (kC_9 (vp_lt (i_nI0 (n := 8) c_1 c_2 (by decide)))) (hts (.fieldLink RX4 157 "BranchPredictor$Loop" "place" "I") (by decide +kernel)) dX4_loop_77 ?_
              exact kx_ret (show (xX4_loop S N1 x1 x2) = .inl (some (.int (S.1 9 x1.toNatClampNeg 0)), S) from by unfold xX4_loop; rw [if_neg c_1, if_neg c_2, if_neg c_3, if_pos c_4, if_pos c_5, if_pos c_6]) (Nat.le_of_ble_eq_true rfl) (Nat.le_of_ble_eq_true rfl) (k_iret hx hb hr hlocks hK hw rfl rfl dX4_loop_80)
            · skip
              by_cases c_7 : x2 = (1 : Int32)
              · refine lv_tableIn (off := 35) (tgt := 81) hx hb dX4_loop_46 (by rw [c_7]; decide) (by rw [c_7]; decide) (by rw [c_7]; rfl) (by decide) ?_
                refine lv_aload_n hx hb dX4_loop_81 rfl (lv_at hl 0 rfl) ?_
                refine g_9_1 hx hb hts hiX3 hown hK hw (kC_9 (vp_lt (i_nI0 (n := 8) c_1 c_2 (by decide)))) (hts (.fieldLink RX4 158 "BranchPredictor$Loop" "count" "I") (by decide +kernel)) dX4_loop_82 ?_
                exact kx_ret (show (xX4_loop S N1 x1 x2) = .inl (some (.int (S.1 9 x1.toNatClampNeg 1)), S) from by unfold xX4_loop; rw [if_neg c_1, if_neg c_2, if_neg c_3, if_pos c_4, if_pos c_5, if_neg c_6, if_pos c_7]) (Nat.le_of_ble_eq_true rfl) (Nat.le_of_ble_eq_true rfl) (k_iret hx hb hr hlocks hK hw rfl rfl dX4_loop_85)
              · skip
                by_cases c_8 : x2 = (2 : Int32)
                · refine lv_tableIn (off := 40) (tgt := 86) hx hb dX4_loop_46 (by rw [c_8]; decide) (by rw [c_8]; decide) (by rw [c_8]; rfl) (by decide) ?_
                  refine lv_aload_n hx hb dX4_loop_86 rfl (lv_at hl 0 rfl) ?_
                  refine g_9_2 hx hb hts hiX3 hown hK hw (kC_9 (vp_lt (i_nI0 (n := 8) c_1 c_2 (by decide)))) (hts (.fieldLink RX4 161 "BranchPredictor$Loop" "trip" "I") (by decide +kernel)) dX4_loop_87 ?_
                  exact kx_ret (show (xX4_loop S N1 x1 x2) = .inl (some (.int (S.1 9 x1.toNatClampNeg 2)), S) from by unfold xX4_loop; rw [if_neg c_1, if_neg c_2, if_neg c_3, if_pos c_4, if_pos c_5, if_neg c_6, if_neg c_7, if_pos c_8]) (Nat.le_of_ble_eq_true rfl) (Nat.le_of_ble_eq_true rfl) (k_iret hx hb hr hlocks hK hw rfl rfl dX4_loop_90)
                · skip
                  by_cases c_9 : x2 = (3 : Int32)
                  · refine lv_tableIn (off := 45) (tgt := 91) hx hb dX4_loop_46 (by rw [c_9]; decide) (by rw [c_9]; decide) (by rw [c_9]; rfl) (by decide) ?_
                    refine lv_aload_n hx hb dX4_loop_91 rfl (lv_at hl 0 rfl) ?_
                    refine g_9_3 hx hb hts hiX3 hown hK hw (kC_9 (vp_lt (i_nI0 (n := 8) c_1 c_2 (by decide)))) (hts (.fieldLink RX4 164 "BranchPredictor$Loop" "trust" "I") (by decide +kernel)) dX4_loop_92 ?_
                    exact kx_ret (show (xX4_loop S N1 x1 x2) = .inl (some (.int (S.1 9 x1.toNatClampNeg 3)), S) from by unfold xX4_loop; rw [if_neg c_1, if_neg c_2, if_neg c_3, if_pos c_4, if_pos c_5, if_neg c_6, if_neg c_7, if_neg c_8, if_pos c_9]) (Nat.le_of_ble_eq_true rfl) (Nat.le_of_ble_eq_true rfl) (k_iret hx hb hr hlocks hK hw rfl rfl dX4_loop_95)
                  · skip
                    refine lv_tableOut (tgt := 96) hx hb dX4_loop_46 (tsw_4 c_6 c_7 c_8 c_9) (by decide) ?_
                    refine lv_aload_n hx hb dX4_loop_96 rfl (lv_at hl 1 rfl) ?_
                    refine lv_aload_n hx hb dX4_loop_97 rfl (lv_at hl 0 rfl) ?_
                    refine k_callV (C := RX4) (n := 1) (rest := []) ⟨hx, hb, hml, hown, hts⟩ (cX4c_presumedCount l G Z S x1.toNatClampNeg (vp_lt (i_nI0 (n := 8) c_1 c_2 (by decide))) N1 h_N1 h_N1b) (cwV 1 hts gX4_loop_X4_presumedCount rfl rfl rfl (by decide +kernel) ⟨Nat.le_of_ble_eq_true rfl, Nat.le_of_ble_eq_true rfl⟩) (k_recv hK hw kC_0 rfl rfl) hK hN hZ hA hw (Nat.le_of_ble_eq_true rfl) (Nat.le_of_ble_eq_true rfl) rfl hl.1 rfl (Nat.le_of_ble_eq_true rfl) dX4_loop_98 (fun H locs hw => ?_)
                    refine W.eq (g2 := F0 m 101 ls [.int ((lX4_presumed x1.toNatClampNeg N1 0 (S.1 9 x1.toNatClampNeg 1) S))]) rfl ?_
                    exact kx_ret (show (xX4_loop S N1 x1 x2) = .inl (some (.int ((lX4_presumed x1.toNatClampNeg N1 0 (S.1 9 x1.toNatClampNeg 1) S))), S) from by unfold xX4_loop; rw [if_neg c_1, if_neg c_2, if_neg c_3, if_pos c_4, if_pos c_5, if_neg c_6, if_neg c_7, if_neg c_8, if_neg c_9]) (Nat.le_of_ble_eq_true rfl) (Nat.le_of_ble_eq_true rfl) (k_iret hx hb hr hlocks hK hw rfl rfl dX4_loop_101)
          · skip
            refine lv_iconst (v := -1) hx hb dX4_loop_43 (by decide) ?_
            exact kx_ret (show (xX4_loop S N1 x1 x2) = .inl (some (.int ((-1 : Int32))), S) from by unfold xX4_loop; rw [if_neg c_1, if_neg c_2, if_neg c_3, if_pos c_4, if_neg c_5]) (Nat.le_of_ble_eq_true rfl) (Nat.le_of_ble_eq_true rfl) (k_iret hx hb hr hlocks hK hw rfl rfl dX4_loop_44)
        · skip
          exact kx_throw (cls := "java/lang/IndexOutOfBoundsException") (ik := 135) (is := 152) (ic := 139) hx hb hlt hown (by decide) (hts (.classLink RX4 135 "java/lang/IndexOutOfBoundsException") (by decide +kernel)) (hts (.initialized "java/lang/IndexOutOfBoundsException") (by decide +kernel)) hN (by decide) (kx_at_139 hN (fun w h => hts w (List.mem_cons_of_mem _ (List.mem_append_right _ h)))) vx_ok_139 hK hZ hw (hl.1.trans hml.symm) hno dX4_loop_19 dX4_loop_22 dX4_loop_23 dX4_loop_25 dX4_loop_28 (Nat.le_of_ble_eq_true rfl) (Nat.le_of_ble_eq_true rfl) (Nat.le_of_ble_eq_true rfl) (Nat.le_of_ble_eq_true rfl) hlocks (show (xX4_loop S N1 x1 x2) = .inr "java/lang/IndexOutOfBoundsException" from by unfold xX4_loop; rw [if_neg c_1, if_neg c_2, if_neg c_3, if_neg c_4]) (Nat.le_of_ble_eq_true rfl) (Nat.le_of_ble_eq_true rfl)
def xX4_misses (S : uS) (x1 : Int32) : kR :=
  if okKind x1 = true then .inl (some (.long (S.2.1 7 0 x1.toNatClampNeg)), S)
  else .inr "java/lang/IndexOutOfBoundsException"
abbrev rmX4_misses : Room := { frames := 7, cells := 1, slots := 6, locals := 102 }
set_option maxHeartbeats 4000000 in
set_option maxRecDepth 100000 in
theorem cX4c_misses (l : Launch) (hlt : l.stackTraces = false) (G : gG) (Z : va_W) (S : uS) (x1 : Int32) : kMetX l yX4_misses wsX4_misses rmX4_misses G kC Z S [.ref (G.2.2 (0, 0)), .int (x1)] (xX4_misses S x1) 1 6 := by
  refine kMetX_of (cc := cX4_misses) (maxL := 2) (ret := (some .long)) (by decide) rfl (Nat.le_of_ble_eq_true rfl) ?_
  intro p e s m below meth c hx hb hr hml hlocks hno hts hown hK hN A hZ hA H locs hw ls hl
  have hl : lv_has ls 2 [(0, .ref (G.2.2 (0, 0))), (1, .int (x1))] := hl
  have hiX4 : ∀ w ∈ wsX40, w ∈ wsX4_misses := by decide +kernel
  refine lv_iload_n hx hb dX4_misses_0 rfl (lv_at hl 1 rfl) ?_
  refine kx_callS (n := 1) (mc0 := 1) (ms0 := 6) (rest := []) ⟨hx, hb, hml, hown, hts⟩ (cX4c_requireKind l hlt G Z S x1) (va_cwS 1 hts gX4_misses_X4_requireKind rfl rfl rfl (by decide +kernel) ⟨Nat.le_of_ble_eq_true rfl, Nat.le_of_ble_eq_true rfl⟩) hK hN hZ hA hw (Nat.le_of_ble_eq_true rfl) (Nat.le_of_ble_eq_true rfl) rfl hl.1 rfl (Nat.le_of_ble_eq_true rfl) dX4_misses_1 (fun E hE q9 ce H locs hw hce hcv hcl => ?_) (fun v u hvu H locs hw => ?_)
  · have c_1 : ¬ (okKind x1 = true) := fun h9 => by rw [if_pos h9] at hE; cases hE
    rw [if_neg c_1] at hE
    cases hE
    exact kx_prop hK hw hno hlocks hce hcv hcl (show (xX4_misses S x1) = .inr "java/lang/IndexOutOfBoundsException" from by unfold xX4_misses; rw [if_neg c_1]) (Nat.le_of_ble_eq_true rfl) (Nat.le_of_ble_eq_true rfl)
  have c_1 : okKind x1 = true := Classical.byContradiction (fun h9 => by rw [if_neg h9] at hvu; cases hvu)
  rw [if_pos c_1] at hvu
  cases hvu
  refine W.eq (g2 := F0 m 4 ls []) rfl ?_
  refine lv_aload_n hx hb dX4_misses_4 rfl (lv_at hl 0 rfl) ?_
  refine g_0_7 hx hb hts hiX4 hown hK hw kC_0 (hts (.fieldLink RX4 44 "BranchPredictor" "missed" "[J") (by decide +kernel)) dX4_misses_5 ?_
  refine lv_iload_n hx hb dX4_misses_8 rfl (lv_at hl 1 rfl) ?_
  refine ld_7_0 hx hb hK hw kC_7 (okKind_in c_1) dX4_misses_9 ?_
  exact kx_ret (show (xX4_misses S x1) = .inl (some (.long (S.2.1 7 0 x1.toNatClampNeg)), S) from by unfold xX4_misses; rw [if_pos c_1]) (Nat.le_of_ble_eq_true rfl) (Nat.le_of_ble_eq_true rfl) (k_lret hx hb hr hlocks hK hw rfl rfl dX4_misses_10)
def xX4_meetings (S : uS) (x1 : Int32) (b1 : Bool) : kR :=
  if x1 = (0 : Int32) then .inl (some (.long (if b1 = false then S.2.1 3 0 1 else S.2.1 3 0 2)), S)
  else if x1 = (1 : Int32) then .inl (some (.long (if b1 = false then S.2.1 3 1 1 else S.2.1 3 1 2)), S)
    else .inr "java/lang/IndexOutOfBoundsException"
abbrev rmX4_meetings : Room := { frames := 6, cells := 1, slots := 6, locals := 82 }
set_option maxHeartbeats 4000000 in
set_option maxRecDepth 100000 in
theorem cX4c_meetings (l : Launch) (hlt : l.stackTraces = false) (G : gG) (Z : va_W) (S : uS) (x1 : Int32) (b1 : Bool) : kMetX l yX4_meetings wsX4_meetings rmX4_meetings G kC Z S [.ref (G.2.2 (0, 0)), .int (x1), .int (bI (b1))] (xX4_meetings S x1 b1) 1 6 := by
  refine kMetX_of (cc := cX4_meetings) (maxL := 4) (ret := (some .long)) (by decide) rfl (Nat.le_of_ble_eq_true rfl) ?_
  intro p e s m below meth c hx hb hr hml hlocks hno hts hown hK hN A hZ hA H locs hw ls hl
  have hl : lv_has ls 4 [(0, .ref (G.2.2 (0, 0))), (1, .int (x1)), (2, .int (bI (b1)))] := hl
  have hiX0 : ∀ w ∈ wsX00, w ∈ wsX4_meetings := by decide +kernel
  have hiX4 : ∀ w ∈ wsX40, w ∈ wsX4_meetings := by decide +kernel
  refine lv_iload_n hx hb dX4_meetings_0 rfl (lv_at hl 1 rfl) ?_
  refine lv_if_eq (x := x1) (tgt := 19) hx hb dX4_meetings_1 (by decide) (fun c_1 => ?_) (fun c_1 => ?_)
  · skip
    refine lv_iload_n hx hb dX4_meetings_19 rfl (lv_at hl 1 rfl) ?_
    refine lv_if_ne (x := x1) (tgt := 30) hx hb dX4_meetings_20 (by decide) (fun h9 => absurd c_1 h9) (fun _ => ?_)
    refine lv_aload_n hx hb dX4_meetings_23 rfl (lv_at hl 0 rfl) ?_
    refine g_0_3 hx hb hts hiX4 hown hK hw kC_0 (hts (.fieldLink RX4 25 "BranchPredictor" "plainAudit" "LBranchPredictor$Audit;") (by decide +kernel)) dX4_meetings_24 ?_
    refine lv_goto (tgt := 34) hx hb dX4_meetings_27 (by decide) ?_
    refine lv_astore_n (lv' := [(3, .ref (G.2.2 (3, 0))), (0, .ref (G.2.2 (0, 0))), (1, .int (x1)), (2, .int (bI (b1)))]) hx hb dX4_meetings_34 rfl hl (by decide) rfl (fun ls hl => ?_)
    refine lv_iload_n hx hb dX4_meetings_35 rfl (lv_at hl 3 rfl) ?_
    refine k_join (P := fun x9 : Int64 => W p l e rmX4_meetings s m [.ref (G.2.2 (0, 0)), .int (x1), .int (bI (b1))].toArray below meth c H locs 0 0 (vx_MQ below (kQx G kC Z A (xX4_meetings S x1 b1)) (kXx G kC Z A S (xX4_meetings S x1 b1)) [.ref (G.2.2 (0, 0)), .int (x1), .int (bI (b1))].toArray s 1 6 A) (F0 m 50 ls [.long (x9)])) (C := b1 = false) (a := S.2.1 3 0 1) (b := S.2.1 3 0 2) ?_ (fun ka kb => ?_)
    rotate_left
    · refine k_if_eq (b := b1) (tgt := 46) hx hb dX4_meetings_36 (by decide) (fun c_2 => ?_) (fun c_2 => ?_)
      · skip
        refine lv_aload_n hx hb dX4_meetings_46 rfl (lv_at hl 0 rfl) ?_
        refine g_3_1 hx hb hts hiX0 hown hK hw (kC_3 (show (0 : Nat) < 2 from by decide)) (hts (.fieldLink RX4 183 "BranchPredictor$Audit" "allMeetings" "J") (by decide +kernel)) dX4_meetings_47 ?_
        exact ka c_2
      · skip
        refine lv_aload_n hx hb dX4_meetings_39 rfl (lv_at hl 0 rfl) ?_
        refine g_3_2 hx hb hts hiX0 hown hK hw (kC_3 (show (0 : Nat) < 2 from by decide)) (hts (.fieldLink RX4 180 "BranchPredictor$Audit" "harmfulMeetings" "J") (by decide +kernel)) dX4_meetings_40 ?_
        refine lv_goto (tgt := 50) hx hb dX4_meetings_43 (by decide) ?_
        exact kb c_2
    show W p l e rmX4_meetings s m [.ref (G.2.2 (0, 0)), .int (x1), .int (bI (b1))].toArray below meth c H locs 0 0 (vx_MQ below (kQx G kC Z A (xX4_meetings S x1 b1)) (kXx G kC Z A S (xX4_meetings S x1 b1)) [.ref (G.2.2 (0, 0)), .int (x1), .int (bI (b1))].toArray s 1 6 A) (F0 m 50 ls [.long (if b1 = false then S.2.1 3 0 1 else S.2.1 3 0 2)])
    exact kx_ret (show (xX4_meetings S x1 b1) = .inl (some (.long (if b1 = false then S.2.1 3 0 1 else S.2.1 3 0 2)), S) from by unfold xX4_meetings; rw [if_pos c_1]) (Nat.le_of_ble_eq_true rfl) (Nat.le_of_ble_eq_true rfl) (k_lret hx hb hr hlocks hK hw rfl rfl dX4_meetings_50)
  · skip
    refine lv_iload_n hx hb dX4_meetings_4 rfl (lv_at hl 1 rfl) ?_
    refine lv_iconst (v := 1) hx hb dX4_meetings_5 (by decide) ?_
    refine lv_icmp_eq (tgt := 19) hx hb dX4_meetings_6 (by decide) (fun c_3 => ?_) (fun c_3 => ?_)
    · skip
      refine lv_iload_n hx hb dX4_meetings_19 rfl (lv_at hl 1 rfl) ?_
      refine lv_if_ne (x := x1) (tgt := 30) hx hb dX4_meetings_20 (by decide) (fun _ => ?_) (fun h9 => absurd h9 c_1)
      refine lv_aload_n hx hb dX4_meetings_30 rfl (lv_at hl 0 rfl) ?_
      refine g_0_4 hx hb hts hiX4 hown hK hw kC_0 (hts (.fieldLink RX4 29 "BranchPredictor" "globalAudit" "LBranchPredictor$Audit;") (by decide +kernel)) dX4_meetings_31 ?_
      refine lv_astore_n (lv' := [(3, .ref (G.2.2 (3, 1))), (0, .ref (G.2.2 (0, 0))), (1, .int (x1)), (2, .int (bI (b1)))]) hx hb dX4_meetings_34 rfl hl (by decide) rfl (fun ls hl => ?_)
      refine lv_iload_n hx hb dX4_meetings_35 rfl (lv_at hl 3 rfl) ?_
      refine k_join (P := fun x9 : Int64 => W p l e rmX4_meetings s m [.ref (G.2.2 (0, 0)), .int (x1), .int (bI (b1))].toArray below meth c H locs 0 0 (vx_MQ below (kQx G kC Z A (xX4_meetings S x1 b1)) (kXx G kC Z A S (xX4_meetings S x1 b1)) [.ref (G.2.2 (0, 0)), .int (x1), .int (bI (b1))].toArray s 1 6 A) (F0 m 50 ls [.long (x9)])) (C := b1 = false) (a := S.2.1 3 1 1) (b := S.2.1 3 1 2) ?_ (fun ka kb => ?_)
      rotate_left
      · refine k_if_eq (b := b1) (tgt := 46) hx hb dX4_meetings_36 (by decide) (fun c_4 => ?_) (fun c_4 => ?_)
        · skip
          refine lv_aload_n hx hb dX4_meetings_46 rfl (lv_at hl 0 rfl) ?_
          refine g_3_1 hx hb hts hiX0 hown hK hw (kC_3 (show (1 : Nat) < 2 from by decide)) (hts (.fieldLink RX4 183 "BranchPredictor$Audit" "allMeetings" "J") (by decide +kernel)) dX4_meetings_47 ?_
          exact ka c_4
        · skip
          refine lv_aload_n hx hb dX4_meetings_39 rfl (lv_at hl 0 rfl) ?_
          refine g_3_2 hx hb hts hiX0 hown hK hw (kC_3 (show (1 : Nat) < 2 from by decide)) (hts (.fieldLink RX4 180 "BranchPredictor$Audit" "harmfulMeetings" "J") (by decide +kernel)) dX4_meetings_40 ?_
          refine lv_goto (tgt := 50) hx hb dX4_meetings_43 (by decide) ?_
          exact kb c_4
      show W p l e rmX4_meetings s m [.ref (G.2.2 (0, 0)), .int (x1), .int (bI (b1))].toArray below meth c H locs 0 0 (vx_MQ below (kQx G kC Z A (xX4_meetings S x1 b1)) (kXx G kC Z A S (xX4_meetings S x1 b1)) [.ref (G.2.2 (0, 0)), .int (x1), .int (bI (b1))].toArray s 1 6 A) (F0 m 50 ls [.long (if b1 = false then S.2.1 3 1 1 else S.2.1 3 1 2)])
      exact kx_ret (show (xX4_meetings S x1 b1) = .inl (some (.long (if b1 = false then S.2.1 3 1 1 else S.2.1 3 1 2)), S) from by unfold xX4_meetings; rw [if_neg c_1, if_pos c_3]) (Nat.le_of_ble_eq_true rfl) (Nat.le_of_ble_eq_true rfl) (k_lret hx hb hr hlocks hK hw rfl rfl dX4_meetings_50)
    · skip
      exact kx_throw (cls := "java/lang/IndexOutOfBoundsException") (ik := 135) (is := 178) (ic := 139) hx hb hlt hown (by decide) (hts (.classLink RX4 135 "java/lang/IndexOutOfBoundsException") (by decide +kernel)) (hts (.initialized "java/lang/IndexOutOfBoundsException") (by decide +kernel)) hN (by decide) (kx_at_139 hN (fun w h => hts w (List.mem_cons_of_mem _ (List.mem_append_right _ h)))) vx_ok_139 hK hZ hw (hl.1.trans hml.symm) hno dX4_meetings_9 dX4_meetings_12 dX4_meetings_13 dX4_meetings_15 dX4_meetings_18 (Nat.le_of_ble_eq_true rfl) (Nat.le_of_ble_eq_true rfl) (Nat.le_of_ble_eq_true rfl) (Nat.le_of_ble_eq_true rfl) hlocks (show (xX4_meetings S x1 b1) = .inr "java/lang/IndexOutOfBoundsException" from by unfold xX4_meetings; rw [if_neg c_1, if_neg c_3]) (Nat.le_of_ble_eq_true rfl) (Nat.le_of_ble_eq_true rfl)
