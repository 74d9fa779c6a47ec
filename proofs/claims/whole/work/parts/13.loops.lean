def lX2_fill (k1 : Nat) : Nat → Nat → uS → uS
  | 0, i, S1 => (S1)
  | n + 1, i, S1 => (lX2_fill k1 n (i + 1) (uI S1 2 k1 i (1 : Int32)))
def fX2_startAnew (S : uS) (k1 : Nat) (x1 : Int32) : uS :=
  (lX2_fill k1 256 0 (uI S 1 k1 1 ((1 : Int32) <<< (x1 &&& 31))))
abbrev rmX2_startAnew : Room := { frames := 0, cells := 0, slots := 0, locals := 0 }
set_option maxHeartbeats 4000000 in
set_option maxRecDepth 100000 in
theorem cX2c_startAnew (l : Launch) (G : gG) (Z : va_W) (S : uS) (k1 : Nat) (h_k1 : k1 < 3) (x1 : Int32) : kMet l yX2_startAnew wsX2_startAnew rmX2_startAnew G kC Z S [.ref (G.2.2 (1, k1)), .int (x1)] none (fX2_startAnew S k1 x1) := by
  refine kMet_of (cc := cX2_startAnew) (maxL := 3) (ret := none) (by decide) rfl (Nat.le_of_ble_eq_true rfl) ?_
  intro p e s m below meth c hx hb hr hml hlocks hts hown hK hN A hZ hA H locs hw ls hl
  have hl : lv_has ls 3 [(0, .ref (G.2.2 (1, k1))), (1, .int (x1))] := hl
  have hiX2 : ∀ w ∈ wsX20, w ∈ wsX2_startAnew := by decide +kernel
  refine lv_aload_n hx hb dX2_startAnew_0 rfl (lv_at hl 0 rfl) ?_
  refine lv_iconst (v := 1) hx hb dX2_startAnew_1 (by decide) ?_
  refine lv_iload_n hx hb dX2_startAnew_2 rfl (lv_at hl 1 rfl) ?_
  refine lv_ishl hx hb dX2_startAnew_3 ?_
  refine p_1_1 (v := (1 : Int32) <<< (x1 &&& 31)) hx hb hts hiX2 hown hK hw (kC_1 h_k1) (hts (.fieldLink RX2 15 "BranchPredictor$CounterTable" "size" "I") (by decide +kernel)) dX2_startAnew_4 (fun H locs hw => ?_)
  refine lv_iconst (v := 0) hx hb dX2_startAnew_7 (by decide) ?_
  refine lv_istore_n (lv' := [(2, .int ((0 : Int32))), (0, .ref (G.2.2 (1, k1))), (1, .int (x1))]) hx hb dX2_startAnew_8 rfl hl (by decide) rfl (fun ls hl => ?_)
  have hloop_lX2_fill : ∀ (n i : Nat) (S1 : uS) (H : Heap) (locs : List Loc) (ls : Array Slot), i + n = 256 → kS G kC S1 Z A s.heap H locs → lv_has ls 3 [(0, .ref (G.2.2 (1, k1))), (1, .int (x1)), (2, .int (nI i))] → (∀ (H : Heap) (locs : List Loc) (ls : Array Slot), kS G kC (lX2_fill k1 n i S1) Z A s.heap H locs → lv_has ls 3 [(0, .ref (G.2.2 (1, k1))), (1, .int (x1)), (2, .int (nI 256))] → W p l e rmX2_startAnew s m [.ref (G.2.2 (1, k1)), .int (x1)].toArray below meth c H locs 0 0 (MQ below (kQ G kC Z A none (fX2_startAnew S k1 x1)) [.ref (G.2.2 (1, k1)), .int (x1)].toArray s 0 0 A) (F0 m 29 ls [])) → W p l e rmX2_startAnew s m [.ref (G.2.2 (1, k1)), .int (x1)].toArray below meth c H locs 0 0 (MQ below (kQ G kC Z A none (fX2_startAnew S k1 x1)) [.ref (G.2.2 (1, k1)), .int (x1)].toArray s 0 0 A) (F0 m 9 ls []) := by
    intro n
    induction n with
    | zero =>
      intro i S1 H locs ls hin hw hl kx
      have z_1 : (256 : Int32) ≤ (nI i) := (nI_le (a := 256) (b := i) (by omega) (by omega))
      refine lv_iload_n hx hb dX2_startAnew_9 rfl (lv_at hl 2 rfl) ?_
      refine lv_sipush (v := 256) hx hb dX2_startAnew_10 (by decide) ?_
      refine lv_icmp_ge (tgt := 29) hx hb dX2_startAnew_13 (by decide) (fun _ => ?_) (fun h9 => absurd z_1 h9)
      have hin : i = 256 := hin
      rw [hin] at hl
      exact kx H locs ls hw (lv_sub hl [0, 1, 2] rfl)
    | succ n ih =>
      intro i S1 H locs ls hin hw hl kx
      have hi : i < 256 := by omega
      have hi31 : i < 2 ^ 31 := Nat.lt_trans hi (by decide)
      have z_2 : ¬ ((256 : Int32) ≤ (nI i)) := (nI_ge (a := i) (b := 256) hi (by decide))
      refine lv_iload_n hx hb dX2_startAnew_9 rfl (lv_at hl 2 rfl) ?_
      refine lv_sipush (v := 256) hx hb dX2_startAnew_10 (by decide) ?_
      refine lv_icmp_ge (tgt := 29) hx hb dX2_startAnew_13 (by decide) (fun h9 => absurd h9 z_2) (fun _ => ?_)
      refine lv_aload_n hx hb dX2_startAnew_16 rfl (lv_at hl 0 rfl) ?_
      refine g_1_0 hx hb hts hiX2 hown hK hw (kC_1 h_k1) (hts (.fieldLink RX2 9 "BranchPredictor$CounterTable" "values" "[I") (by decide +kernel)) dX2_startAnew_17 ?_
      refine lv_iload_n hx hb dX2_startAnew_20 rfl (lv_at hl 2 rfl) ?_
      refine lv_iconst (v := 1) hx hb dX2_startAnew_21 (by decide) ?_
      refine st_2 (x := (1 : Int32)) hx hb hK hw (kC_2 h_k1) (vp_in_nI (by first | omega | (split <;> omega)) (by decide)) dX2_startAnew_22 (fun H locs hw => ?_)
      rw [nI_clamp hi31] at hw
      refine lv_iinc (v := nI (i + 1)) (lv' := [(2, .int (nI (i + 1))), (0, .ref (G.2.2 (1, k1))), (1, .int (x1))]) hx hb dX2_startAnew_23 hl (k := 2) rfl (by rw [← nI_1]; rfl) (by decide) rfl (fun ls hl => ?_)
      refine lv_goto (tgt := 9) hx hb dX2_startAnew_26 (by decide) ?_
      exact ih (i + 1) (uI S1 2 k1 i (1 : Int32)) H locs ls (by omega) hw (lv_sub hl [1, 2, 0] rfl) (by rw [(show (lX2_fill k1 (n + 1) i S1) = (lX2_fill k1 n (i + 1) (uI S1 2 k1 i (1 : Int32))) from by rw [lX2_fill])] at kx; exact kx)
  refine hloop_lX2_fill 256 0 (uI S 1 k1 1 ((1 : Int32) <<< (x1 &&& 31))) H locs ls (by omega) hw (lv_sub hl [1, 2, 0] rfl) (fun H locs ls hw hl => ?_)
  exact k_vret hx hb hr hlocks hK hw rfl (by unfold fX2_startAnew; rfl) dX2_startAnew_29
def lX0_fill (k2 : Nat) : Nat → Nat → uS → uS
  | 0, i, S1 => (S1)
  | n + 1, i, S1 => (lX0_fill k2 n (i + 1) (uI S1 4 k2 i (-1 : Int32)))
def fX0_startAnew (S : uS) (k2 : Nat) : uS :=
  (uL (uL (lX0_fill k2 256 0 S) 3 k2 1 (0 : Int64)) 3 k2 2 (0 : Int64))
abbrev rmX0_startAnew : Room := { frames := 0, cells := 0, slots := 0, locals := 0 }
set_option maxHeartbeats 4000000 in
set_option maxRecDepth 100000 in
theorem cX0c_startAnew (l : Launch) (G : gG) (Z : va_W) (S : uS) (k2 : Nat) (h_k2 : k2 < 2) : kMet l yX0_startAnew wsX0_startAnew rmX0_startAnew G kC Z S [.ref (G.2.2 (3, k2))] none (fX0_startAnew S k2) := by
  refine kMet_of (cc := cX0_startAnew) (maxL := 2) (ret := none) (by decide) rfl (Nat.le_of_ble_eq_true rfl) ?_
  intro p e s m below meth c hx hb hr hml hlocks hts hown hK hN A hZ hA H locs hw ls hl
  have hl : lv_has ls 2 [(0, .ref (G.2.2 (3, k2)))] := hl
  have hiX0 : ∀ w ∈ wsX00, w ∈ wsX0_startAnew := by decide +kernel
  refine lv_iconst (v := 0) hx hb dX0_startAnew_0 (by decide) ?_
  refine lv_istore_n (lv' := [(1, .int ((0 : Int32))), (0, .ref (G.2.2 (3, k2)))]) hx hb dX0_startAnew_1 rfl hl (by decide) rfl (fun ls hl => ?_)
  have hloop_lX0_fill : ∀ (n i : Nat) (S1 : uS) (H : Heap) (locs : List Loc) (ls : Array Slot), i + n = 256 → kS G kC S1 Z A s.heap H locs → lv_has ls 2 [(0, .ref (G.2.2 (3, k2))), (1, .int (nI i))] → (∀ (H : Heap) (locs : List Loc) (ls : Array Slot), kS G kC (lX0_fill k2 n i S1) Z A s.heap H locs → lv_has ls 2 [(0, .ref (G.2.2 (3, k2))), (1, .int (nI 256))] → W p l e rmX0_startAnew s m [.ref (G.2.2 (3, k2))].toArray below meth c H locs 0 0 (MQ below (kQ G kC Z A none (fX0_startAnew S k2)) [.ref (G.2.2 (3, k2))].toArray s 0 0 A) (F0 m 22 ls [])) → W p l e rmX0_startAnew s m [.ref (G.2.2 (3, k2))].toArray below meth c H locs 0 0 (MQ below (kQ G kC Z A none (fX0_startAnew S k2)) [.ref (G.2.2 (3, k2))].toArray s 0 0 A) (F0 m 2 ls []) := by
    intro n
    induction n with
    | zero =>
      intro i S1 H locs ls hin hw hl kx
      have z_1 : (256 : Int32) ≤ (nI i) := (nI_le (a := 256) (b := i) (by omega) (by omega))
      refine lv_iload_n hx hb dX0_startAnew_2 rfl (lv_at hl 1 rfl) ?_
      refine lv_sipush (v := 256) hx hb dX0_startAnew_3 (by decide) ?_
      refine lv_icmp_ge (tgt := 22) hx hb dX0_startAnew_6 (by decide) (fun _ => ?_) (fun h9 => absurd z_1 h9)
      have hin : i = 256 := hin
      rw [hin] at hl
      exact kx H locs ls hw (lv_sub hl [0, 1] rfl)
    | succ n ih =>
      intro i S1 H locs ls hin hw hl kx
      have hi : i < 256 := by omega
      have hi31 : i < 2 ^ 31 := Nat.lt_trans hi (by decide)
      have z_2 : ¬ ((256 : Int32) ≤ (nI i)) := (nI_ge (a := i) (b := 256) hi (by decide))
      refine lv_iload_n hx hb dX0_startAnew_2 rfl (lv_at hl 1 rfl) ?_
      refine lv_sipush (v := 256) hx hb dX0_startAnew_3 (by decide) ?_
      refine lv_icmp_ge (tgt := 22) hx hb dX0_startAnew_6 (by decide) (fun h9 => absurd h9 z_2) (fun _ => ?_)
      refine lv_aload_n hx hb dX0_startAnew_9 rfl (lv_at hl 0 rfl) ?_
      refine g_3_0 hx hb hts hiX0 hown hK hw (kC_3 h_k2) (hts (.fieldLink RX0 9 "BranchPredictor$Audit" "latestPlaces" "[I") (by decide +kernel)) dX0_startAnew_10 ?_
      refine lv_iload_n hx hb dX0_startAnew_13 rfl (lv_at hl 1 rfl) ?_
      refine lv_iconst (v := -1) hx hb dX0_startAnew_14 (by decide) ?_
      refine st_4 (x := (-1 : Int32)) hx hb hK hw (kC_4 h_k2) (vp_in_nI (by first | omega | (split <;> omega)) (by decide)) dX0_startAnew_15 (fun H locs hw => ?_)
      rw [nI_clamp hi31] at hw
      refine lv_iinc (v := nI (i + 1)) (lv' := [(1, .int (nI (i + 1))), (0, .ref (G.2.2 (3, k2)))]) hx hb dX0_startAnew_16 hl (k := 1) rfl (by rw [← nI_1]; rfl) (by decide) rfl (fun ls hl => ?_)
      refine lv_goto (tgt := 2) hx hb dX0_startAnew_19 (by decide) ?_
      exact ih (i + 1) (uI S1 4 k2 i (-1 : Int32)) H locs ls (by omega) hw (lv_sub hl [1, 0] rfl) (by rw [(show (lX0_fill k2 (n + 1) i S1) = (lX0_fill k2 n (i + 1) (uI S1 4 k2 i (-1 : Int32))) from by rw [lX0_fill])] at kx; exact kx)
  refine hloop_lX0_fill 256 0 S H locs ls (by omega) hw (lv_sub hl [1, 0] rfl) (fun H locs ls hw hl => ?_)
  refine lv_aload_n hx hb dX0_startAnew_22 rfl (lv_at hl 0 rfl) ?_
  refine lv_lconst (v := 0) hx hb dX0_startAnew_23 (by decide) ?_
  refine p_3_1 (v := (0 : Int64)) hx hb hts hiX0 hown hK hw (kC_3 h_k2) (hts (.fieldLink RX0 15 "BranchPredictor$Audit" "allMeetings" "J") (by decide +kernel)) dX0_startAnew_24 (fun H locs hw => ?_)
  refine lv_aload_n hx hb dX0_startAnew_27 rfl (lv_at hl 0 rfl) ?_
  refine lv_lconst (v := 0) hx hb dX0_startAnew_28 (by decide) ?_
  refine p_3_2 (v := (0 : Int64)) hx hb hts hiX0 hown hK hw (kC_3 h_k2) (hts (.fieldLink RX0 19 "BranchPredictor$Audit" "harmfulMeetings" "J") (by decide +kernel)) dX0_startAnew_29 (fun H locs hw => ?_)
  exact k_vret hx hb hr hlocks hK hw rfl (by unfold fX0_startAnew; rfl) dX0_startAnew_32
def lX2_mix (k1 : Nat) : Nat → Nat → Int64 → uS → Int64
  | 0, i, a1, S => (a1)
  | n + 1, i, a1, S => (lX2_mix k1 n (i + 1) ((a1 * (31 : Int64)) + ((S.1 2 k1 i).toInt64)) S)
abbrev rmX2_mixInto : Room := { frames := 1, cells := 0, slots := 0, locals := 23 }
set_option maxHeartbeats 4000000 in
set_option maxRecDepth 100000 in
theorem cX2c_mixInto (l : Launch) (G : gG) (Z : va_W) (S : uS) (k1 : Nat) (h_k1 : k1 < 3) (N2 : Nat) (h_Ts : S.1 1 k1 1 = nI N2) (h_Tb : N2 ≤ 256) (z1 : Int64) : kMet l yX2_mixInto wsX2_mixInto rmX2_mixInto G kC Z S [.ref (G.2.2 (1, k1)), .long (z1)] (some (.long ((lX2_mix k1 N2 0 z1 S)))) S := by
  refine kMet_of (cc := cX2_mixInto) (maxL := 6) (ret := (some .long)) (by decide) rfl (Nat.le_of_ble_eq_true rfl) ?_
  intro p e s m below meth c hx hb hr hml hlocks hts hown hK hN A hZ hA H locs hw ls hl
  have hl : lv_has ls 6 [(0, .ref (G.2.2 (1, k1))), (1, .long (z1))] := hl
  have hiX2 : ∀ w ∈ wsX20, w ∈ wsX2_mixInto := by decide +kernel
  refine lv_lload_n hx hb dX2_mixInto_0 rfl (lv_at hl 1 rfl) ?_
  refine lv_lstore_n (lv' := [(3, .long (z1)), (0, .ref (G.2.2 (1, k1))), (1, .long (z1))]) hx hb dX2_mixInto_1 rfl hl (by decide) rfl (fun ls hl => ?_)
  refine lv_iconst (v := 0) hx hb dX2_mixInto_2 (by decide) ?_
  refine lv_istore (lv' := [(5, .int ((0 : Int32))), (3, .long (z1)), (0, .ref (G.2.2 (1, k1))), (1, .long (z1))]) hx hb dX2_mixInto_3 hl (by decide) rfl (fun ls hl => ?_)
  have hloop_lX2_mix : ∀ (n i : Nat) (a1 : Int64) (H : Heap) (locs : List Loc) (ls : Array Slot), i + n = N2 → kS G kC S Z A s.heap H locs → lv_has ls 6 [(0, .ref (G.2.2 (1, k1))), (1, .long (z1)), (3, .long (a1)), (5, .int (nI i))] → (∀ (H : Heap) (locs : List Loc) (ls : Array Slot), kS G kC S Z A s.heap H locs → lv_has ls 6 [(0, .ref (G.2.2 (1, k1))), (1, .long (z1)), (3, .long ((lX2_mix k1 n i a1 S))), (5, .int (nI N2))] → W p l e rmX2_mixInto s m [.ref (G.2.2 (1, k1)), .long (z1)].toArray below meth c H locs 0 0 (MQ below (kQ G kC Z A (some (.long ((lX2_mix k1 N2 0 z1 S)))) S) [.ref (G.2.2 (1, k1)), .long (z1)].toArray s 0 0 A) (F0 m 41 ls [])) → W p l e rmX2_mixInto s m [.ref (G.2.2 (1, k1)), .long (z1)].toArray below meth c H locs 0 0 (MQ below (kQ G kC Z A (some (.long ((lX2_mix k1 N2 0 z1 S)))) S) [.ref (G.2.2 (1, k1)), .long (z1)].toArray s 0 0 A) (F0 m 5 ls []) := by
    intro n
    induction n with
    | zero =>
      intro i a1 H locs ls hin hw hl kx
      have z_1 : (nI N2) ≤ (nI i) := (nI_le (a := N2) (b := i) (by omega) (by omega))
      refine lv_iload hx hb dX2_mixInto_5 (lv_at hl 3 rfl) ?_
      refine lv_aload_n hx hb dX2_mixInto_7 rfl (lv_at hl 0 rfl) ?_
      refine g_1_1 hx hb hts hiX2 hown hK hw (kC_1 h_k1) (hts (.fieldLink RX2 15 "BranchPredictor$CounterTable" "size" "I") (by decide +kernel)) dX2_mixInto_8 ?_
      refine k_topi (z := nI N2) (h_Ts) ?_
      refine lv_icmp_ge (tgt := 41) hx hb dX2_mixInto_11 (by decide) (fun _ => ?_) (fun h9 => absurd z_1 h9)
      have hin : i = N2 := hin
      rw [hin] at hl
      exact kx H locs ls hw (lv_sub hl [0, 1, 2, 3] rfl)
    | succ n ih =>
      intro i a1 H locs ls hin hw hl kx
      have hi : i < N2 := by omega
      have hi31 : i < 2 ^ 31 := Nat.lt_trans hi (by omega)
      have z_2 : ¬ ((nI N2) ≤ (nI i)) := (nI_ge (a := i) (b := N2) hi (by omega))
      have z_3 : ¬ ((256 : Int32) ≤ (nI i)) := (nI_ge (a := i) (b := 256) (by omega) (by decide))
      refine lv_iload hx hb dX2_mixInto_5 (lv_at hl 3 rfl) ?_
      refine lv_aload_n hx hb dX2_mixInto_7 rfl (lv_at hl 0 rfl) ?_
      refine g_1_1 hx hb hts hiX2 hown hK hw (kC_1 h_k1) (hts (.fieldLink RX2 15 "BranchPredictor$CounterTable" "size" "I") (by decide +kernel)) dX2_mixInto_8 ?_
      refine k_topi (z := nI N2) (h_Ts) ?_
      refine lv_icmp_ge (tgt := 41) hx hb dX2_mixInto_11 (by decide) (fun h9 => absurd h9 z_2) (fun _ => ?_)
      refine lv_iload hx hb dX2_mixInto_14 (lv_at hl 3 rfl) ?_
      refine lv_sipush (v := 256) hx hb dX2_mixInto_16 (by decide) ?_
      refine lv_icmp_ge (tgt := 41) hx hb dX2_mixInto_19 (by decide) (fun h9 => absurd h9 z_3) (fun _ => ?_)
      refine lv_lload_n hx hb dX2_mixInto_22 rfl (lv_at hl 2 rfl) ?_
      refine lv_aload_n hx hb dX2_mixInto_23 rfl (lv_at hl 0 rfl) ?_
      refine g_1_0 hx hb hts hiX2 hown hK hw (kC_1 h_k1) (hts (.fieldLink RX2 9 "BranchPredictor$CounterTable" "values" "[I") (by decide +kernel)) dX2_mixInto_24 ?_
      refine lv_iload hx hb dX2_mixInto_27 (lv_at hl 3 rfl) ?_
      refine ld_2 hx hb hK hw (kC_2 h_k1) (vp_in_nI (by first | omega | (split <;> omega)) (by decide)) dX2_mixInto_29 ?_
      refine k_topi (z := S.1 2 k1 i) (by rw [nI_clamp hi31]) ?_
      refine lv_i2l (v := (S.1 2 k1 i).toInt64) hx hb dX2_mixInto_30 rfl ?_
      refine k_callSN (host := "BranchPredictor") (n := 2) (rest := []) ⟨hx, hb, hml, hown, hts⟩ (cX4c_mix l G Z S a1 ((S.1 2 k1 i).toInt64)) ⟨va_cnB 2 hts gX2_mixInto_X4_mix_n32 rfl rfl rfl hN.2.1 (hts (.initialized RX4) (by decide +kernel)) (by decide +kernel) ⟨Nat.le_of_ble_eq_true rfl, Nat.le_of_ble_eq_true rfl⟩, (hts (.static yX4_mix) (by decide +kernel)), trivial⟩ hK hN hZ hA hw (Nat.zero_le _) (Nat.zero_le _) rfl hl.1 rfl (Nat.le_of_ble_eq_true rfl) dX2_mixInto_31 (fun H locs hw => ?_)
      refine W.eq (g2 := F0 m 34 ls [.long ((a1 * (31 : Int64)) + ((S.1 2 k1 i).toInt64))]) rfl ?_
      refine lv_lstore_n (lv' := [(3, .long ((a1 * (31 : Int64)) + ((S.1 2 k1 i).toInt64))), (0, .ref (G.2.2 (1, k1))), (1, .long (z1)), (5, .int (nI i))]) hx hb dX2_mixInto_34 rfl hl (by decide) rfl (fun ls hl => ?_)
      refine lv_iinc (v := nI (i + 1)) (lv' := [(5, .int (nI (i + 1))), (3, .long ((a1 * (31 : Int64)) + ((S.1 2 k1 i).toInt64))), (0, .ref (G.2.2 (1, k1))), (1, .long (z1))]) hx hb dX2_mixInto_35 hl (k := 3) rfl (by rw [← nI_1]; rfl) (by decide) rfl (fun ls hl => ?_)
      refine lv_goto (tgt := 5) hx hb dX2_mixInto_38 (by decide) ?_
      exact ih (i + 1) ((a1 * (31 : Int64)) + ((S.1 2 k1 i).toInt64)) H locs ls (by omega) hw (lv_sub hl [2, 3, 1, 0] rfl) (by rw [(show (lX2_mix k1 (n + 1) i a1 S) = (lX2_mix k1 n (i + 1) ((a1 * (31 : Int64)) + ((S.1 2 k1 i).toInt64)) S) from by rw [lX2_mix])] at kx; exact kx)
  refine hloop_lX2_mix N2 0 z1 H locs ls (by omega) hw (lv_sub hl [2, 3, 1, 0] rfl) (fun H locs ls hw hl => ?_)
  refine lv_lload_n hx hb dX2_mixInto_41 rfl (lv_at hl 2 rfl) ?_
  exact k_lret hx hb hr hlocks hK hw rfl rfl dX2_mixInto_42
def lX4_loopWith (x1 : Int32) : Nat → Nat → uS → Int32
  | 0, i, S => (-1 : Int32)
  | n + 1, i, S => if (S.1 9 i 0) = x1 then nI i
    else (lX4_loopWith x1 n (i + 1) S)
abbrev rmX4_loopWith : Room := { frames := 0, cells := 0, slots := 0, locals := 0 }
set_option maxHeartbeats 4000000 in
set_option maxRecDepth 100000 in
theorem cX4c_loopWith (l : Launch) (G : gG) (Z : va_W) (S : uS) (x1 : Int32) : kMet l yX4_loopWith wsX4_loopWith rmX4_loopWith G kC Z S [.ref (G.2.2 (0, 0)), .int (x1)] (some (.int ((lX4_loopWith x1 8 0 S)))) S := by
  refine kMet_of (cc := cX4_loopWith) (maxL := 3) (ret := (some .int)) (by decide) rfl (Nat.le_of_ble_eq_true rfl) ?_
  intro p e s m below meth c hx hb hr hml hlocks hts hown hK hN A hZ hA H locs hw ls hl
  have hl : lv_has ls 3 [(0, .ref (G.2.2 (0, 0))), (1, .int (x1))] := hl
  have hiX3 : ∀ w ∈ wsX30, w ∈ wsX4_loopWith := by decide +kernel
  have hiX4 : ∀ w ∈ wsX40, w ∈ wsX4_loopWith := by decide +kernel
  refine lv_iconst (v := 0) hx hb dX4_loopWith_0 (by decide) ?_
  refine lv_istore_n (lv' := [(2, .int ((0 : Int32))), (0, .ref (G.2.2 (0, 0))), (1, .int (x1))]) hx hb dX4_loopWith_1 rfl hl (by decide) rfl (fun ls hl => ?_)
  have hloop_lX4_loopWith : ∀ (n i : Nat) (H : Heap) (locs : List Loc) (ls : Array Slot), i + n = 8 → kS G kC S Z A s.heap H locs → lv_has ls 3 [(0, .ref (G.2.2 (0, 0))), (1, .int (x1)), (2, .int (nI i))] → ((some (.int ((lX4_loopWith x1 8 0 S)))) : Option Value) = some (.int ((lX4_loopWith x1 n i S))) → W p l e rmX4_loopWith s m [.ref (G.2.2 (0, 0)), .int (x1)].toArray below meth c H locs 0 0 (MQ below (kQ G kC Z A (some (.int ((lX4_loopWith x1 8 0 S)))) S) [.ref (G.2.2 (0, 0)), .int (x1)].toArray s 0 0 A) (F0 m 2 ls []) := by
    intro n
    induction n with
    | zero =>
      intro i H locs ls hin hw hl kx
      have z_1 : (8 : Int32) ≤ (nI i) := (nI_le (a := 8) (b := i) (by omega) (by omega))
      refine lv_iload_n hx hb dX4_loopWith_2 rfl (lv_at hl 2 rfl) ?_
      refine lv_bipush (v := 8) hx hb dX4_loopWith_3 (by decide) ?_
      refine lv_icmp_ge (tgt := 29) hx hb dX4_loopWith_5 (by decide) (fun _ => ?_) (fun h9 => absurd z_1 h9)
      refine lv_iconst (v := -1) hx hb dX4_loopWith_29 (by decide) ?_
      exact k_iret hx hb hr hlocks hK hw kx rfl dX4_loopWith_30
    | succ n ih =>
      intro i H locs ls hin hw hl kx
      have hi : i < 8 := by omega
      have hi31 : i < 2 ^ 31 := Nat.lt_trans hi (by decide)
      have z_2 : ¬ ((8 : Int32) ≤ (nI i)) := (nI_ge (a := i) (b := 8) hi (by decide))
      refine lv_iload_n hx hb dX4_loopWith_2 rfl (lv_at hl 2 rfl) ?_
      refine lv_bipush (v := 8) hx hb dX4_loopWith_3 (by decide) ?_
      refine lv_icmp_ge (tgt := 29) hx hb dX4_loopWith_5 (by decide) (fun h9 => absurd h9 z_2) (fun _ => ?_)
      refine lv_aload_n hx hb dX4_loopWith_8 rfl (lv_at hl 0 rfl) ?_
      refine g_0_6 hx hb hts hiX4 hown hK hw kC_0 (hts (.fieldLink RX4 40 "BranchPredictor" "loops" "[LBranchPredictor$Loop;") (by decide +kernel)) dX4_loopWith_9 ?_
      refine lv_iload_n hx hb dX4_loopWith_12 rfl (lv_at hl 2 rfl) ?_
      refine ald_6 hx hb hK hw kC_6 (vp_in_nI (by first | omega | (split <;> omega)) (by decide)) dX4_loopWith_13 ?_
      rw [nI_clamp hi31]
      refine g_9_0 hx hb hts hiX3 hown hK hw (kC_9 (Nat.lt_of_lt_of_le hi (by decide))) (hts (.fieldLink RX4 157 "BranchPredictor$Loop" "place" "I") (by decide +kernel)) dX4_loopWith_14 ?_
      refine lv_iload_n hx hb dX4_loopWith_17 rfl (lv_at hl 1 rfl) ?_
      refine lv_icmp_ne (tgt := 23) hx hb dX4_loopWith_18 (by decide) (fun c_3 => ?_) (fun c_3 => ?_)
      · skip
        refine lv_iinc (v := nI (i + 1)) (lv' := [(2, .int (nI (i + 1))), (0, .ref (G.2.2 (0, 0))), (1, .int (x1))]) hx hb dX4_loopWith_23 hl (k := 2) rfl (by rw [← nI_1]; rfl) (by decide) rfl (fun ls hl => ?_)
        refine lv_goto (tgt := 2) hx hb dX4_loopWith_26 (by decide) ?_
        exact ih (i + 1) H locs ls (by omega) hw (lv_sub hl [1, 2, 0] rfl) (kx.trans (congrArg (fun z : Int32 => some (Value.int (z))) (show (lX4_loopWith x1 (n + 1) i S) = (lX4_loopWith x1 n (i + 1) S) from by rw [lX4_loopWith, if_neg c_3])))
      · skip
        refine lv_iload_n hx hb dX4_loopWith_21 rfl (lv_at hl 2 rfl) ?_
        exact k_iret hx hb hr hlocks hK hw (kx.trans (congrArg (fun z : Int32 => some (Value.int (z))) (show (lX4_loopWith x1 (n + 1) i S) = nI i from by rw [lX4_loopWith, if_pos c_3]))) rfl dX4_loopWith_22
  exact hloop_lX4_loopWith 8 0 H locs ls (by omega) hw (lv_sub hl [1, 2, 0] rfl) rfl
def lX4_number : Nat → Nat → Nat → uS → Int32
  | 0, i, j, S => nI j
  | n + 1, i, j, S => if (fX3_isFree S i) = false then if (S.1 9 j 3) ≤ (S.1 9 i 3) then (lX4_number n (i + 1) j S)
      else (lX4_number n (i + 1) i S)
    else nI i
abbrev rmX4_numberForNewLoop : Room := { frames := 1, cells := 0, slots := 0, locals := 20 }
set_option maxHeartbeats 4000000 in
set_option maxRecDepth 100000 in
theorem cX4c_numberForNewLoop (l : Launch) (G : gG) (Z : va_W) (S : uS)  : kMet l yX4_numberForNewLoop wsX4_numberForNewLoop rmX4_numberForNewLoop G kC Z S [.ref (G.2.2 (0, 0))] (some (.int ((lX4_number 8 0 0 S)))) S := by
  refine kMet_of (cc := cX4_numberForNewLoop) (maxL := 3) (ret := (some .int)) (by decide) rfl (Nat.le_of_ble_eq_true rfl) ?_
  intro p e s m below meth c hx hb hr hml hlocks hts hown hK hN A hZ hA H locs hw ls hl
  have hl : lv_has ls 3 [(0, .ref (G.2.2 (0, 0)))] := hl
  have hiX3 : ∀ w ∈ wsX30, w ∈ wsX4_numberForNewLoop := by decide +kernel
  have hiX4 : ∀ w ∈ wsX40, w ∈ wsX4_numberForNewLoop := by decide +kernel
  refine lv_iconst (v := 0) hx hb dX4_numberForNewLoop_0 (by decide) ?_
  refine lv_istore_n (lv' := [(1, .int ((0 : Int32))), (0, .ref (G.2.2 (0, 0)))]) hx hb dX4_numberForNewLoop_1 rfl hl (by decide) rfl (fun ls hl => ?_)
  refine lv_iconst (v := 0) hx hb dX4_numberForNewLoop_2 (by decide) ?_
  refine lv_istore_n (lv' := [(2, .int ((0 : Int32))), (1, .int ((0 : Int32))), (0, .ref (G.2.2 (0, 0)))]) hx hb dX4_numberForNewLoop_3 rfl hl (by decide) rfl (fun ls hl => ?_)
  have hloop_lX4_number : ∀ (n i : Nat) (j : Nat) (H : Heap) (locs : List Loc) (ls : Array Slot), i + n = 8 → j < 8 → kS G kC S Z A s.heap H locs → lv_has ls 3 [(0, .ref (G.2.2 (0, 0))), (1, .int (nI j)), (2, .int (nI i))] → ((some (.int ((lX4_number 8 0 0 S)))) : Option Value) = some (.int ((lX4_number n i j S))) → W p l e rmX4_numberForNewLoop s m [.ref (G.2.2 (0, 0))].toArray below meth c H locs 0 0 (MQ below (kQ G kC Z A (some (.int ((lX4_number 8 0 0 S)))) S) [.ref (G.2.2 (0, 0))].toArray s 0 0 A) (F0 m 4 ls []) := by
    intro n
    induction n with
    | zero =>
      intro i j H locs ls hin h_j hw hl kx
      have z_1 : (8 : Int32) ≤ (nI i) := (nI_le (a := 8) (b := i) (by omega) (by omega))
      refine lv_iload_n hx hb dX4_numberForNewLoop_4 rfl (lv_at hl 2 rfl) ?_
      refine lv_bipush (v := 8) hx hb dX4_numberForNewLoop_5 (by decide) ?_
      refine lv_icmp_ge (tgt := 53) hx hb dX4_numberForNewLoop_7 (by decide) (fun _ => ?_) (fun h9 => absurd z_1 h9)
      refine lv_iload_n hx hb dX4_numberForNewLoop_53 rfl (lv_at hl 1 rfl) ?_
      exact k_iret hx hb hr hlocks hK hw kx rfl dX4_numberForNewLoop_54
    | succ n ih =>
      intro i j H locs ls hin h_j hw hl kx
      have hi : i < 8 := by omega
      have hi31 : i < 2 ^ 31 := Nat.lt_trans hi (by decide)
      have z_2 : ¬ ((8 : Int32) ≤ (nI i)) := (nI_ge (a := i) (b := 8) hi (by decide))
      refine lv_iload_n hx hb dX4_numberForNewLoop_4 rfl (lv_at hl 2 rfl) ?_
      refine lv_bipush (v := 8) hx hb dX4_numberForNewLoop_5 (by decide) ?_
      refine lv_icmp_ge (tgt := 53) hx hb dX4_numberForNewLoop_7 (by decide) (fun h9 => absurd h9 z_2) (fun _ => ?_)
      refine lv_aload_n hx hb dX4_numberForNewLoop_10 rfl (lv_at hl 0 rfl) ?_
      refine g_0_6 hx hb hts hiX4 hown hK hw kC_0 (hts (.fieldLink RX4 40 "BranchPredictor" "loops" "[LBranchPredictor$Loop;") (by decide +kernel)) dX4_numberForNewLoop_11 ?_
      refine lv_iload_n hx hb dX4_numberForNewLoop_14 rfl (lv_at hl 2 rfl) ?_
      refine ald_6 hx hb hK hw kC_6 (vp_in_nI (by first | omega | (split <;> omega)) (by decide)) dX4_numberForNewLoop_15 ?_
      rw [nI_clamp hi31]
      refine k_callV (C := RX3) (n := 0) (rest := []) ⟨hx, hb, hml, hown, hts⟩ (cX3c_isFree l G Z S i (Nat.lt_of_lt_of_le hi (by decide))) (cwV 0 hts gX4_numberForNewLoop_X3_isFree rfl rfl rfl (by decide +kernel) ⟨Nat.le_of_ble_eq_true rfl, Nat.le_of_ble_eq_true rfl⟩) (k_recv hK hw (kC_9 (Nat.lt_of_lt_of_le hi (by decide))) rfl rfl) hK hN hZ hA hw (Nat.zero_le _) (Nat.zero_le _) rfl hl.1 rfl (Nat.le_of_ble_eq_true rfl) dX4_numberForNewLoop_16 (fun H locs hw => ?_)
      refine W.eq (g2 := F0 m 19 ls [.int (bI ((fX3_isFree S i)))]) rfl ?_
      refine k_if_eq (b := (fX3_isFree S i)) (tgt := 24) hx hb dX4_numberForNewLoop_19 (by decide) (fun c_3 => ?_) (fun c_3 => ?_)
      · skip
        refine lv_aload_n hx hb dX4_numberForNewLoop_24 rfl (lv_at hl 0 rfl) ?_
        refine g_0_6 hx hb hts hiX4 hown hK hw kC_0 (hts (.fieldLink RX4 40 "BranchPredictor" "loops" "[LBranchPredictor$Loop;") (by decide +kernel)) dX4_numberForNewLoop_25 ?_
        refine lv_iload_n hx hb dX4_numberForNewLoop_28 rfl (lv_at hl 2 rfl) ?_
        refine ald_6 hx hb hK hw kC_6 (vp_in_nI (by first | omega | (split <;> omega)) (by decide)) dX4_numberForNewLoop_29 ?_
        rw [nI_clamp hi31]
        refine g_9_3 hx hb hts hiX3 hown hK hw (kC_9 (Nat.lt_of_lt_of_le hi (by decide))) (hts (.fieldLink RX4 164 "BranchPredictor$Loop" "trust" "I") (by decide +kernel)) dX4_numberForNewLoop_30 ?_
        refine lv_aload_n hx hb dX4_numberForNewLoop_33 rfl (lv_at hl 0 rfl) ?_
        refine g_0_6 hx hb hts hiX4 hown hK hw kC_0 (hts (.fieldLink RX4 40 "BranchPredictor" "loops" "[LBranchPredictor$Loop;") (by decide +kernel)) dX4_numberForNewLoop_34 ?_
        refine lv_iload_n hx hb dX4_numberForNewLoop_37 rfl (lv_at hl 1 rfl) ?_
        refine ald_6 hx hb hK hw kC_6 (vp_in_nI (by first | omega | (split <;> omega)) (by decide)) dX4_numberForNewLoop_38 ?_
        rw [nI_clamp (by omega)]
        refine g_9_3 hx hb hts hiX3 hown hK hw (kC_9 (by omega)) (hts (.fieldLink RX4 164 "BranchPredictor$Loop" "trust" "I") (by decide +kernel)) dX4_numberForNewLoop_39 ?_
        refine lv_icmp_ge (tgt := 47) hx hb dX4_numberForNewLoop_42 (by decide) (fun c_4 => ?_) (fun c_4 => ?_)
        · skip
          refine lv_iinc (v := nI (i + 1)) (lv' := [(2, .int (nI (i + 1))), (0, .ref (G.2.2 (0, 0))), (1, .int (nI j))]) hx hb dX4_numberForNewLoop_47 hl (k := 2) rfl (by rw [← nI_1]; rfl) (by decide) rfl (fun ls hl => ?_)
          refine lv_goto (tgt := 4) hx hb dX4_numberForNewLoop_50 (by decide) ?_
          exact ih (i + 1) j H locs ls (by omega) (by omega) hw (lv_sub hl [1, 2, 0] rfl) (kx.trans (congrArg (fun z : Int32 => some (Value.int (z))) (show (lX4_number (n + 1) i j S) = (lX4_number n (i + 1) j S) from by rw [lX4_number, if_pos c_3, if_pos c_4])))
        · skip
          refine lv_iload_n hx hb dX4_numberForNewLoop_45 rfl (lv_at hl 2 rfl) ?_
          refine lv_istore_n (lv' := [(1, .int (nI i)), (0, .ref (G.2.2 (0, 0))), (2, .int (nI i))]) hx hb dX4_numberForNewLoop_46 rfl hl (by decide) rfl (fun ls hl => ?_)
          refine lv_iinc (v := nI (i + 1)) (lv' := [(2, .int (nI (i + 1))), (1, .int (nI i)), (0, .ref (G.2.2 (0, 0)))]) hx hb dX4_numberForNewLoop_47 hl (k := 2) rfl (by rw [← nI_1]; rfl) (by decide) rfl (fun ls hl => ?_)
          refine lv_goto (tgt := 4) hx hb dX4_numberForNewLoop_50 (by decide) ?_
          exact ih (i + 1) i H locs ls (by omega) (by omega) hw (lv_sub hl [2, 1, 0] rfl) (kx.trans (congrArg (fun z : Int32 => some (Value.int (z))) (show (lX4_number (n + 1) i j S) = (lX4_number n (i + 1) i S) from by rw [lX4_number, if_pos c_3, if_neg c_4])))
      · skip
        refine lv_iload_n hx hb dX4_numberForNewLoop_22 rfl (lv_at hl 2 rfl) ?_
        exact k_iret hx hb hr hlocks hK hw (kx.trans (congrArg (fun z : Int32 => some (Value.int (z))) (show (lX4_number (n + 1) i j S) = nI i from by rw [lX4_number, if_neg c_3]))) rfl dX4_numberForNewLoop_23
  exact hloop_lX4_number 8 0 0 H locs ls (by omega) (by omega) hw (lv_sub hl [2, 1, 0] rfl) rfl
def lX4_presumed (k4 : Nat) : Nat → Nat → Int32 → uS → Int32
  | 0, i, a1, S => (a1)
  | n + 1, i, a1, S => if (S.1 8 (fIx S (nI i)) 0) = (S.1 9 k4 0) then (lX4_presumed k4 n (i + 1) (if (fX1_isPresumedTaken S (fIx S (nI i))) = false then (0 : Int32) else a1 + (1 : Int32)) S)
    else (lX4_presumed k4 n (i + 1) a1 S)
abbrev rmX4_presumedCount : Room := { frames := 1, cells := 0, slots := 0, locals := 21 }
set_option maxHeartbeats 4000000 in
set_option maxRecDepth 100000 in
theorem cX4c_presumedCount (l : Launch) (G : gG) (Z : va_W) (S : uS) (k4 : Nat) (h_k4 : k4 < 8) (N1 : Nat) (h_N1 : S.1 0 0 13 = nI N1) (h_N1b : N1 < 2 ^ 31) : kMet l yX4_presumedCount wsX4_presumedCount rmX4_presumedCount G kC Z S [.ref (G.2.2 (0, 0)), .ref (G.2.2 (9, k4))] (some (.int ((lX4_presumed k4 N1 0 (S.1 9 k4 1) S)))) S := by
  refine kMet_of (cc := cX4_presumedCount) (maxL := 5) (ret := (some .int)) (by decide) rfl (Nat.le_of_ble_eq_true rfl) ?_
  intro p e s m below meth c hx hb hr hml hlocks hts hown hK hN A hZ hA H locs hw ls hl
  have hl : lv_has ls 5 [(0, .ref (G.2.2 (0, 0))), (1, .ref (G.2.2 (9, k4)))] := hl
  have hiX1 : ∀ w ∈ wsX10, w ∈ wsX4_presumedCount := by decide +kernel
  have hiX3 : ∀ w ∈ wsX30, w ∈ wsX4_presumedCount := by decide +kernel
  have hiX4 : ∀ w ∈ wsX40, w ∈ wsX4_presumedCount := by decide +kernel
  refine lv_aload_n hx hb dX4_presumedCount_0 rfl (lv_at hl 1 rfl) ?_
  refine g_9_1 hx hb hts hiX3 hown hK hw (kC_9 h_k4) (hts (.fieldLink RX4 158 "BranchPredictor$Loop" "count" "I") (by decide +kernel)) dX4_presumedCount_1 ?_
  refine lv_istore_n (lv' := [(2, .int (S.1 9 k4 1)), (0, .ref (G.2.2 (0, 0))), (1, .ref (G.2.2 (9, k4)))]) hx hb dX4_presumedCount_4 rfl hl (by decide) rfl (fun ls hl => ?_)
  refine lv_iconst (v := 0) hx hb dX4_presumedCount_5 (by decide) ?_
  refine lv_istore_n (lv' := [(3, .int ((0 : Int32))), (2, .int (S.1 9 k4 1)), (0, .ref (G.2.2 (0, 0))), (1, .ref (G.2.2 (9, k4)))]) hx hb dX4_presumedCount_6 rfl hl (by decide) rfl (fun ls hl => ?_)
  have hloop_lX4_presumed : ∀ (n i : Nat) (a1 : Int32) (H : Heap) (locs : List Loc) (ls : Array Slot), i + n = N1 → kS G kC S Z A s.heap H locs → lv_has ls 5 [(0, .ref (G.2.2 (0, 0))), (1, .ref (G.2.2 (9, k4))), (2, .int (a1)), (3, .int (nI i))] → (∀ (H : Heap) (locs : List Loc) (ls : Array Slot), kS G kC S Z A s.heap H locs → lv_has ls 5 [(0, .ref (G.2.2 (0, 0))), (1, .ref (G.2.2 (9, k4))), (2, .int ((lX4_presumed k4 n i a1 S))), (3, .int (nI N1))] → W p l e rmX4_presumedCount s m [.ref (G.2.2 (0, 0)), .ref (G.2.2 (9, k4))].toArray below meth c H locs 0 0 (MQ below (kQ G kC Z A (some (.int ((lX4_presumed k4 N1 0 (S.1 9 k4 1) S)))) S) [.ref (G.2.2 (0, 0)), .ref (G.2.2 (9, k4))].toArray s 0 0 A) (F0 m 56 ls [])) → W p l e rmX4_presumedCount s m [.ref (G.2.2 (0, 0)), .ref (G.2.2 (9, k4))].toArray below meth c H locs 0 0 (MQ below (kQ G kC Z A (some (.int ((lX4_presumed k4 N1 0 (S.1 9 k4 1) S)))) S) [.ref (G.2.2 (0, 0)), .ref (G.2.2 (9, k4))].toArray s 0 0 A) (F0 m 7 ls []) := by
    intro n
    induction n with
    | zero =>
      intro i a1 H locs ls hin hw hl kx
      have z_1 : (nI N1) ≤ (nI i) := (nI_le (a := N1) (b := i) (by omega) (by omega))
      refine lv_iload_n hx hb dX4_presumedCount_7 rfl (lv_at hl 3 rfl) ?_
      refine lv_aload_n hx hb dX4_presumedCount_8 rfl (lv_at hl 0 rfl) ?_
      refine g_0_13 hx hb hts hiX4 hown hK hw kC_0 (hts (.fieldLink RX4 79 "BranchPredictor" "flying" "I") (by decide +kernel)) dX4_presumedCount_9 ?_
      refine k_topi (z := nI N1) (h_N1) ?_
      refine lv_icmp_ge (tgt := 56) hx hb dX4_presumedCount_12 (by decide) (fun _ => ?_) (fun h9 => absurd z_1 h9)
      have hin : i = N1 := hin
      rw [hin] at hl
      exact kx H locs ls hw (lv_sub hl [0, 1, 2, 3] rfl)
    | succ n ih =>
      intro i a1 H locs ls hin hw hl kx
      have hi : i < N1 := by omega
      have hi31 : i < 2 ^ 31 := Nat.lt_trans hi h_N1b
      have z_2 : ¬ ((nI N1) ≤ (nI i)) := (nI_ge (a := i) (b := N1) hi (by omega))
      refine lv_iload_n hx hb dX4_presumedCount_7 rfl (lv_at hl 3 rfl) ?_
      refine lv_aload_n hx hb dX4_presumedCount_8 rfl (lv_at hl 0 rfl) ?_
      refine g_0_13 hx hb hts hiX4 hown hK hw kC_0 (hts (.fieldLink RX4 79 "BranchPredictor" "flying" "I") (by decide +kernel)) dX4_presumedCount_9 ?_
      refine k_topi (z := nI N1) (h_N1) ?_
      refine lv_icmp_ge (tgt := 56) hx hb dX4_presumedCount_12 (by decide) (fun h9 => absurd h9 z_2) (fun _ => ?_)
      refine lv_aload_n hx hb dX4_presumedCount_15 rfl (lv_at hl 0 rfl) ?_
      refine lv_iload_n hx hb dX4_presumedCount_16 rfl (lv_at hl 3 rfl) ?_
      refine k_callV (C := RX4) (n := 1) (rest := []) ⟨hx, hb, hml, hown, hts⟩ (cX4c_branchAt l G Z S (nI i)) (cwV 1 hts gX4_presumedCount_X4_branchAt rfl rfl rfl (by decide +kernel) ⟨Nat.le_of_ble_eq_true rfl, Nat.le_of_ble_eq_true rfl⟩) (k_recv hK hw kC_0 rfl rfl) hK hN hZ hA hw (Nat.zero_le _) (Nat.zero_le _) rfl hl.1 rfl (Nat.le_of_ble_eq_true rfl) dX4_presumedCount_17 (fun H locs hw => ?_)
      refine W.eq (g2 := F0 m 20 ls [.ref (G.2.2 (8, (fIx S (nI i))))]) rfl ?_
      refine lv_astore (lv' := [(4, .ref (G.2.2 (8, (fIx S (nI i))))), (0, .ref (G.2.2 (0, 0))), (1, .ref (G.2.2 (9, k4))), (2, .int (a1)), (3, .int (nI i))]) hx hb dX4_presumedCount_20 hl (by decide) rfl (fun ls hl => ?_)
      refine lv_aload hx hb dX4_presumedCount_22 (lv_at hl 0 rfl) ?_
      refine g_8_0 hx hb hts hiX1 hown hK hw (kC_8 (fIx_lt S (nI i))) (hts (.fieldLink RX4 126 "BranchPredictor$Branch" "place" "I") (by decide +kernel)) dX4_presumedCount_24 ?_
      refine lv_aload_n hx hb dX4_presumedCount_27 rfl (lv_at hl 2 rfl) ?_
      refine g_9_0 hx hb hts hiX3 hown hK hw (kC_9 h_k4) (hts (.fieldLink RX4 157 "BranchPredictor$Loop" "place" "I") (by decide +kernel)) dX4_presumedCount_28 ?_
      refine lv_icmp_ne (tgt := 50) hx hb dX4_presumedCount_31 (by decide) (fun c_3 => ?_) (fun c_3 => ?_)
      · skip
        refine lv_iinc (v := nI (i + 1)) (lv' := [(3, .int (nI (i + 1))), (4, .ref (G.2.2 (8, (fIx S (nI i))))), (0, .ref (G.2.2 (0, 0))), (1, .ref (G.2.2 (9, k4))), (2, .int (a1))]) hx hb dX4_presumedCount_50 hl (k := 4) rfl (by rw [← nI_1]; rfl) (by decide) rfl (fun ls hl => ?_)
        refine lv_goto (tgt := 7) hx hb dX4_presumedCount_53 (by decide) ?_
        exact ih (i + 1) a1 H locs ls (by omega) hw (lv_sub hl [2, 3, 4, 0] rfl) (by rw [(show (lX4_presumed k4 (n + 1) i a1 S) = (lX4_presumed k4 n (i + 1) a1 S) from by rw [lX4_presumed, if_neg c_3])] at kx; exact kx)
      · skip
        refine lv_aload hx hb dX4_presumedCount_34 (lv_at hl 0 rfl) ?_
        refine k_callV (C := RX1) (n := 0) (rest := []) ⟨hx, hb, hml, hown, hts⟩ (cX1c_isPresumedTaken l G Z S (fIx S (nI i)) (fIx_lt S (nI i))) (cwV 0 hts gX4_presumedCount_X1_isPresumedTaken rfl rfl rfl (by decide +kernel) ⟨Nat.le_of_ble_eq_true rfl, Nat.le_of_ble_eq_true rfl⟩) (k_recv hK hw (kC_8 (fIx_lt S (nI i))) rfl rfl) hK hN hZ hA hw (Nat.zero_le _) (Nat.zero_le _) rfl hl.1 rfl (Nat.le_of_ble_eq_true rfl) dX4_presumedCount_36 (fun H locs hw => ?_)
        refine W.eq (g2 := F0 m 39 ls [.int (bI ((fX1_isPresumedTaken S (fIx S (nI i)))))]) rfl ?_
        refine k_join (P := fun x9 : Int32 => W p l e rmX4_presumedCount s m [.ref (G.2.2 (0, 0)), .ref (G.2.2 (9, k4))].toArray below meth c H locs 0 0 (MQ below (kQ G kC Z A (some (.int ((lX4_presumed k4 N1 0 (S.1 9 k4 1) S)))) S) [.ref (G.2.2 (0, 0)), .ref (G.2.2 (9, k4))].toArray s 0 0 A) (F0 m 49 ls [.int (x9)])) (C := (fX1_isPresumedTaken S (fIx S (nI i))) = false) (a := (0 : Int32)) (b := a1 + (1 : Int32)) ?_ (fun ka kb => ?_)
        rotate_left
        · refine k_if_eq (b := (fX1_isPresumedTaken S (fIx S (nI i)))) (tgt := 48) hx hb dX4_presumedCount_39 (by decide) (fun c_4 => ?_) (fun c_4 => ?_)
          · skip
            refine lv_iconst (v := 0) hx hb dX4_presumedCount_48 (by decide) ?_
            exact ka c_4
          · skip
            refine lv_iload_n hx hb dX4_presumedCount_42 rfl (lv_at hl 3 rfl) ?_
            refine lv_iconst (v := 1) hx hb dX4_presumedCount_43 (by decide) ?_
            refine lv_iadd hx hb dX4_presumedCount_44 ?_
            refine lv_goto (tgt := 49) hx hb dX4_presumedCount_45 (by decide) ?_
            exact kb c_4
        show W p l e rmX4_presumedCount s m [.ref (G.2.2 (0, 0)), .ref (G.2.2 (9, k4))].toArray below meth c H locs 0 0 (MQ below (kQ G kC Z A (some (.int ((lX4_presumed k4 N1 0 (S.1 9 k4 1) S)))) S) [.ref (G.2.2 (0, 0)), .ref (G.2.2 (9, k4))].toArray s 0 0 A) (F0 m 49 ls [.int (if (fX1_isPresumedTaken S (fIx S (nI i))) = false then (0 : Int32) else a1 + (1 : Int32))])
        refine lv_istore_n (lv' := [(2, .int (if (fX1_isPresumedTaken S (fIx S (nI i))) = false then (0 : Int32) else a1 + (1 : Int32))), (4, .ref (G.2.2 (8, (fIx S (nI i))))), (0, .ref (G.2.2 (0, 0))), (1, .ref (G.2.2 (9, k4))), (3, .int (nI i))]) hx hb dX4_presumedCount_49 rfl hl (by decide) rfl (fun ls hl => ?_)
        refine lv_iinc (v := nI (i + 1)) (lv' := [(3, .int (nI (i + 1))), (2, .int (if (fX1_isPresumedTaken S (fIx S (nI i))) = false then (0 : Int32) else a1 + (1 : Int32))), (4, .ref (G.2.2 (8, (fIx S (nI i))))), (0, .ref (G.2.2 (0, 0))), (1, .ref (G.2.2 (9, k4)))]) hx hb dX4_presumedCount_50 hl (k := 4) rfl (by rw [← nI_1]; rfl) (by decide) rfl (fun ls hl => ?_)
        refine lv_goto (tgt := 7) hx hb dX4_presumedCount_53 (by decide) ?_
        exact ih (i + 1) (if (fX1_isPresumedTaken S (fIx S (nI i))) = false then (0 : Int32) else a1 + (1 : Int32)) H locs ls (by omega) hw (lv_sub hl [3, 4, 1, 0] rfl) (by rw [(show (lX4_presumed k4 (n + 1) i a1 S) = (lX4_presumed k4 n (i + 1) (if (fX1_isPresumedTaken S (fIx S (nI i))) = false then (0 : Int32) else a1 + (1 : Int32)) S) from by rw [lX4_presumed, if_pos c_3])] at kx; exact kx)
  refine hloop_lX4_presumed N1 0 (S.1 9 k4 1) H locs ls (by omega) hw (lv_sub hl [2, 3, 1, 0] rfl) (fun H locs ls hw hl => ?_)
  refine lv_iload_n hx hb dX4_presumedCount_56 rfl (lv_at hl 2 rfl) ?_
  exact k_iret hx hb hr hlocks hK hw rfl rfl dX4_presumedCount_57
def lX4_count (k3 : Nat) (b1 : Bool) : Nat → Nat → uS → uS
  | 0, i, S1 => (S1)
  | n + 1, i, S1 => if (fX1_saidTaken S1 k3 (nI i)) = b1 then (lX4_count k3 b1 n (i + 1) S1)
    else (lX4_count k3 b1 n (i + 1) (uL S1 7 0 i ((S1.2.1 7 0 i) + (1 : Int64))))
abbrev rmX4_countMisses : Room := { frames := 1, cells := 0, slots := 0, locals := 21 }
set_option maxHeartbeats 4000000 in
set_option maxRecDepth 100000 in
theorem cX4c_countMisses (l : Launch) (G : gG) (Z : va_W) (S : uS) (k3 : Nat) (h_k3 : k3 < 16) (b1 : Bool) : kMet l yX4_countMisses wsX4_countMisses rmX4_countMisses G kC Z S [.ref (G.2.2 (0, 0)), .ref (G.2.2 (8, k3)), .int (bI (b1))] none (lX4_count k3 b1 4 0 S) := by
  refine kMet_of (cc := cX4_countMisses) (maxL := 4) (ret := none) (by decide) rfl (Nat.le_of_ble_eq_true rfl) ?_
  intro p e s m below meth c hx hb hr hml hlocks hts hown hK hN A hZ hA H locs hw ls hl
  have hl : lv_has ls 4 [(0, .ref (G.2.2 (0, 0))), (1, .ref (G.2.2 (8, k3))), (2, .int (bI (b1)))] := hl
  have hiX4 : ∀ w ∈ wsX40, w ∈ wsX4_countMisses := by decide +kernel
  refine lv_iconst (v := 0) hx hb dX4_countMisses_0 (by decide) ?_
  refine lv_istore_n (lv' := [(3, .int ((0 : Int32))), (0, .ref (G.2.2 (0, 0))), (1, .ref (G.2.2 (8, k3))), (2, .int (bI (b1)))]) hx hb dX4_countMisses_1 rfl hl (by decide) rfl (fun ls hl => ?_)
  have hloop_lX4_count : ∀ (n i : Nat) (S1 : uS) (H : Heap) (locs : List Loc) (ls : Array Slot), i + n = 4 → kS G kC S1 Z A s.heap H locs → lv_has ls 4 [(0, .ref (G.2.2 (0, 0))), (1, .ref (G.2.2 (8, k3))), (2, .int (bI (b1))), (3, .int (nI i))] → (∀ (H : Heap) (locs : List Loc) (ls : Array Slot), kS G kC (lX4_count k3 b1 n i S1) Z A s.heap H locs → lv_has ls 4 [(0, .ref (G.2.2 (0, 0))), (1, .ref (G.2.2 (8, k3))), (2, .int (bI (b1))), (3, .int (nI 4))] → W p l e rmX4_countMisses s m [.ref (G.2.2 (0, 0)), .ref (G.2.2 (8, k3)), .int (bI (b1))].toArray below meth c H locs 0 0 (MQ below (kQ G kC Z A none (lX4_count k3 b1 4 0 S)) [.ref (G.2.2 (0, 0)), .ref (G.2.2 (8, k3)), .int (bI (b1))].toArray s 0 0 A) (F0 m 32 ls [])) → W p l e rmX4_countMisses s m [.ref (G.2.2 (0, 0)), .ref (G.2.2 (8, k3)), .int (bI (b1))].toArray below meth c H locs 0 0 (MQ below (kQ G kC Z A none (lX4_count k3 b1 4 0 S)) [.ref (G.2.2 (0, 0)), .ref (G.2.2 (8, k3)), .int (bI (b1))].toArray s 0 0 A) (F0 m 2 ls []) := by
    intro n
    induction n with
    | zero =>
      intro i S1 H locs ls hin hw hl kx
      have z_1 : (4 : Int32) ≤ (nI i) := (nI_le (a := 4) (b := i) (by omega) (by omega))
      refine lv_iload_n hx hb dX4_countMisses_2 rfl (lv_at hl 3 rfl) ?_
      refine lv_iconst (v := 4) hx hb dX4_countMisses_3 (by decide) ?_
      refine lv_icmp_ge (tgt := 32) hx hb dX4_countMisses_4 (by decide) (fun _ => ?_) (fun h9 => absurd z_1 h9)
      have hin : i = 4 := hin
      rw [hin] at hl
      exact kx H locs ls hw (lv_sub hl [0, 1, 2, 3] rfl)
    | succ n ih =>
      intro i S1 H locs ls hin hw hl kx
      have hi : i < 4 := by omega
      have hi31 : i < 2 ^ 31 := Nat.lt_trans hi (by decide)
      have z_2 : ¬ ((4 : Int32) ≤ (nI i)) := (nI_ge (a := i) (b := 4) hi (by decide))
      refine lv_iload_n hx hb dX4_countMisses_2 rfl (lv_at hl 3 rfl) ?_
      refine lv_iconst (v := 4) hx hb dX4_countMisses_3 (by decide) ?_
      refine lv_icmp_ge (tgt := 32) hx hb dX4_countMisses_4 (by decide) (fun h9 => absurd h9 z_2) (fun _ => ?_)
      refine lv_aload_n hx hb dX4_countMisses_7 rfl (lv_at hl 1 rfl) ?_
      refine lv_iload_n hx hb dX4_countMisses_8 rfl (lv_at hl 3 rfl) ?_
      refine k_callV (C := RX1) (n := 1) (rest := []) ⟨hx, hb, hml, hown, hts⟩ (cX1c_saidTaken l G Z S1 k3 h_k3 (nI i)) (cwV 1 hts gX4_countMisses_X1_saidTaken rfl rfl rfl (by decide +kernel) ⟨Nat.le_of_ble_eq_true rfl, Nat.le_of_ble_eq_true rfl⟩) (k_recv hK hw (kC_8 h_k3) rfl rfl) hK hN hZ hA hw (Nat.zero_le _) (Nat.zero_le _) rfl hl.1 rfl (Nat.le_of_ble_eq_true rfl) dX4_countMisses_9 (fun H locs hw => ?_)
      refine W.eq (g2 := F0 m 12 ls [.int (bI ((fX1_saidTaken S1 k3 (nI i))))]) rfl ?_
      refine lv_iload_n hx hb dX4_countMisses_12 rfl (lv_at hl 2 rfl) ?_
      refine k_icmp_eq (a := (fX1_saidTaken S1 k3 (nI i))) (b := b1) (tgt := 26) hx hb dX4_countMisses_13 (by decide) (fun c_3 => ?_) (fun c_3 => ?_)
      · skip
        refine lv_iinc (v := nI (i + 1)) (lv' := [(3, .int (nI (i + 1))), (0, .ref (G.2.2 (0, 0))), (1, .ref (G.2.2 (8, k3))), (2, .int (bI (b1)))]) hx hb dX4_countMisses_26 hl (k := 3) rfl (by rw [← nI_1]; rfl) (by decide) rfl (fun ls hl => ?_)
        refine lv_goto (tgt := 2) hx hb dX4_countMisses_29 (by decide) ?_
        exact ih (i + 1) S1 H locs ls (by omega) hw (lv_sub hl [1, 2, 3, 0] rfl) (by rw [(show (lX4_count k3 b1 (n + 1) i S1) = (lX4_count k3 b1 n (i + 1) S1) from by rw [lX4_count, if_pos c_3])] at kx; exact kx)
      · skip
        refine lv_aload_n hx hb dX4_countMisses_16 rfl (lv_at hl 0 rfl) ?_
        refine g_0_7 hx hb hts hiX4 hown hK hw kC_0 (hts (.fieldLink RX4 44 "BranchPredictor" "missed" "[J") (by decide +kernel)) dX4_countMisses_17 ?_
        refine lv_iload_n hx hb dX4_countMisses_20 rfl (lv_at hl 3 rfl) ?_
        refine lv_dup2_11 hx hb dX4_countMisses_21 rfl rfl ?_
        refine ld_7_0 hx hb hK hw kC_7 (vp_in_nI (by first | omega | (split <;> omega)) (by decide)) dX4_countMisses_22 ?_
        refine k_topl (z := S1.2.1 7 0 i) (by rw [nI_clamp hi31]) ?_
        refine lv_lconst (v := 1) hx hb dX4_countMisses_23 (by decide) ?_
        refine lv_ladd hx hb dX4_countMisses_24 ?_
        refine st_7_0 (x := (S1.2.1 7 0 i) + (1 : Int64)) hx hb hK hw kC_7 (vp_in_nI (by first | omega | (split <;> omega)) (by decide)) dX4_countMisses_25 (fun H locs hw => ?_)
        rw [nI_clamp hi31] at hw
        refine lv_iinc (v := nI (i + 1)) (lv' := [(3, .int (nI (i + 1))), (0, .ref (G.2.2 (0, 0))), (1, .ref (G.2.2 (8, k3))), (2, .int (bI (b1)))]) hx hb dX4_countMisses_26 hl (k := 3) rfl (by rw [← nI_1]; rfl) (by decide) rfl (fun ls hl => ?_)
        refine lv_goto (tgt := 2) hx hb dX4_countMisses_29 (by decide) ?_
        exact ih (i + 1) (uL S1 7 0 i ((S1.2.1 7 0 i) + (1 : Int64))) H locs ls (by omega) hw (lv_sub hl [1, 2, 3, 0] rfl) (by rw [(show (lX4_count k3 b1 (n + 1) i S1) = (lX4_count k3 b1 n (i + 1) (uL S1 7 0 i ((S1.2.1 7 0 i) + (1 : Int64)))) from by rw [lX4_count, if_neg c_3])] at kx; exact kx)
  refine hloop_lX4_count 4 0 S H locs ls (by omega) hw (lv_sub hl [1, 2, 3, 0] rfl) (fun H locs ls hw hl => ?_)
  exact k_vret hx hb hr hlocks hK hw rfl rfl dX4_countMisses_32
