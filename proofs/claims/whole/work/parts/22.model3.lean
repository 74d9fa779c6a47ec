theorem i_nI {x : Int32} (h : ¬ x < 0) : x = nI x.toNatClampNeg := by
  obtain ⟨j, h1, h2⟩ := nI_of h
  rw [h2, nI_clamp h1]
theorem i_lt {x : Int32} {n : Nat} (h0 : ¬ x < 0) (h : x < nI n) (hn : n < 2 ^ 31) : x.toNatClampNeg < n := by
  obtain ⟨j, h1, h2⟩ := nI_of h0
  rw [h2] at h ⊢
  rw [nI_clamp h1]
  exact (nI_ltI h1 hn).mp h
theorem i_le {x : Int32} {n : Nat} (h0 : ¬ x < 0) (h : x ≤ nI n) (hn : n < 2 ^ 31) : x.toNatClampNeg ≤ n := by
  obtain ⟨j, h1, h2⟩ := nI_of h0
  rw [h2] at h ⊢
  rw [nI_clamp h1]
  exact (nI_leI h1 hn).mp h
theorem m_nle {a b : Nat} (ha : a < 2 ^ 31) (hb : b < 2 ^ 31) (h : ¬ nI b ≤ nI a) : a < b := by
  rw [nI_leI hb ha] at h
  omega
theorem m_pos {a : Nat} (ha : a < 2 ^ 31) (h : ¬ nI a ≤ 0) : 0 < a := m_nle (a := 0) (b := a) (by decide) ha h
theorem m_fl {S : uS} {F1 : Nat} {x : Int32} (h : S.1 10 0 7 = nI F1) (hF : F1 ≤ 16) (c : ¬ fX5_isFlying S x = false) : x = nI x.toNatClampNeg ∧ x.toNatClampNeg < F1 := by
  unfold fX5_isFlying at c
  rw [h] at c
  by_cases h0 : x < 0
  · rw [if_pos h0] at c
    exact absurd rfl c
  · rw [if_neg h0] at c
    by_cases h1 : nI F1 ≤ x
    · rw [if_pos h1] at c
      exact absurd rfl c
    · refine ⟨i_nI h0, ?_⟩
      rw [i_nI h0] at h1
      obtain ⟨j, h3, h4⟩ := nI_of h0
      rw [h4, nI_clamp h3] at h1 ⊢
      exact m_nle h3 (by omega) h1
theorem fX5_change_2 (S : uS) (i : Nat) (b : Bool) : (fX5_change S i b).2 = S.2 := rfl
theorem fX5_change_I (S : uS) (i : Nat) (b : Bool) {a : Nat} (h : a ≠ 11) : (fX5_change S i b).1 a = S.1 a := by
  unfold fX5_change
  funext u v; simp [uI, h]
theorem fX5_change_J (S : uS) (i : Nat) (b : Bool) {a : Nat} (h : a ≠ 0) : (fX5_change S i b).1 11 a = S.1 11 a := by
  unfold fX5_change
  funext v; simp [uI, h]
theorem fX5_audit_F (S : uS) (t i : Nat) (x : Int32) (b : Bool) : (fX5_audit S t i x b).2.2 = S.2.2 := by
  unfold fX5_audit
  repeat' split
  all_goals rfl
theorem fX5_audit_I (S : uS) (t i : Nat) (x : Int32) (b : Bool) {a : Nat} (h : a ≠ 11) : (fX5_audit S t i x b).1 a = S.1 a := by
  unfold fX5_audit
  repeat' split
  all_goals (funext u v; simp [uI, uL, h])
theorem fX5_audit_J (S : uS) (t i : Nat) (x : Int32) (b : Bool) {a : Nat} (h : a ≠ 1) : (fX5_audit S t i x b).1 11 a = S.1 11 a := by
  unfold fX5_audit
  repeat' split
  all_goals (funext v; simp [uI, uL, h])
theorem fX5_audit_L (S : uS) (t i : Nat) (x : Int32) (b : Bool) {a : Nat} (h : a ≠ 13) : (fX5_audit S t i x b).2.1 a = S.2.1 a := by
  unfold fX5_audit
  repeat' split
  all_goals (funext u v; simp [uI, uL, h])
theorem fX5_audit_M (S : uS) (t i : Nat) (x : Int32) (b : Bool) : (fX5_audit S t i x b).2.1 13 0 = S.2.1 13 0 := by
  unfold fX5_audit
  repeat' split
  all_goals (funext v; simp [uI, uL])
theorem fX5_learnLoop_L (S : uS) (x : Int32) (b d : Bool) : (fX5_learnLoop S x b d).2.1 = S.2.1 := by
  unfold fX5_learnLoop fX5_makeLoop
  repeat' split
  all_goals rfl
theorem fX5_learnLoop_I (S : uS) (x : Int32) (b d : Bool) {a : Nat} (h : a ≠ 11) : (fX5_learnLoop S x b d).1 a = S.1 a := by
  unfold fX5_learnLoop fX5_makeLoop
  repeat' split
  all_goals first | rfl | (funext u v; simp [uI, uL, uF, h])
theorem fX5_learnLoop_J (S : uS) (x : Int32) (b d : Bool) {a : Nat} (h4 : a ≠ 4) (h5 : a ≠ 5) (h6 : a ≠ 6) (h7 : a ≠ 7) : (fX5_learnLoop S x b d).1 11 a = S.1 11 a := by
  unfold fX5_learnLoop fX5_makeLoop
  repeat' split
  all_goals first | rfl | (funext v; simp [uI, uL, uF, h4, h5, h6, h7])
theorem fX5_learnLoop_F (S : uS) (x : Int32) (b d : Bool) {a : Nat} (h : a ≠ 3) : (fX5_learnLoop S x b d).2.2 12 a = S.2.2 12 a := by
  unfold fX5_learnLoop fX5_makeLoop
  repeat' split
  all_goals first | rfl | (funext v; simp [uI, uL, uF, h])
def fX5_learnC (S : uS) (P1 : Nat) (X1 : Nat) (b1 : Bool) : uS := if (S.2.2 12 0 0) = (S.2.2 12 0 1) then S else (fX5_change S (512 + (X1 % 2 ^ P1)) (if (S.2.2 12 0 1) = b1 then true else false))
def lX5_miss (b1 : Bool) : Nat → Nat → uS → uS
  | 0, i, S1 => (S1)
  | n + 1, i, S1 => (lX5_miss b1 n (i + 1) (uL S1 13 0 i ((S1.2.1 13 0 i) + (if (S1.2.2 12 0 i) = b1 then (0 : Int64) else (1 : Int64)))))
def lX5_shift : Nat → Nat → uS → uS
  | 0, i, S1 => (S1)
  | n + 1, i, S1 => (lX5_shift n (i + 1) (uF (uF (uI (uI S1 11 2 i (S1.1 11 2 (i + 1))) 11 3 i (S1.1 11 3 (i + 1))) 12 1 i (S1.2.2 12 1 (i + 1))) 12 2 i (S1.2.2 12 2 (i + 1))))
def lX5_shiftP : Nat → Nat → uS → uS
  | 0, i, S1 => (S1)
  | n + 1, i, S1 => (lX5_shiftP n (i + 1) (uF S1 12 0 i (S1.2.2 12 0 (i + 4))))
theorem fX5_learnC_2 (S : uS) (p x : Nat) (b : Bool) : (fX5_learnC S p x b).2 = S.2 := by
  unfold fX5_learnC
  split <;> rfl
theorem fX5_learnC_I (S : uS) (p x : Nat) (b : Bool) {a : Nat} (h : a ≠ 11) : (fX5_learnC S p x b).1 a = S.1 a := by
  unfold fX5_learnC
  split
  · rfl
  · exact fX5_change_I _ _ _ h
theorem fX5_learnC_J (S : uS) (p x : Nat) (b : Bool) {a : Nat} (h : a ≠ 0) : (fX5_learnC S p x b).1 11 a = S.1 11 a := by
  unfold fX5_learnC
  split
  · rfl
  · exact fX5_change_J _ _ _ h
theorem lX5_miss_1 (b : Bool) : ∀ (n i : Nat) (S : uS), (lX5_miss b n i S).1 = S.1 := by
  intro n
  induction n with
  | zero => intro i S; rfl
  | succ n ih => intro i S; rw [lX5_miss, ih]; rfl
theorem lX5_miss_F (b : Bool) : ∀ (n i : Nat) (S : uS), (lX5_miss b n i S).2.2 = S.2.2 := by
  intro n
  induction n with
  | zero => intro i S; rfl
  | succ n ih => intro i S; rw [lX5_miss, ih]; rfl
theorem lX5_miss_L (b : Bool) {a : Nat} (h : a ≠ 13) : ∀ (n i : Nat) (S : uS), (lX5_miss b n i S).2.1 a = S.2.1 a := by
  intro n
  induction n with
  | zero => intro i S; rfl
  | succ n ih =>
    intro i S
    rw [lX5_miss, ih]
    funext y z
    simp [uL, h]
theorem lX5_shift_10 : ∀ (n i : Nat) (S : uS), (lX5_shift n i S).1 10 = S.1 10 := by
  intro n
  induction n with
  | zero => intro i S; rfl
  | succ n ih =>
    intro i S
    rw [lX5_shift, ih]
    funext y z
    simp [uI, uF]
def fX5_learn (S : uS) (P1 : Nat) (Q1 : Nat) (E1 : Nat) (X1 : Nat) (W1 : Nat) (b1 : Bool) : Bool × uS :=
  ((fX5_isWrong S 0), (lX5_shiftP (4 * E1) 0 (lX5_shift E1 0 (uI (uL (lX5_miss b1 4 0 (fX5_learnLoop (fX5_change (fX5_change (fX5_audit (fX5_audit (fX5_learnC S P1 X1 b1) 0 (X1 % 2 ^ P1) (nI X1) b1) 1 (256 + ((X1 ^^^ W1) % 2 ^ Q1)) (nI X1) b1) (X1 % 2 ^ P1) b1) (256 + ((X1 ^^^ W1) % 2 ^ Q1)) b1) (nI X1) b1 (fX5_isWrong S 0))) 10 0 18 ((S.2.1 10 0 18) + (1 : Int64))) 10 0 7 (nI E1)))))
abbrev rmX5_learn : Room := { frames := 2, cells := 0, slots := 0, locals := 47 }
set_option maxHeartbeats 4000000 in
set_option maxRecDepth 100000 in
theorem cX5c_learn (l : Launch) (G : gG) (Z : va_W) (S : uS) (P1 : Nat) (h_P1 : S.1 10 0 1 = nI P1) (h_P1b : P1 ≤ 8) (Q1 : Nat) (h_Q1 : S.1 10 0 2 = nI Q1) (h_Q1b : Q1 ≤ 8) (E1 : Nat) (h_E1 : S.1 10 0 7 = nI (E1 + 1)) (h_E1b : E1 < 16) (X1 : Nat) (h_L1 : S.1 11 2 0 = nI X1) (h_X1b : X1 < 65536) (W1 : Nat) (h_W0 : S.1 11 3 0 = nI W1) (h_W1b : W1 < 256) (b1 : Bool) (h_b1 : S.2.2 12 2 0 = b1) : kMet l yX5_learn wsX5_learn rmX5_learn G kM Z S [.ref (G.2.2 (10, 0))] (some (.int (bI ((fX5_learn S P1 Q1 E1 X1 W1 b1).1)))) ((fX5_learn S P1 Q1 E1 X1 W1 b1).2) := by
  refine kMet_of (cc := cX5_learn) (maxL := 6) (ret := (some .boolean)) (by decide) rfl (Nat.le_of_ble_eq_true rfl) ?_
  intro p e s m below meth c hx hb hr hml hlocks hts hown hK hN A hZ hA H locs hw ls hl
  have hl : lv_has ls 6 [(0, .ref (G.2.2 (10, 0)))] := hl
  have hiX5 : ∀ w ∈ wsX50, w ∈ wsX5_learn := by decide +kernel
  refine lv_aload_n hx hb dX5_learn_0 rfl (lv_at hl 0 rfl) ?_
  refine g_10_8 hx hb hts hiX5 hown hK hw kM_10 (hts (.fieldLink RX5 16 "BranchPredictorModel" "places" "[I") (by decide +kernel)) dX5_learn_1 ?_
  refine lv_iconst (v := 0) hx hb dX5_learn_4 (by decide) ?_
  refine ld_11_2 hx hb hK hw kM_11_2 (by unfold vp_in; decide) dX5_learn_5 ?_
  refine k_topi (z := S.1 11 2 0) rfl ?_
  refine k_topi (z := nI X1) (h_L1) ?_
  refine lv_istore_n (lv' := [(1, .int (nI X1)), (0, .ref (G.2.2 (10, 0)))]) hx hb dX5_learn_6 rfl hl (by decide) rfl (fun ls hl => ?_)
  refine lv_aload_n hx hb dX5_learn_7 rfl (lv_at hl 1 rfl) ?_
  refine g_10_12 hx hb hts hiX5 hown hK hw kM_10 (hts (.fieldLink RX5 29 "BranchPredictorModel" "outcomes" "[Z") (by decide +kernel)) dX5_learn_8 ?_
  refine lv_iconst (v := 0) hx hb dX5_learn_11 (by decide) ?_
  refine ld_12_2 hx hb hK hw kM_12_2 (by unfold vp_in; decide) dX5_learn_12 ?_
  refine k_topz (z := S.2.2 12 2 0) rfl ?_
  refine k_topz (z := b1) (h_b1) ?_
  refine lv_istore_n (lv' := [(2, .int (bI (b1))), (1, .int (nI X1)), (0, .ref (G.2.2 (10, 0)))]) hx hb dX5_learn_13 rfl hl (by decide) rfl (fun ls hl => ?_)
  refine lv_aload_n hx hb dX5_learn_14 rfl (lv_at hl 2 rfl) ?_
  refine lv_iconst (v := 0) hx hb dX5_learn_15 (by decide) ?_
  refine k_callV (C := RX5) (n := 1) (rest := []) ⟨hx, hb, hml, hown, hts⟩ (cX5c_isWrong l G Z S 0 (by decide)) (cwV 1 hts gX5_learn_X5_isWrong rfl rfl rfl (by decide +kernel) ⟨Nat.le_of_ble_eq_true rfl, Nat.le_of_ble_eq_true rfl⟩) (k_recv hK hw kM_10 rfl rfl) hK hN hZ hA hw (Nat.zero_le _) (Nat.zero_le _) rfl hl.1 rfl (Nat.le_of_ble_eq_true rfl) dX5_learn_16 (fun H locs hw => ?_)
  refine W.eq (g2 := F0 m 19 ls [.int (bI ((fX5_isWrong S 0)))]) rfl ?_
  refine lv_istore_n (lv' := [(3, .int (bI ((fX5_isWrong S 0)))), (2, .int (bI (b1))), (1, .int (nI X1)), (0, .ref (G.2.2 (10, 0)))]) hx hb dX5_learn_19 rfl hl (by decide) rfl (fun ls hl => ?_)
  refine lv_aload_n hx hb dX5_learn_20 rfl (lv_at hl 3 rfl) ?_
  refine g_10_10 hx hb hts hiX5 hown hK hw kM_10 (hts (.fieldLink RX5 22 "BranchPredictorModel" "predictions" "[Z") (by decide +kernel)) dX5_learn_21 ?_
  refine lv_iconst (v := 0) hx hb dX5_learn_24 (by decide) ?_
  refine ld_12_0 hx hb hK hw kM_12_0 (by unfold vp_in; decide) dX5_learn_25 ?_
  refine k_topz (z := S.2.2 12 0 0) rfl ?_
  refine lv_aload_n hx hb dX5_learn_26 rfl (lv_at hl 3 rfl) ?_
  refine g_10_10 hx hb hts hiX5 hown hK hw kM_10 (hts (.fieldLink RX5 22 "BranchPredictorModel" "predictions" "[Z") (by decide +kernel)) dX5_learn_27 ?_
  refine lv_iconst (v := 1) hx hb dX5_learn_30 (by decide) ?_
  refine ld_12_0 hx hb hK hw kM_12_0 (by unfold vp_in; decide) dX5_learn_31 ?_
  refine k_topz (z := S.2.2 12 0 1) rfl ?_
  refine k_join (P := fun x9 : uS => ∀ (H : Heap) (locs : List Loc), kS G kM x9 Z A s.heap H locs → W p l e rmX5_learn s m [.ref (G.2.2 (10, 0))].toArray below meth c H locs 0 0 (MQ below (kQ G kM Z A (some (.int (bI ((fX5_learn S P1 Q1 E1 X1 W1 b1).1)))) ((fX5_learn S P1 Q1 E1 X1 W1 b1).2)) [.ref (G.2.2 (10, 0))].toArray s 0 0 A) (F0 m 59 ls [])) (C := (S.2.2 12 0 0) = (S.2.2 12 0 1)) (a := S) (b := (fX5_change S (512 + (X1 % 2 ^ P1)) (if (S.2.2 12 0 1) = b1 then true else false))) ?_ (fun ka kb => ?_)
  rotate_left
  · refine k_icmp_eq (a := S.2.2 12 0 0) (b := S.2.2 12 0 1) (tgt := 59) hx hb dX5_learn_32 (by decide) (fun c_1 => ?_) (fun c_1 => ?_)
    · skip
      exact ka c_1 H locs hw
    · skip
      refine lv_aload_n hx hb dX5_learn_35 rfl (lv_at hl 3 rfl) ?_
      refine lv_aload_n hx hb dX5_learn_36 rfl (lv_at hl 3 rfl) ?_
      refine lv_iload_n hx hb dX5_learn_37 rfl (lv_at hl 2 rfl) ?_
      refine k_callV (C := RX5) (n := 1) (rest := [.ref (G.2.2 (10, 0))]) ⟨hx, hb, hml, hown, hts⟩ (cX5c_choiceIndex l G Z S P1 (by simp [uI, uL, uF, fX5_change_2, fX5_change_I _ _ _ (show (10 : Nat) ≠ 11 from by decide), fX5_change_J _ _ _ (show (1 : Nat) ≠ 0 from by decide), fX5_change_J _ _ _ (show (2 : Nat) ≠ 0 from by decide), fX5_change_J _ _ _ (show (3 : Nat) ≠ 0 from by decide), fX5_change_J _ _ _ (show (4 : Nat) ≠ 0 from by decide), fX5_change_J _ _ _ (show (5 : Nat) ≠ 0 from by decide), fX5_change_J _ _ _ (show (6 : Nat) ≠ 0 from by decide), fX5_change_J _ _ _ (show (7 : Nat) ≠ 0 from by decide), fX5_audit_F, fX5_audit_M, fX5_audit_I _ _ _ _ _ (show (10 : Nat) ≠ 11 from by decide), fX5_audit_L _ _ _ _ _ (show (10 : Nat) ≠ 13 from by decide), fX5_audit_J _ _ _ _ _ (show (0 : Nat) ≠ 1 from by decide), fX5_audit_J _ _ _ _ _ (show (2 : Nat) ≠ 1 from by decide), fX5_audit_J _ _ _ _ _ (show (3 : Nat) ≠ 1 from by decide), fX5_audit_J _ _ _ _ _ (show (4 : Nat) ≠ 1 from by decide), fX5_audit_J _ _ _ _ _ (show (5 : Nat) ≠ 1 from by decide), fX5_audit_J _ _ _ _ _ (show (6 : Nat) ≠ 1 from by decide), fX5_audit_J _ _ _ _ _ (show (7 : Nat) ≠ 1 from by decide), fX5_learnC_2, fX5_learnC_I _ _ _ _ (show (10 : Nat) ≠ 11 from by decide), fX5_learnC_J _ _ _ _ (show (1 : Nat) ≠ 0 from by decide), fX5_learnC_J _ _ _ _ (show (2 : Nat) ≠ 0 from by decide), fX5_learnC_J _ _ _ _ (show (3 : Nat) ≠ 0 from by decide), fX5_learnC_J _ _ _ _ (show (4 : Nat) ≠ 0 from by decide), fX5_learnC_J _ _ _ _ (show (5 : Nat) ≠ 0 from by decide), fX5_learnC_J _ _ _ _ (show (6 : Nat) ≠ 0 from by decide), fX5_learnC_J _ _ _ _ (show (7 : Nat) ≠ 0 from by decide), h_P1]) h_P1b X1 h_X1b) (cwV 1 hts gX5_learn_X5_choiceIndex rfl rfl rfl (by decide +kernel) ⟨Nat.le_of_ble_eq_true rfl, Nat.le_of_ble_eq_true rfl⟩) (k_recv hK hw kM_10 rfl rfl) hK hN hZ hA hw (Nat.zero_le _) (Nat.zero_le _) rfl hl.1 rfl (Nat.le_of_ble_eq_true rfl) dX5_learn_38 (fun H locs hw => ?_)
      refine W.eq (g2 := F0 m 41 ls [.int (nI (512 + (X1 % 2 ^ P1))), .ref (G.2.2 (10, 0))]) rfl ?_
      refine lv_aload_n hx hb dX5_learn_41 rfl (lv_at hl 3 rfl) ?_
      refine g_10_10 hx hb hts hiX5 hown hK hw kM_10 (hts (.fieldLink RX5 22 "BranchPredictorModel" "predictions" "[Z") (by decide +kernel)) dX5_learn_42 ?_
      refine lv_iconst (v := 1) hx hb dX5_learn_45 (by decide) ?_
      refine ld_12_0 hx hb hK hw kM_12_0 (by unfold vp_in; decide) dX5_learn_46 ?_
      refine k_topz (z := S.2.2 12 0 1) rfl ?_
      refine lv_iload_n hx hb dX5_learn_47 rfl (lv_at hl 1 rfl) ?_
      refine k_join (P := fun x9 : Bool => W p l e rmX5_learn s m [.ref (G.2.2 (10, 0))].toArray below meth c H locs 0 0 (MQ below (kQ G kM Z A (some (.int (bI ((fX5_learn S P1 Q1 E1 X1 W1 b1).1)))) ((fX5_learn S P1 Q1 E1 X1 W1 b1).2)) [.ref (G.2.2 (10, 0))].toArray s 0 0 A) (F0 m 56 ls [.int (bI (x9)), .int (nI (512 + (X1 % 2 ^ P1))), .ref (G.2.2 (10, 0))])) (C := (S.2.2 12 0 1) = b1) (a := true) (b := false) ?_ (fun ka kb => ?_)
      rotate_left
      · refine k_icmp_ne (a := S.2.2 12 0 1) (b := b1) (tgt := 55) hx hb dX5_learn_48 (by decide) (fun c_2 => ?_) (fun c_2 => ?_)
        · skip
          refine lv_iconst (v := 0) hx hb dX5_learn_55 (by decide) ?_
          exact kb c_2
        · skip
          refine lv_iconst (v := 1) hx hb dX5_learn_51 (by decide) ?_
          refine lv_goto (tgt := 56) hx hb dX5_learn_52 (by decide) ?_
          exact ka c_2
      show W p l e rmX5_learn s m [.ref (G.2.2 (10, 0))].toArray below meth c H locs 0 0 (MQ below (kQ G kM Z A (some (.int (bI ((fX5_learn S P1 Q1 E1 X1 W1 b1).1)))) ((fX5_learn S P1 Q1 E1 X1 W1 b1).2)) [.ref (G.2.2 (10, 0))].toArray s 0 0 A) (F0 m 56 ls [.int (bI (if (S.2.2 12 0 1) = b1 then true else false)), .int (nI (512 + (X1 % 2 ^ P1))), .ref (G.2.2 (10, 0))])
      refine k_callV (C := RX5) (n := 2) (rest := []) ⟨hx, hb, hml, hown, hts⟩ (cX5c_change l G Z S (512 + (X1 % 2 ^ P1)) (by have h8 := m_lt (X := X1) h_P1b; have h9 := m_lt (X := X1 ^^^ W1) h_Q1b; omega) (if (S.2.2 12 0 1) = b1 then true else false)) (cwV 2 hts gX5_learn_X5_change rfl rfl rfl (by decide +kernel) ⟨Nat.le_of_ble_eq_true rfl, Nat.le_of_ble_eq_true rfl⟩) (k_recv hK hw kM_10 rfl rfl) hK hN hZ hA hw (Nat.zero_le _) (Nat.zero_le _) rfl hl.1 rfl (Nat.le_of_ble_eq_true rfl) dX5_learn_56 (fun H locs hw => ?_)
      refine W.eq (g2 := F0 m 59 ls []) rfl ?_
      exact kb c_1 H locs hw
  intro H locs hw
  have hw : kS G kM (fX5_learnC S P1 X1 b1) Z A s.heap H locs := hw
  refine lv_aload_n hx hb dX5_learn_59 rfl (lv_at hl 3 rfl) ?_
  refine lv_iload_n hx hb dX5_learn_60 rfl (lv_at hl 2 rfl) ?_
  refine lv_aload_n hx hb dX5_learn_61 rfl (lv_at hl 3 rfl) ?_
  refine g_10_9 hx hb hts hiX5 hown hK hw kM_10 (hts (.fieldLink RX5 19 "BranchPredictorModel" "histories" "[I") (by decide +kernel)) dX5_learn_62 ?_
  refine lv_iconst (v := 0) hx hb dX5_learn_65 (by decide) ?_
  refine ld_11_3 hx hb hK hw kM_11_3 (by unfold vp_in; decide) dX5_learn_66 ?_
  refine k_topi (z := (fX5_learnC S P1 X1 b1).1 11 3 0) rfl ?_
  refine k_topi (z := S.1 11 3 0) (by simp [uI, uL, uF, fX5_learnC_2, fX5_learnC_I _ _ _ _ (show (10 : Nat) ≠ 11 from by decide), fX5_learnC_J _ _ _ _ (show (1 : Nat) ≠ 0 from by decide), fX5_learnC_J _ _ _ _ (show (2 : Nat) ≠ 0 from by decide), fX5_learnC_J _ _ _ _ (show (3 : Nat) ≠ 0 from by decide), fX5_learnC_J _ _ _ _ (show (4 : Nat) ≠ 0 from by decide), fX5_learnC_J _ _ _ _ (show (5 : Nat) ≠ 0 from by decide), fX5_learnC_J _ _ _ _ (show (6 : Nat) ≠ 0 from by decide), fX5_learnC_J _ _ _ _ (show (7 : Nat) ≠ 0 from by decide)]) ?_
  refine k_topi (z := nI W1) (h_W0) ?_
  refine k_callV (C := RX5) (n := 2) (rest := []) ⟨hx, hb, hml, hown, hts⟩ (cX5c_globalIndex l G Z (fX5_learnC S P1 X1 b1) Q1 (by simp [uI, uL, uF, fX5_change_2, fX5_change_I _ _ _ (show (10 : Nat) ≠ 11 from by decide), fX5_change_J _ _ _ (show (1 : Nat) ≠ 0 from by decide), fX5_change_J _ _ _ (show (2 : Nat) ≠ 0 from by decide), fX5_change_J _ _ _ (show (3 : Nat) ≠ 0 from by decide), fX5_change_J _ _ _ (show (4 : Nat) ≠ 0 from by decide), fX5_change_J _ _ _ (show (5 : Nat) ≠ 0 from by decide), fX5_change_J _ _ _ (show (6 : Nat) ≠ 0 from by decide), fX5_change_J _ _ _ (show (7 : Nat) ≠ 0 from by decide), fX5_audit_F, fX5_audit_M, fX5_audit_I _ _ _ _ _ (show (10 : Nat) ≠ 11 from by decide), fX5_audit_L _ _ _ _ _ (show (10 : Nat) ≠ 13 from by decide), fX5_audit_J _ _ _ _ _ (show (0 : Nat) ≠ 1 from by decide), fX5_audit_J _ _ _ _ _ (show (2 : Nat) ≠ 1 from by decide), fX5_audit_J _ _ _ _ _ (show (3 : Nat) ≠ 1 from by decide), fX5_audit_J _ _ _ _ _ (show (4 : Nat) ≠ 1 from by decide), fX5_audit_J _ _ _ _ _ (show (5 : Nat) ≠ 1 from by decide), fX5_audit_J _ _ _ _ _ (show (6 : Nat) ≠ 1 from by decide), fX5_audit_J _ _ _ _ _ (show (7 : Nat) ≠ 1 from by decide), fX5_learnC_2, fX5_learnC_I _ _ _ _ (show (10 : Nat) ≠ 11 from by decide), fX5_learnC_J _ _ _ _ (show (1 : Nat) ≠ 0 from by decide), fX5_learnC_J _ _ _ _ (show (2 : Nat) ≠ 0 from by decide), fX5_learnC_J _ _ _ _ (show (3 : Nat) ≠ 0 from by decide), fX5_learnC_J _ _ _ _ (show (4 : Nat) ≠ 0 from by decide), fX5_learnC_J _ _ _ _ (show (5 : Nat) ≠ 0 from by decide), fX5_learnC_J _ _ _ _ (show (6 : Nat) ≠ 0 from by decide), fX5_learnC_J _ _ _ _ (show (7 : Nat) ≠ 0 from by decide), h_Q1]) h_Q1b X1 h_X1b W1 h_W1b) (cwV 2 hts gX5_learn_X5_globalIndex rfl rfl rfl (by decide +kernel) ⟨Nat.le_of_ble_eq_true rfl, Nat.le_of_ble_eq_true rfl⟩) (k_recv hK hw kM_10 rfl rfl) hK hN hZ hA hw (Nat.zero_le _) (Nat.zero_le _) rfl hl.1 rfl (Nat.le_of_ble_eq_true rfl) dX5_learn_67 (fun H locs hw => ?_)
  refine W.eq (g2 := F0 m 70 ls [.int (nI (256 + ((X1 ^^^ W1) % 2 ^ Q1)))]) rfl ?_
  refine lv_istore (lv' := [(4, .int (nI (256 + ((X1 ^^^ W1) % 2 ^ Q1)))), (3, .int (bI ((fX5_isWrong S 0)))), (2, .int (bI (b1))), (1, .int (nI X1)), (0, .ref (G.2.2 (10, 0)))]) hx hb dX5_learn_70 hl (by decide) rfl (fun ls hl => ?_)
  refine lv_aload_n hx hb dX5_learn_72 rfl (lv_at hl 4 rfl) ?_
  refine lv_iconst (v := 0) hx hb dX5_learn_73 (by decide) ?_
  refine lv_aload_n hx hb dX5_learn_74 rfl (lv_at hl 4 rfl) ?_
  refine lv_iload_n hx hb dX5_learn_75 rfl (lv_at hl 3 rfl) ?_
  refine k_callV (C := RX5) (n := 1) (rest := [.int ((0 : Int32)), .ref (G.2.2 (10, 0))]) ⟨hx, hb, hml, hown, hts⟩ (cX5c_plainIndex l G Z (fX5_learnC S P1 X1 b1) P1 (by simp [uI, uL, uF, fX5_change_2, fX5_change_I _ _ _ (show (10 : Nat) ≠ 11 from by decide), fX5_change_J _ _ _ (show (1 : Nat) ≠ 0 from by decide), fX5_change_J _ _ _ (show (2 : Nat) ≠ 0 from by decide), fX5_change_J _ _ _ (show (3 : Nat) ≠ 0 from by decide), fX5_change_J _ _ _ (show (4 : Nat) ≠ 0 from by decide), fX5_change_J _ _ _ (show (5 : Nat) ≠ 0 from by decide), fX5_change_J _ _ _ (show (6 : Nat) ≠ 0 from by decide), fX5_change_J _ _ _ (show (7 : Nat) ≠ 0 from by decide), fX5_audit_F, fX5_audit_M, fX5_audit_I _ _ _ _ _ (show (10 : Nat) ≠ 11 from by decide), fX5_audit_L _ _ _ _ _ (show (10 : Nat) ≠ 13 from by decide), fX5_audit_J _ _ _ _ _ (show (0 : Nat) ≠ 1 from by decide), fX5_audit_J _ _ _ _ _ (show (2 : Nat) ≠ 1 from by decide), fX5_audit_J _ _ _ _ _ (show (3 : Nat) ≠ 1 from by decide), fX5_audit_J _ _ _ _ _ (show (4 : Nat) ≠ 1 from by decide), fX5_audit_J _ _ _ _ _ (show (5 : Nat) ≠ 1 from by decide), fX5_audit_J _ _ _ _ _ (show (6 : Nat) ≠ 1 from by decide), fX5_audit_J _ _ _ _ _ (show (7 : Nat) ≠ 1 from by decide), fX5_learnC_2, fX5_learnC_I _ _ _ _ (show (10 : Nat) ≠ 11 from by decide), fX5_learnC_J _ _ _ _ (show (1 : Nat) ≠ 0 from by decide), fX5_learnC_J _ _ _ _ (show (2 : Nat) ≠ 0 from by decide), fX5_learnC_J _ _ _ _ (show (3 : Nat) ≠ 0 from by decide), fX5_learnC_J _ _ _ _ (show (4 : Nat) ≠ 0 from by decide), fX5_learnC_J _ _ _ _ (show (5 : Nat) ≠ 0 from by decide), fX5_learnC_J _ _ _ _ (show (6 : Nat) ≠ 0 from by decide), fX5_learnC_J _ _ _ _ (show (7 : Nat) ≠ 0 from by decide), h_P1]) h_P1b X1 h_X1b) (cwV 1 hts gX5_learn_X5_plainIndex rfl rfl rfl (by decide +kernel) ⟨Nat.le_of_ble_eq_true rfl, Nat.le_of_ble_eq_true rfl⟩) (k_recv hK hw kM_10 rfl rfl) hK hN hZ hA hw (Nat.zero_le _) (Nat.zero_le _) rfl hl.1 rfl (Nat.le_of_ble_eq_true rfl) dX5_learn_76 (fun H locs hw => ?_)
  refine W.eq (g2 := F0 m 79 ls [.int (nI (X1 % 2 ^ P1)), .int ((0 : Int32)), .ref (G.2.2 (10, 0))]) rfl ?_
  refine lv_iload_n hx hb dX5_learn_79 rfl (lv_at hl 3 rfl) ?_
  refine lv_iload_n hx hb dX5_learn_80 rfl (lv_at hl 2 rfl) ?_
  refine k_callV (C := RX5) (n := 4) (rest := []) ⟨hx, hb, hml, hown, hts⟩ (cX5c_audit l G Z (fX5_learnC S P1 X1 b1) 0 (by decide) (X1 % 2 ^ P1) (by have h8 := m_lt (X := X1) h_P1b; have h9 := m_lt (X := X1 ^^^ W1) h_Q1b; omega) (nI X1) b1) (cwV 4 hts gX5_learn_X5_audit rfl rfl rfl (by decide +kernel) ⟨Nat.le_of_ble_eq_true rfl, Nat.le_of_ble_eq_true rfl⟩) (k_recv hK hw kM_10 rfl rfl) hK hN hZ hA hw (Nat.zero_le _) (Nat.zero_le _) rfl hl.1 rfl (Nat.le_of_ble_eq_true rfl) dX5_learn_81 (fun H locs hw => ?_)
  refine W.eq (g2 := F0 m 84 ls []) rfl ?_
  refine lv_aload_n hx hb dX5_learn_84 rfl (lv_at hl 4 rfl) ?_
  refine lv_iconst (v := 1) hx hb dX5_learn_85 (by decide) ?_
  refine lv_iload hx hb dX5_learn_86 (lv_at hl 0 rfl) ?_
  refine lv_iload_n hx hb dX5_learn_88 rfl (lv_at hl 3 rfl) ?_
  refine lv_iload_n hx hb dX5_learn_89 rfl (lv_at hl 2 rfl) ?_
  refine k_callV (C := RX5) (n := 4) (rest := []) ⟨hx, hb, hml, hown, hts⟩ (cX5c_audit l G Z (fX5_audit (fX5_learnC S P1 X1 b1) 0 (X1 % 2 ^ P1) (nI X1) b1) 1 (by decide) (256 + ((X1 ^^^ W1) % 2 ^ Q1)) (by have h8 := m_lt (X := X1) h_P1b; have h9 := m_lt (X := X1 ^^^ W1) h_Q1b; omega) (nI X1) b1) (cwV 4 hts gX5_learn_X5_audit rfl rfl rfl (by decide +kernel) ⟨Nat.le_of_ble_eq_true rfl, Nat.le_of_ble_eq_true rfl⟩) (k_recv hK hw kM_10 rfl rfl) hK hN hZ hA hw (Nat.zero_le _) (Nat.zero_le _) rfl hl.1 rfl (Nat.le_of_ble_eq_true rfl) dX5_learn_90 (fun H locs hw => ?_)
  refine W.eq (g2 := F0 m 93 ls []) rfl ?_
  refine lv_aload_n hx hb dX5_learn_93 rfl (lv_at hl 4 rfl) ?_
  refine lv_aload_n hx hb dX5_learn_94 rfl (lv_at hl 4 rfl) ?_
  refine lv_iload_n hx hb dX5_learn_95 rfl (lv_at hl 3 rfl) ?_
  refine k_callV (C := RX5) (n := 1) (rest := [.ref (G.2.2 (10, 0))]) ⟨hx, hb, hml, hown, hts⟩ (cX5c_plainIndex l G Z (fX5_audit (fX5_audit (fX5_learnC S P1 X1 b1) 0 (X1 % 2 ^ P1) (nI X1) b1) 1 (256 + ((X1 ^^^ W1) % 2 ^ Q1)) (nI X1) b1) P1 (by simp [uI, uL, uF, fX5_change_2, fX5_change_I _ _ _ (show (10 : Nat) ≠ 11 from by decide), fX5_change_J _ _ _ (show (1 : Nat) ≠ 0 from by decide), fX5_change_J _ _ _ (show (2 : Nat) ≠ 0 from by decide), fX5_change_J _ _ _ (show (3 : Nat) ≠ 0 from by decide), fX5_change_J _ _ _ (show (4 : Nat) ≠ 0 from by decide), fX5_change_J _ _ _ (show (5 : Nat) ≠ 0 from by decide), fX5_change_J _ _ _ (show (6 : Nat) ≠ 0 from by decide), fX5_change_J _ _ _ (show (7 : Nat) ≠ 0 from by decide), fX5_audit_F, fX5_audit_M, fX5_audit_I _ _ _ _ _ (show (10 : Nat) ≠ 11 from by decide), fX5_audit_L _ _ _ _ _ (show (10 : Nat) ≠ 13 from by decide), fX5_audit_J _ _ _ _ _ (show (0 : Nat) ≠ 1 from by decide), fX5_audit_J _ _ _ _ _ (show (2 : Nat) ≠ 1 from by decide), fX5_audit_J _ _ _ _ _ (show (3 : Nat) ≠ 1 from by decide), fX5_audit_J _ _ _ _ _ (show (4 : Nat) ≠ 1 from by decide), fX5_audit_J _ _ _ _ _ (show (5 : Nat) ≠ 1 from by decide), fX5_audit_J _ _ _ _ _ (show (6 : Nat) ≠ 1 from by decide), fX5_audit_J _ _ _ _ _ (show (7 : Nat) ≠ 1 from by decide), fX5_learnC_2, fX5_learnC_I _ _ _ _ (show (10 : Nat) ≠ 11 from by decide), fX5_learnC_J _ _ _ _ (show (1 : Nat) ≠ 0 from by decide), fX5_learnC_J _ _ _ _ (show (2 : Nat) ≠ 0 from by decide), fX5_learnC_J _ _ _ _ (show (3 : Nat) ≠ 0 from by decide), fX5_learnC_J _ _ _ _ (show (4 : Nat) ≠ 0 from by decide), fX5_learnC_J _ _ _ _ (show (5 : Nat) ≠ 0 from by decide), fX5_learnC_J _ _ _ _ (show (6 : Nat) ≠ 0 from by decide), fX5_learnC_J _ _ _ _ (show (7 : Nat) ≠ 0 from by decide), h_P1]) h_P1b X1 h_X1b) (cwV 1 hts gX5_learn_X5_plainIndex rfl rfl rfl (by decide +kernel) ⟨Nat.le_of_ble_eq_true rfl, Nat.le_of_ble_eq_true rfl⟩) (k_recv hK hw kM_10 rfl rfl) hK hN hZ hA hw (Nat.zero_le _) (Nat.zero_le _) rfl hl.1 rfl (Nat.le_of_ble_eq_true rfl) dX5_learn_96 (fun H locs hw => ?_)
  refine W.eq (g2 := F0 m 99 ls [.int (nI (X1 % 2 ^ P1)), .ref (G.2.2 (10, 0))]) rfl ?_
  refine lv_iload_n hx hb dX5_learn_99 rfl (lv_at hl 2 rfl) ?_
  refine k_callV (C := RX5) (n := 2) (rest := []) ⟨hx, hb, hml, hown, hts⟩ (cX5c_change l G Z (fX5_audit (fX5_audit (fX5_learnC S P1 X1 b1) 0 (X1 % 2 ^ P1) (nI X1) b1) 1 (256 + ((X1 ^^^ W1) % 2 ^ Q1)) (nI X1) b1) (X1 % 2 ^ P1) (by have h8 := m_lt (X := X1) h_P1b; have h9 := m_lt (X := X1 ^^^ W1) h_Q1b; omega) b1) (cwV 2 hts gX5_learn_X5_change rfl rfl rfl (by decide +kernel) ⟨Nat.le_of_ble_eq_true rfl, Nat.le_of_ble_eq_true rfl⟩) (k_recv hK hw kM_10 rfl rfl) hK hN hZ hA hw (Nat.zero_le _) (Nat.zero_le _) rfl hl.1 rfl (Nat.le_of_ble_eq_true rfl) dX5_learn_100 (fun H locs hw => ?_)
  refine W.eq (g2 := F0 m 103 ls []) rfl ?_
  refine lv_aload_n hx hb dX5_learn_103 rfl (lv_at hl 4 rfl) ?_
  refine lv_iload hx hb dX5_learn_104 (lv_at hl 0 rfl) ?_
  refine lv_iload_n hx hb dX5_learn_106 rfl (lv_at hl 2 rfl) ?_
  refine k_callV (C := RX5) (n := 2) (rest := []) ⟨hx, hb, hml, hown, hts⟩ (cX5c_change l G Z (fX5_change (fX5_audit (fX5_audit (fX5_learnC S P1 X1 b1) 0 (X1 % 2 ^ P1) (nI X1) b1) 1 (256 + ((X1 ^^^ W1) % 2 ^ Q1)) (nI X1) b1) (X1 % 2 ^ P1) b1) (256 + ((X1 ^^^ W1) % 2 ^ Q1)) (by have h8 := m_lt (X := X1) h_P1b; have h9 := m_lt (X := X1 ^^^ W1) h_Q1b; omega) b1) (cwV 2 hts gX5_learn_X5_change rfl rfl rfl (by decide +kernel) ⟨Nat.le_of_ble_eq_true rfl, Nat.le_of_ble_eq_true rfl⟩) (k_recv hK hw kM_10 rfl rfl) hK hN hZ hA hw (Nat.zero_le _) (Nat.zero_le _) rfl hl.1 rfl (Nat.le_of_ble_eq_true rfl) dX5_learn_107 (fun H locs hw => ?_)
  refine W.eq (g2 := F0 m 110 ls []) rfl ?_
  refine lv_aload_n hx hb dX5_learn_110 rfl (lv_at hl 4 rfl) ?_
  refine lv_iload_n hx hb dX5_learn_111 rfl (lv_at hl 3 rfl) ?_
  refine lv_iload_n hx hb dX5_learn_112 rfl (lv_at hl 2 rfl) ?_
  refine lv_iload_n hx hb dX5_learn_113 rfl (lv_at hl 1 rfl) ?_
  refine k_callV (C := RX5) (n := 3) (rest := []) ⟨hx, hb, hml, hown, hts⟩ (cX5c_learnLoop l G Z (fX5_change (fX5_change (fX5_audit (fX5_audit (fX5_learnC S P1 X1 b1) 0 (X1 % 2 ^ P1) (nI X1) b1) 1 (256 + ((X1 ^^^ W1) % 2 ^ Q1)) (nI X1) b1) (X1 % 2 ^ P1) b1) (256 + ((X1 ^^^ W1) % 2 ^ Q1)) b1) (nI X1) b1 (fX5_isWrong S 0)) (cwV 3 hts gX5_learn_X5_learnLoop rfl rfl rfl (by decide +kernel) ⟨Nat.le_of_ble_eq_true rfl, Nat.le_of_ble_eq_true rfl⟩) (k_recv hK hw kM_10 rfl rfl) hK hN hZ hA hw (Nat.zero_le _) (Nat.zero_le _) rfl hl.1 rfl (Nat.le_of_ble_eq_true rfl) dX5_learn_114 (fun H locs hw => ?_)
  refine W.eq (g2 := F0 m 117 ls []) rfl ?_
  refine lv_iconst (v := 0) hx hb dX5_learn_117 (by decide) ?_
  refine lv_istore (lv' := [(5, .int ((0 : Int32))), (4, .int (nI (256 + ((X1 ^^^ W1) % 2 ^ Q1)))), (3, .int (bI ((fX5_isWrong S 0)))), (2, .int (bI (b1))), (1, .int (nI X1)), (0, .ref (G.2.2 (10, 0)))]) hx hb dX5_learn_118 hl (by decide) rfl (fun ls hl => ?_)
  have hloop_lX5_miss : ∀ (n i : Nat) (S1 : uS) (H : Heap) (locs : List Loc) (ls : Array Slot), i + n = 4 → kS G kM S1 Z A s.heap H locs → lv_has ls 6 [(0, .ref (G.2.2 (10, 0))), (1, .int (nI X1)), (2, .int (bI (b1))), (3, .int (bI ((fX5_isWrong S 0)))), (4, .int (nI (256 + ((X1 ^^^ W1) % 2 ^ Q1)))), (5, .int (nI i))] → (∀ (H : Heap) (locs : List Loc) (ls : Array Slot), kS G kM (lX5_miss b1 n i S1) Z A s.heap H locs → lv_has ls 6 [(0, .ref (G.2.2 (10, 0))), (1, .int (nI X1)), (2, .int (bI (b1))), (3, .int (bI ((fX5_isWrong S 0)))), (4, .int (nI (256 + ((X1 ^^^ W1) % 2 ^ Q1)))), (5, .int (nI 4))] → W p l e rmX5_learn s m [.ref (G.2.2 (10, 0))].toArray below meth c H locs 0 0 (MQ below (kQ G kM Z A (some (.int (bI ((fX5_learn S P1 Q1 E1 X1 W1 b1).1)))) ((fX5_learn S P1 Q1 E1 X1 W1 b1).2)) [.ref (G.2.2 (10, 0))].toArray s 0 0 A) (F0 m 158 ls [])) → W p l e rmX5_learn s m [.ref (G.2.2 (10, 0))].toArray below meth c H locs 0 0 (MQ below (kQ G kM Z A (some (.int (bI ((fX5_learn S P1 Q1 E1 X1 W1 b1).1)))) ((fX5_learn S P1 Q1 E1 X1 W1 b1).2)) [.ref (G.2.2 (10, 0))].toArray s 0 0 A) (F0 m 120 ls []) := by
    intro n
    induction n with
    | zero =>
      intro i S1 H locs ls hin hw hl kx
      have z_3 : (4 : Int32) ≤ (nI i) := (nI_le (a := 4) (b := i) (by omega) (by omega))
      refine lv_iload hx hb dX5_learn_120 (lv_at hl 5 rfl) ?_
      refine lv_iconst (v := 4) hx hb dX5_learn_122 (by decide) ?_
      refine lv_icmp_ge (tgt := 158) hx hb dX5_learn_123 (by decide) (fun _ => ?_) (fun h9 => absurd z_3 h9)
      have hin : i = 4 := hin
      rw [hin] at hl
      exact kx H locs ls hw (lv_sub hl [0, 1, 2, 3, 4, 5] rfl)
    | succ n ih =>
      intro i S1 H locs ls hin hw hl kx
      have hi : i < 4 := by omega
      have hi31 : i < 2 ^ 31 := Nat.lt_trans hi (by decide)
      have z_4 : ¬ ((4 : Int32) ≤ (nI i)) := (nI_ge (a := i) (b := 4) hi (by decide))
      refine lv_iload hx hb dX5_learn_120 (lv_at hl 5 rfl) ?_
      refine lv_iconst (v := 4) hx hb dX5_learn_122 (by decide) ?_
      refine lv_icmp_ge (tgt := 158) hx hb dX5_learn_123 (by decide) (fun h9 => absurd h9 z_4) (fun _ => ?_)
      refine lv_aload_n hx hb dX5_learn_126 rfl (lv_at hl 0 rfl) ?_
      refine g_10_20 hx hb hts hiX5 hown hK hw kM_10 (hts (.fieldLink RX5 47 "BranchPredictorModel" "misses" "[J") (by decide +kernel)) dX5_learn_127 ?_
      refine lv_iload hx hb dX5_learn_130 (lv_at hl 5 rfl) ?_
      refine lv_dup2_11 hx hb dX5_learn_132 rfl rfl ?_
      refine ld_13_0 hx hb hK hw kM_13_0 (vp_in_nI (by first | omega | (split <;> omega)) (by decide)) dX5_learn_133 ?_
      refine k_topl (z := S1.2.1 13 0 i) (by rw [nI_clamp hi31]) ?_
      refine lv_aload_n hx hb dX5_learn_134 rfl (lv_at hl 0 rfl) ?_
      refine g_10_10 hx hb hts hiX5 hown hK hw kM_10 (hts (.fieldLink RX5 22 "BranchPredictorModel" "predictions" "[Z") (by decide +kernel)) dX5_learn_135 ?_
      refine lv_iload hx hb dX5_learn_138 (lv_at hl 5 rfl) ?_
      refine ld_12_0 hx hb hK hw kM_12_0 (vp_in_nI (by first | omega | (split <;> omega)) (by decide)) dX5_learn_140 ?_
      refine k_topz (z := S1.2.2 12 0 i) (by rw [nI_clamp hi31]) ?_
      refine lv_iload_n hx hb dX5_learn_141 rfl (lv_at hl 2 rfl) ?_
      refine k_join (P := fun x9 : Int64 => W p l e rmX5_learn s m [.ref (G.2.2 (10, 0))].toArray below meth c H locs 0 0 (MQ below (kQ G kM Z A (some (.int (bI ((fX5_learn S P1 Q1 E1 X1 W1 b1).1)))) ((fX5_learn S P1 Q1 E1 X1 W1 b1).2)) [.ref (G.2.2 (10, 0))].toArray s 0 0 A) (F0 m 150 ls [.long (x9), .long (S1.2.1 13 0 i), .int (nI i), .ref (G.2.2 (13, 0))])) (C := (S1.2.2 12 0 i) = b1) (a := (0 : Int64)) (b := (1 : Int64)) ?_ (fun ka kb => ?_)
      rotate_left
      · refine k_icmp_ne (a := S1.2.2 12 0 i) (b := b1) (tgt := 149) hx hb dX5_learn_142 (by decide) (fun c_5 => ?_) (fun c_5 => ?_)
        · skip
          refine lv_lconst (v := 1) hx hb dX5_learn_149 (by decide) ?_
          exact kb c_5
        · skip
          refine lv_lconst (v := 0) hx hb dX5_learn_145 (by decide) ?_
          refine lv_goto (tgt := 150) hx hb dX5_learn_146 (by decide) ?_
          exact ka c_5
      show W p l e rmX5_learn s m [.ref (G.2.2 (10, 0))].toArray below meth c H locs 0 0 (MQ below (kQ G kM Z A (some (.int (bI ((fX5_learn S P1 Q1 E1 X1 W1 b1).1)))) ((fX5_learn S P1 Q1 E1 X1 W1 b1).2)) [.ref (G.2.2 (10, 0))].toArray s 0 0 A) (F0 m 150 ls [.long (if (S1.2.2 12 0 i) = b1 then (0 : Int64) else (1 : Int64)), .long (S1.2.1 13 0 i), .int (nI i), .ref (G.2.2 (13, 0))])
      refine lv_ladd hx hb dX5_learn_150 ?_
      refine st_13_0 (x := (S1.2.1 13 0 i) + (if (S1.2.2 12 0 i) = b1 then (0 : Int64) else (1 : Int64))) hx hb hK hw kM_13_0 (vp_in_nI (by first | omega | (split <;> omega)) (by decide)) dX5_learn_151 (fun H locs hw => ?_)
      rw [nI_clamp hi31] at hw
      refine lv_iinc (v := nI (i + 1)) (lv' := [(5, .int (nI (i + 1))), (0, .ref (G.2.2 (10, 0))), (1, .int (nI X1)), (2, .int (bI (b1))), (3, .int (bI ((fX5_isWrong S 0)))), (4, .int (nI (256 + ((X1 ^^^ W1) % 2 ^ Q1))))]) hx hb dX5_learn_152 hl (k := 5) rfl (by rw [← nI_1]; rfl) (by decide) rfl (fun ls hl => ?_)
      refine lv_goto (tgt := 120) hx hb dX5_learn_155 (by decide) ?_
      exact ih (i + 1) (uL S1 13 0 i ((S1.2.1 13 0 i) + (if (S1.2.2 12 0 i) = b1 then (0 : Int64) else (1 : Int64)))) H locs ls (by omega) hw (lv_sub hl [1, 2, 3, 4, 5, 0] rfl) (by rw [(show (lX5_miss b1 (n + 1) i S1) = (lX5_miss b1 n (i + 1) (uL S1 13 0 i ((S1.2.1 13 0 i) + (if (S1.2.2 12 0 i) = b1 then (0 : Int64) else (1 : Int64))))) from by rw [lX5_miss])] at kx; exact kx)
  refine hloop_lX5_miss 4 0 (fX5_learnLoop (fX5_change (fX5_change (fX5_audit (fX5_audit (fX5_learnC S P1 X1 b1) 0 (X1 % 2 ^ P1) (nI X1) b1) 1 (256 + ((X1 ^^^ W1) % 2 ^ Q1)) (nI X1) b1) (X1 % 2 ^ P1) b1) (256 + ((X1 ^^^ W1) % 2 ^ Q1)) b1) (nI X1) b1 (fX5_isWrong S 0)) H locs ls (by omega) hw (lv_sub hl [5, 4, 3, 2, 1, 0] rfl) (fun H locs ls hw hl => ?_)
  refine lv_aload_n hx hb dX5_learn_158 rfl (lv_at hl 0 rfl) ?_
  refine lv_dup hx hb dX5_learn_159 rfl ?_
  refine g_10_18 hx hb hts hiX5 hown hK hw kM_10 (hts (.fieldLink RX5 77 "BranchPredictorModel" "commits" "J") (by decide +kernel)) dX5_learn_160 ?_
  refine k_topl (z := S.2.1 10 0 18) (by simp [uI, uL, uF, lX5_miss_1, lX5_miss_F, lX5_miss_L _ (show (10 : Nat) ≠ 13 from by decide), fX5_learnLoop_L, fX5_learnLoop_I _ _ _ _ (show (10 : Nat) ≠ 11 from by decide), fX5_learnLoop_J _ _ _ _ (show (0 : Nat) ≠ 4 from by decide) (show (0 : Nat) ≠ 5 from by decide) (show (0 : Nat) ≠ 6 from by decide) (show (0 : Nat) ≠ 7 from by decide), fX5_learnLoop_J _ _ _ _ (show (1 : Nat) ≠ 4 from by decide) (show (1 : Nat) ≠ 5 from by decide) (show (1 : Nat) ≠ 6 from by decide) (show (1 : Nat) ≠ 7 from by decide), fX5_learnLoop_J _ _ _ _ (show (2 : Nat) ≠ 4 from by decide) (show (2 : Nat) ≠ 5 from by decide) (show (2 : Nat) ≠ 6 from by decide) (show (2 : Nat) ≠ 7 from by decide), fX5_learnLoop_J _ _ _ _ (show (3 : Nat) ≠ 4 from by decide) (show (3 : Nat) ≠ 5 from by decide) (show (3 : Nat) ≠ 6 from by decide) (show (3 : Nat) ≠ 7 from by decide), fX5_learnLoop_F _ _ _ _ (show (0 : Nat) ≠ 3 from by decide), fX5_learnLoop_F _ _ _ _ (show (1 : Nat) ≠ 3 from by decide), fX5_learnLoop_F _ _ _ _ (show (2 : Nat) ≠ 3 from by decide), fX5_change_2, fX5_change_I _ _ _ (show (10 : Nat) ≠ 11 from by decide), fX5_change_J _ _ _ (show (1 : Nat) ≠ 0 from by decide), fX5_change_J _ _ _ (show (2 : Nat) ≠ 0 from by decide), fX5_change_J _ _ _ (show (3 : Nat) ≠ 0 from by decide), fX5_change_J _ _ _ (show (4 : Nat) ≠ 0 from by decide), fX5_change_J _ _ _ (show (5 : Nat) ≠ 0 from by decide), fX5_change_J _ _ _ (show (6 : Nat) ≠ 0 from by decide), fX5_change_J _ _ _ (show (7 : Nat) ≠ 0 from by decide), fX5_change_2, fX5_change_I _ _ _ (show (10 : Nat) ≠ 11 from by decide), fX5_change_J _ _ _ (show (1 : Nat) ≠ 0 from by decide), fX5_change_J _ _ _ (show (2 : Nat) ≠ 0 from by decide), fX5_change_J _ _ _ (show (3 : Nat) ≠ 0 from by decide), fX5_change_J _ _ _ (show (4 : Nat) ≠ 0 from by decide), fX5_change_J _ _ _ (show (5 : Nat) ≠ 0 from by decide), fX5_change_J _ _ _ (show (6 : Nat) ≠ 0 from by decide), fX5_change_J _ _ _ (show (7 : Nat) ≠ 0 from by decide), fX5_audit_F, fX5_audit_M, fX5_audit_I _ _ _ _ _ (show (10 : Nat) ≠ 11 from by decide), fX5_audit_L _ _ _ _ _ (show (10 : Nat) ≠ 13 from by decide), fX5_audit_J _ _ _ _ _ (show (0 : Nat) ≠ 1 from by decide), fX5_audit_J _ _ _ _ _ (show (2 : Nat) ≠ 1 from by decide), fX5_audit_J _ _ _ _ _ (show (3 : Nat) ≠ 1 from by decide), fX5_audit_J _ _ _ _ _ (show (4 : Nat) ≠ 1 from by decide), fX5_audit_J _ _ _ _ _ (show (5 : Nat) ≠ 1 from by decide), fX5_audit_J _ _ _ _ _ (show (6 : Nat) ≠ 1 from by decide), fX5_audit_J _ _ _ _ _ (show (7 : Nat) ≠ 1 from by decide), fX5_audit_F, fX5_audit_M, fX5_audit_I _ _ _ _ _ (show (10 : Nat) ≠ 11 from by decide), fX5_audit_L _ _ _ _ _ (show (10 : Nat) ≠ 13 from by decide), fX5_audit_J _ _ _ _ _ (show (0 : Nat) ≠ 1 from by decide), fX5_audit_J _ _ _ _ _ (show (2 : Nat) ≠ 1 from by decide), fX5_audit_J _ _ _ _ _ (show (3 : Nat) ≠ 1 from by decide), fX5_audit_J _ _ _ _ _ (show (4 : Nat) ≠ 1 from by decide), fX5_audit_J _ _ _ _ _ (show (5 : Nat) ≠ 1 from by decide), fX5_audit_J _ _ _ _ _ (show (6 : Nat) ≠ 1 from by decide), fX5_audit_J _ _ _ _ _ (show (7 : Nat) ≠ 1 from by decide), fX5_learnC_2, fX5_learnC_I _ _ _ _ (show (10 : Nat) ≠ 11 from by decide), fX5_learnC_J _ _ _ _ (show (1 : Nat) ≠ 0 from by decide), fX5_learnC_J _ _ _ _ (show (2 : Nat) ≠ 0 from by decide), fX5_learnC_J _ _ _ _ (show (3 : Nat) ≠ 0 from by decide), fX5_learnC_J _ _ _ _ (show (4 : Nat) ≠ 0 from by decide), fX5_learnC_J _ _ _ _ (show (5 : Nat) ≠ 0 from by decide), fX5_learnC_J _ _ _ _ (show (6 : Nat) ≠ 0 from by decide), fX5_learnC_J _ _ _ _ (show (7 : Nat) ≠ 0 from by decide)]) ?_
  refine lv_lconst (v := 1) hx hb dX5_learn_163 (by decide) ?_
  refine lv_ladd hx hb dX5_learn_164 ?_
  refine p_10_18 (v := (S.2.1 10 0 18) + (1 : Int64)) hx hb hts hiX5 hown hK hw kM_10 (hts (.fieldLink RX5 77 "BranchPredictorModel" "commits" "J") (by decide +kernel)) dX5_learn_165 (fun H locs hw => ?_)
  refine lv_aload_n hx hb dX5_learn_168 rfl (lv_at hl 0 rfl) ?_
  refine lv_dup hx hb dX5_learn_169 rfl ?_
  refine g_10_7 hx hb hts hiX5 hown hK hw kM_10 (hts (.fieldLink RX5 74 "BranchPredictorModel" "flying" "I") (by decide +kernel)) dX5_learn_170 ?_
  refine k_topi (z := S.1 10 0 7) (by simp [uI, uL, uF, lX5_miss_1, lX5_miss_F, lX5_miss_L _ (show (10 : Nat) ≠ 13 from by decide), fX5_learnLoop_L, fX5_learnLoop_I _ _ _ _ (show (10 : Nat) ≠ 11 from by decide), fX5_learnLoop_J _ _ _ _ (show (0 : Nat) ≠ 4 from by decide) (show (0 : Nat) ≠ 5 from by decide) (show (0 : Nat) ≠ 6 from by decide) (show (0 : Nat) ≠ 7 from by decide), fX5_learnLoop_J _ _ _ _ (show (1 : Nat) ≠ 4 from by decide) (show (1 : Nat) ≠ 5 from by decide) (show (1 : Nat) ≠ 6 from by decide) (show (1 : Nat) ≠ 7 from by decide), fX5_learnLoop_J _ _ _ _ (show (2 : Nat) ≠ 4 from by decide) (show (2 : Nat) ≠ 5 from by decide) (show (2 : Nat) ≠ 6 from by decide) (show (2 : Nat) ≠ 7 from by decide), fX5_learnLoop_J _ _ _ _ (show (3 : Nat) ≠ 4 from by decide) (show (3 : Nat) ≠ 5 from by decide) (show (3 : Nat) ≠ 6 from by decide) (show (3 : Nat) ≠ 7 from by decide), fX5_learnLoop_F _ _ _ _ (show (0 : Nat) ≠ 3 from by decide), fX5_learnLoop_F _ _ _ _ (show (1 : Nat) ≠ 3 from by decide), fX5_learnLoop_F _ _ _ _ (show (2 : Nat) ≠ 3 from by decide), fX5_change_2, fX5_change_I _ _ _ (show (10 : Nat) ≠ 11 from by decide), fX5_change_J _ _ _ (show (1 : Nat) ≠ 0 from by decide), fX5_change_J _ _ _ (show (2 : Nat) ≠ 0 from by decide), fX5_change_J _ _ _ (show (3 : Nat) ≠ 0 from by decide), fX5_change_J _ _ _ (show (4 : Nat) ≠ 0 from by decide), fX5_change_J _ _ _ (show (5 : Nat) ≠ 0 from by decide), fX5_change_J _ _ _ (show (6 : Nat) ≠ 0 from by decide), fX5_change_J _ _ _ (show (7 : Nat) ≠ 0 from by decide), fX5_change_2, fX5_change_I _ _ _ (show (10 : Nat) ≠ 11 from by decide), fX5_change_J _ _ _ (show (1 : Nat) ≠ 0 from by decide), fX5_change_J _ _ _ (show (2 : Nat) ≠ 0 from by decide), fX5_change_J _ _ _ (show (3 : Nat) ≠ 0 from by decide), fX5_change_J _ _ _ (show (4 : Nat) ≠ 0 from by decide), fX5_change_J _ _ _ (show (5 : Nat) ≠ 0 from by decide), fX5_change_J _ _ _ (show (6 : Nat) ≠ 0 from by decide), fX5_change_J _ _ _ (show (7 : Nat) ≠ 0 from by decide), fX5_audit_F, fX5_audit_M, fX5_audit_I _ _ _ _ _ (show (10 : Nat) ≠ 11 from by decide), fX5_audit_L _ _ _ _ _ (show (10 : Nat) ≠ 13 from by decide), fX5_audit_J _ _ _ _ _ (show (0 : Nat) ≠ 1 from by decide), fX5_audit_J _ _ _ _ _ (show (2 : Nat) ≠ 1 from by decide), fX5_audit_J _ _ _ _ _ (show (3 : Nat) ≠ 1 from by decide), fX5_audit_J _ _ _ _ _ (show (4 : Nat) ≠ 1 from by decide), fX5_audit_J _ _ _ _ _ (show (5 : Nat) ≠ 1 from by decide), fX5_audit_J _ _ _ _ _ (show (6 : Nat) ≠ 1 from by decide), fX5_audit_J _ _ _ _ _ (show (7 : Nat) ≠ 1 from by decide), fX5_audit_F, fX5_audit_M, fX5_audit_I _ _ _ _ _ (show (10 : Nat) ≠ 11 from by decide), fX5_audit_L _ _ _ _ _ (show (10 : Nat) ≠ 13 from by decide), fX5_audit_J _ _ _ _ _ (show (0 : Nat) ≠ 1 from by decide), fX5_audit_J _ _ _ _ _ (show (2 : Nat) ≠ 1 from by decide), fX5_audit_J _ _ _ _ _ (show (3 : Nat) ≠ 1 from by decide), fX5_audit_J _ _ _ _ _ (show (4 : Nat) ≠ 1 from by decide), fX5_audit_J _ _ _ _ _ (show (5 : Nat) ≠ 1 from by decide), fX5_audit_J _ _ _ _ _ (show (6 : Nat) ≠ 1 from by decide), fX5_audit_J _ _ _ _ _ (show (7 : Nat) ≠ 1 from by decide), fX5_learnC_2, fX5_learnC_I _ _ _ _ (show (10 : Nat) ≠ 11 from by decide), fX5_learnC_J _ _ _ _ (show (1 : Nat) ≠ 0 from by decide), fX5_learnC_J _ _ _ _ (show (2 : Nat) ≠ 0 from by decide), fX5_learnC_J _ _ _ _ (show (3 : Nat) ≠ 0 from by decide), fX5_learnC_J _ _ _ _ (show (4 : Nat) ≠ 0 from by decide), fX5_learnC_J _ _ _ _ (show (5 : Nat) ≠ 0 from by decide), fX5_learnC_J _ _ _ _ (show (6 : Nat) ≠ 0 from by decide), fX5_learnC_J _ _ _ _ (show (7 : Nat) ≠ 0 from by decide)]) ?_
  refine k_topi (z := nI (E1 + 1)) (h_E1) ?_
  refine lv_iconst (v := 1) hx hb dX5_learn_173 (by decide) ?_
  refine lv_isub hx hb dX5_learn_174 ?_
  refine k_topi (z := nI E1) (nI_pred E1) ?_
  refine p_10_7 (v := nI E1) hx hb hts hiX5 hown hK hw kM_10 (hts (.fieldLink RX5 74 "BranchPredictorModel" "flying" "I") (by decide +kernel)) dX5_learn_175 (fun H locs hw => ?_)
  refine lv_iconst (v := 0) hx hb dX5_learn_178 (by decide) ?_
  refine lv_istore (lv' := [(5, .int ((0 : Int32))), (0, .ref (G.2.2 (10, 0))), (1, .int (nI X1)), (2, .int (bI (b1))), (3, .int (bI ((fX5_isWrong S 0)))), (4, .int (nI (256 + ((X1 ^^^ W1) % 2 ^ Q1))))]) hx hb dX5_learn_179 hl (by decide) rfl (fun ls hl => ?_)
  have hloop_lX5_shift : ∀ (n i : Nat) (S1 : uS) (H : Heap) (locs : List Loc) (ls : Array Slot), i + n = E1 → S1.1 10 0 7 = nI E1 → kS G kM S1 Z A s.heap H locs → lv_has ls 6 [(0, .ref (G.2.2 (10, 0))), (1, .int (nI X1)), (2, .int (bI (b1))), (3, .int (bI ((fX5_isWrong S 0)))), (4, .int (nI (256 + ((X1 ^^^ W1) % 2 ^ Q1)))), (5, .int (nI i))] → (∀ (H : Heap) (locs : List Loc) (ls : Array Slot), kS G kM (lX5_shift n i S1) Z A s.heap H locs → lv_has ls 6 [(0, .ref (G.2.2 (10, 0))), (1, .int (nI X1)), (2, .int (bI (b1))), (3, .int (bI ((fX5_isWrong S 0)))), (4, .int (nI (256 + ((X1 ^^^ W1) % 2 ^ Q1)))), (5, .int (nI E1))] → W p l e rmX5_learn s m [.ref (G.2.2 (10, 0))].toArray below meth c H locs 0 0 (MQ below (kQ G kM Z A (some (.int (bI ((fX5_learn S P1 Q1 E1 X1 W1 b1).1)))) ((fX5_learn S P1 Q1 E1 X1 W1 b1).2)) [.ref (G.2.2 (10, 0))].toArray s 0 0 A) (F0 m 260 ls [])) → W p l e rmX5_learn s m [.ref (G.2.2 (10, 0))].toArray below meth c H locs 0 0 (MQ below (kQ G kM Z A (some (.int (bI ((fX5_learn S P1 Q1 E1 X1 W1 b1).1)))) ((fX5_learn S P1 Q1 E1 X1 W1 b1).2)) [.ref (G.2.2 (10, 0))].toArray s 0 0 A) (F0 m 181 ls []) := by
    intro n
    induction n with
    | zero =>
      intro i S1 H locs ls hin h_s hw hl kx
      have z_6 : (nI E1) ≤ (nI i) := (nI_le (a := E1) (b := i) (by omega) (by omega))
      refine lv_iload hx hb dX5_learn_181 (lv_at hl 5 rfl) ?_
      refine lv_aload_n hx hb dX5_learn_183 rfl (lv_at hl 0 rfl) ?_
      refine g_10_7 hx hb hts hiX5 hown hK hw kM_10 (hts (.fieldLink RX5 74 "BranchPredictorModel" "flying" "I") (by decide +kernel)) dX5_learn_184 ?_
      refine k_topi (z := nI E1) (h_s) ?_
      refine lv_icmp_ge (tgt := 260) hx hb dX5_learn_187 (by decide) (fun _ => ?_) (fun h9 => absurd z_6 h9)
      have hin : i = E1 := hin
      rw [hin] at hl
      exact kx H locs ls hw (lv_sub hl [0, 1, 2, 3, 4, 5] rfl)
    | succ n ih =>
      intro i S1 H locs ls hin h_s hw hl kx
      have hi : i < E1 := by omega
      have hi31 : i < 2 ^ 31 := Nat.lt_trans hi (by omega)
      have z_7 : ¬ ((nI E1) ≤ (nI i)) := (nI_ge (a := i) (b := E1) hi (by omega))
      refine lv_iload hx hb dX5_learn_181 (lv_at hl 5 rfl) ?_
      refine lv_aload_n hx hb dX5_learn_183 rfl (lv_at hl 0 rfl) ?_
      refine g_10_7 hx hb hts hiX5 hown hK hw kM_10 (hts (.fieldLink RX5 74 "BranchPredictorModel" "flying" "I") (by decide +kernel)) dX5_learn_184 ?_
      refine k_topi (z := nI E1) (h_s) ?_
      refine lv_icmp_ge (tgt := 260) hx hb dX5_learn_187 (by decide) (fun h9 => absurd h9 z_7) (fun _ => ?_)
      refine lv_aload_n hx hb dX5_learn_190 rfl (lv_at hl 0 rfl) ?_
      refine g_10_8 hx hb hts hiX5 hown hK hw kM_10 (hts (.fieldLink RX5 16 "BranchPredictorModel" "places" "[I") (by decide +kernel)) dX5_learn_191 ?_
      refine lv_iload hx hb dX5_learn_194 (lv_at hl 5 rfl) ?_
      refine lv_aload_n hx hb dX5_learn_196 rfl (lv_at hl 0 rfl) ?_
      refine g_10_8 hx hb hts hiX5 hown hK hw kM_10 (hts (.fieldLink RX5 16 "BranchPredictorModel" "places" "[I") (by decide +kernel)) dX5_learn_197 ?_
      refine lv_iload hx hb dX5_learn_200 (lv_at hl 5 rfl) ?_
      refine lv_iconst (v := 1) hx hb dX5_learn_202 (by decide) ?_
      refine lv_iadd hx hb dX5_learn_203 ?_
      refine k_topi (z := nI (i + 1)) (nI_add i 1) ?_
      refine ld_11_2 hx hb hK hw kM_11_2 (vp_in_nI (by first | omega | (split <;> omega)) (by decide)) dX5_learn_204 ?_
      refine k_topi (z := S1.1 11 2 (i + 1)) (by rw [nI_clamp (show i + 1 < 2 ^ 31 from by first | omega | (split <;> omega))]) ?_
      refine st_11_2 (x := S1.1 11 2 (i + 1)) hx hb hK hw kM_11_2 (vp_in_nI (by first | omega | (split <;> omega)) (by decide)) dX5_learn_205 (fun H locs hw => ?_)
      rw [nI_clamp hi31] at hw
      refine lv_aload_n hx hb dX5_learn_206 rfl (lv_at hl 0 rfl) ?_
      refine g_10_9 hx hb hts hiX5 hown hK hw kM_10 (hts (.fieldLink RX5 19 "BranchPredictorModel" "histories" "[I") (by decide +kernel)) dX5_learn_207 ?_
      refine lv_iload hx hb dX5_learn_210 (lv_at hl 5 rfl) ?_
      refine lv_aload_n hx hb dX5_learn_212 rfl (lv_at hl 0 rfl) ?_
      refine g_10_9 hx hb hts hiX5 hown hK hw kM_10 (hts (.fieldLink RX5 19 "BranchPredictorModel" "histories" "[I") (by decide +kernel)) dX5_learn_213 ?_
      refine lv_iload hx hb dX5_learn_216 (lv_at hl 5 rfl) ?_
      refine lv_iconst (v := 1) hx hb dX5_learn_218 (by decide) ?_
      refine lv_iadd hx hb dX5_learn_219 ?_
      refine k_topi (z := nI (i + 1)) (nI_add i 1) ?_
      refine ld_11_3 hx hb hK hw kM_11_3 (vp_in_nI (by first | omega | (split <;> omega)) (by decide)) dX5_learn_220 ?_
      refine k_topi (z := (uI S1 11 2 i (S1.1 11 2 (i + 1))).1 11 3 (i + 1)) (by rw [nI_clamp (show i + 1 < 2 ^ 31 from by first | omega | (split <;> omega))]) ?_
      refine k_topi (z := S1.1 11 3 (i + 1)) (by simp [uI, uL, uF]) ?_
      refine st_11_3 (x := S1.1 11 3 (i + 1)) hx hb hK hw kM_11_3 (vp_in_nI (by first | omega | (split <;> omega)) (by decide)) dX5_learn_221 (fun H locs hw => ?_)
      rw [nI_clamp hi31] at hw
      refine lv_aload_n hx hb dX5_learn_222 rfl (lv_at hl 0 rfl) ?_
      refine g_10_11 hx hb hts hiX5 hown hK hw kM_10 (hts (.fieldLink RX5 26 "BranchPredictorModel" "areResolved" "[Z") (by decide +kernel)) dX5_learn_223 ?_
      refine lv_iload hx hb dX5_learn_226 (lv_at hl 5 rfl) ?_
      refine lv_aload_n hx hb dX5_learn_228 rfl (lv_at hl 0 rfl) ?_
      refine g_10_11 hx hb hts hiX5 hown hK hw kM_10 (hts (.fieldLink RX5 26 "BranchPredictorModel" "areResolved" "[Z") (by decide +kernel)) dX5_learn_229 ?_
      refine lv_iload hx hb dX5_learn_232 (lv_at hl 5 rfl) ?_
      refine lv_iconst (v := 1) hx hb dX5_learn_234 (by decide) ?_
      refine lv_iadd hx hb dX5_learn_235 ?_
      refine k_topi (z := nI (i + 1)) (nI_add i 1) ?_
      refine ld_12_1 hx hb hK hw kM_12_1 (vp_in_nI (by first | omega | (split <;> omega)) (by decide)) dX5_learn_236 ?_
      refine k_topz (z := (uI (uI S1 11 2 i (S1.1 11 2 (i + 1))) 11 3 i (S1.1 11 3 (i + 1))).2.2 12 1 (i + 1)) (by rw [nI_clamp (show i + 1 < 2 ^ 31 from by first | omega | (split <;> omega))]) ?_
      refine k_topz (z := S1.2.2 12 1 (i + 1)) (by simp [uI, uL, uF]) ?_
      refine st_12_1 (x := S1.2.2 12 1 (i + 1)) hx hb hK hw kM_12_1 (vp_in_nI (by first | omega | (split <;> omega)) (by decide)) dX5_learn_237 (fun H locs hw => ?_)
      rw [nI_clamp hi31] at hw
      refine lv_aload_n hx hb dX5_learn_238 rfl (lv_at hl 0 rfl) ?_
      refine g_10_12 hx hb hts hiX5 hown hK hw kM_10 (hts (.fieldLink RX5 29 "BranchPredictorModel" "outcomes" "[Z") (by decide +kernel)) dX5_learn_239 ?_
      refine lv_iload hx hb dX5_learn_242 (lv_at hl 5 rfl) ?_
      refine lv_aload_n hx hb dX5_learn_244 rfl (lv_at hl 0 rfl) ?_
      refine g_10_12 hx hb hts hiX5 hown hK hw kM_10 (hts (.fieldLink RX5 29 "BranchPredictorModel" "outcomes" "[Z") (by decide +kernel)) dX5_learn_245 ?_
      refine lv_iload hx hb dX5_learn_248 (lv_at hl 5 rfl) ?_
      refine lv_iconst (v := 1) hx hb dX5_learn_250 (by decide) ?_
      refine lv_iadd hx hb dX5_learn_251 ?_
      refine k_topi (z := nI (i + 1)) (nI_add i 1) ?_
      refine ld_12_2 hx hb hK hw kM_12_2 (vp_in_nI (by first | omega | (split <;> omega)) (by decide)) dX5_learn_252 ?_
      refine k_topz (z := (uF (uI (uI S1 11 2 i (S1.1 11 2 (i + 1))) 11 3 i (S1.1 11 3 (i + 1))) 12 1 i (S1.2.2 12 1 (i + 1))).2.2 12 2 (i + 1)) (by rw [nI_clamp (show i + 1 < 2 ^ 31 from by first | omega | (split <;> omega))]) ?_
      refine k_topz (z := S1.2.2 12 2 (i + 1)) (by simp [uI, uL, uF]) ?_
      refine st_12_2 (x := S1.2.2 12 2 (i + 1)) hx hb hK hw kM_12_2 (vp_in_nI (by first | omega | (split <;> omega)) (by decide)) dX5_learn_253 (fun H locs hw => ?_)
      rw [nI_clamp hi31] at hw
      refine lv_iinc (v := nI (i + 1)) (lv' := [(5, .int (nI (i + 1))), (0, .ref (G.2.2 (10, 0))), (1, .int (nI X1)), (2, .int (bI (b1))), (3, .int (bI ((fX5_isWrong S 0)))), (4, .int (nI (256 + ((X1 ^^^ W1) % 2 ^ Q1))))]) hx hb dX5_learn_254 hl (k := 5) rfl (by rw [← nI_1]; rfl) (by decide) rfl (fun ls hl => ?_)
      refine lv_goto (tgt := 181) hx hb dX5_learn_257 (by decide) ?_
      exact ih (i + 1) (uF (uF (uI (uI S1 11 2 i (S1.1 11 2 (i + 1))) 11 3 i (S1.1 11 3 (i + 1))) 12 1 i (S1.2.2 12 1 (i + 1))) 12 2 i (S1.2.2 12 2 (i + 1))) H locs ls (by omega) (by simpa [uI, uL, uF] using h_s) hw (lv_sub hl [1, 2, 3, 4, 5, 0] rfl) (by rw [(show (lX5_shift (n + 1) i S1) = (lX5_shift n (i + 1) (uF (uF (uI (uI S1 11 2 i (S1.1 11 2 (i + 1))) 11 3 i (S1.1 11 3 (i + 1))) 12 1 i (S1.2.2 12 1 (i + 1))) 12 2 i (S1.2.2 12 2 (i + 1)))) from by rw [lX5_shift])] at kx; exact kx)
  refine hloop_lX5_shift E1 0 (uI (uL (lX5_miss b1 4 0 (fX5_learnLoop (fX5_change (fX5_change (fX5_audit (fX5_audit (fX5_learnC S P1 X1 b1) 0 (X1 % 2 ^ P1) (nI X1) b1) 1 (256 + ((X1 ^^^ W1) % 2 ^ Q1)) (nI X1) b1) (X1 % 2 ^ P1) b1) (256 + ((X1 ^^^ W1) % 2 ^ Q1)) b1) (nI X1) b1 (fX5_isWrong S 0))) 10 0 18 ((S.2.1 10 0 18) + (1 : Int64))) 10 0 7 (nI E1)) H locs ls (by omega) (by simp [uI, uL]) hw (lv_sub hl [1, 2, 3, 4, 5, 0] rfl) (fun H locs ls hw hl => ?_)
  refine lv_iconst (v := 0) hx hb dX5_learn_260 (by decide) ?_
  refine lv_istore (lv' := [(5, .int ((0 : Int32))), (0, .ref (G.2.2 (10, 0))), (1, .int (nI X1)), (2, .int (bI (b1))), (3, .int (bI ((fX5_isWrong S 0)))), (4, .int (nI (256 + ((X1 ^^^ W1) % 2 ^ Q1))))]) hx hb dX5_learn_261 hl (by decide) rfl (fun ls hl => ?_)
  have hloop_lX5_shiftP : ∀ (n i : Nat) (S1 : uS) (H : Heap) (locs : List Loc) (ls : Array Slot), i + n = (4 * E1) → S1.1 10 0 7 = nI E1 → kS G kM S1 Z A s.heap H locs → lv_has ls 6 [(0, .ref (G.2.2 (10, 0))), (1, .int (nI X1)), (2, .int (bI (b1))), (3, .int (bI ((fX5_isWrong S 0)))), (4, .int (nI (256 + ((X1 ^^^ W1) % 2 ^ Q1)))), (5, .int (nI i))] → (∀ (H : Heap) (locs : List Loc) (ls : Array Slot), kS G kM (lX5_shiftP n i S1) Z A s.heap H locs → lv_has ls 6 [(0, .ref (G.2.2 (10, 0))), (1, .int (nI X1)), (2, .int (bI (b1))), (3, .int (bI ((fX5_isWrong S 0)))), (4, .int (nI (256 + ((X1 ^^^ W1) % 2 ^ Q1)))), (5, .int (nI (4 * E1)))] → W p l e rmX5_learn s m [.ref (G.2.2 (10, 0))].toArray below meth c H locs 0 0 (MQ below (kQ G kM Z A (some (.int (bI ((fX5_learn S P1 Q1 E1 X1 W1 b1).1)))) ((fX5_learn S P1 Q1 E1 X1 W1 b1).2)) [.ref (G.2.2 (10, 0))].toArray s 0 0 A) (F0 m 296 ls [])) → W p l e rmX5_learn s m [.ref (G.2.2 (10, 0))].toArray below meth c H locs 0 0 (MQ below (kQ G kM Z A (some (.int (bI ((fX5_learn S P1 Q1 E1 X1 W1 b1).1)))) ((fX5_learn S P1 Q1 E1 X1 W1 b1).2)) [.ref (G.2.2 (10, 0))].toArray s 0 0 A) (F0 m 263 ls []) := by
    intro n
    induction n with
    | zero =>
      intro i S1 H locs ls hin h_s hw hl kx
      have z_8 : (nI (4 * E1)) ≤ (nI i) := (nI_le (a := (4 * E1)) (b := i) (by omega) (by omega))
      refine lv_iload hx hb dX5_learn_263 (lv_at hl 5 rfl) ?_
      refine lv_iconst (v := 4) hx hb dX5_learn_265 (by decide) ?_
      refine lv_aload_n hx hb dX5_learn_266 rfl (lv_at hl 0 rfl) ?_
      refine g_10_7 hx hb hts hiX5 hown hK hw kM_10 (hts (.fieldLink RX5 74 "BranchPredictorModel" "flying" "I") (by decide +kernel)) dX5_learn_267 ?_
      refine k_topi (z := nI E1) (h_s) ?_
      refine lv_imul hx hb dX5_learn_270 ?_
      refine k_topi (z := nI (4 * E1)) (pk_mul 4 E1) ?_
      refine lv_icmp_ge (tgt := 296) hx hb dX5_learn_271 (by decide) (fun _ => ?_) (fun h9 => absurd z_8 h9)
      have hin : i = (4 * E1) := hin
      rw [hin] at hl
      exact kx H locs ls hw (lv_sub hl [0, 1, 2, 3, 4, 5] rfl)
    | succ n ih =>
      intro i S1 H locs ls hin h_s hw hl kx
      have hi : i < (4 * E1) := by omega
      have hi31 : i < 2 ^ 31 := Nat.lt_trans hi (by omega)
      have z_9 : ¬ ((nI (4 * E1)) ≤ (nI i)) := (nI_ge (a := i) (b := (4 * E1)) hi (by omega))
      refine lv_iload hx hb dX5_learn_263 (lv_at hl 5 rfl) ?_
      refine lv_iconst (v := 4) hx hb dX5_learn_265 (by decide) ?_
      refine lv_aload_n hx hb dX5_learn_266 rfl (lv_at hl 0 rfl) ?_
      refine g_10_7 hx hb hts hiX5 hown hK hw kM_10 (hts (.fieldLink RX5 74 "BranchPredictorModel" "flying" "I") (by decide +kernel)) dX5_learn_267 ?_
      refine k_topi (z := nI E1) (h_s) ?_
      refine lv_imul hx hb dX5_learn_270 ?_
      refine k_topi (z := nI (4 * E1)) (pk_mul 4 E1) ?_
      refine lv_icmp_ge (tgt := 296) hx hb dX5_learn_271 (by decide) (fun h9 => absurd h9 z_9) (fun _ => ?_)
      refine lv_aload_n hx hb dX5_learn_274 rfl (lv_at hl 0 rfl) ?_
      refine g_10_10 hx hb hts hiX5 hown hK hw kM_10 (hts (.fieldLink RX5 22 "BranchPredictorModel" "predictions" "[Z") (by decide +kernel)) dX5_learn_275 ?_
      refine lv_iload hx hb dX5_learn_278 (lv_at hl 5 rfl) ?_
      refine lv_aload_n hx hb dX5_learn_280 rfl (lv_at hl 0 rfl) ?_
      refine g_10_10 hx hb hts hiX5 hown hK hw kM_10 (hts (.fieldLink RX5 22 "BranchPredictorModel" "predictions" "[Z") (by decide +kernel)) dX5_learn_281 ?_
      refine lv_iload hx hb dX5_learn_284 (lv_at hl 5 rfl) ?_
      refine lv_iconst (v := 4) hx hb dX5_learn_286 (by decide) ?_
      refine lv_iadd hx hb dX5_learn_287 ?_
      refine k_topi (z := nI (i + 4)) (nI_add i 4) ?_
      refine ld_12_0 hx hb hK hw kM_12_0 (vp_in_nI (by first | omega | (split <;> omega)) (by decide)) dX5_learn_288 ?_
      refine k_topz (z := S1.2.2 12 0 (i + 4)) (by rw [nI_clamp (show i + 4 < 2 ^ 31 from by first | omega | (split <;> omega))]) ?_
      refine st_12_0 (x := S1.2.2 12 0 (i + 4)) hx hb hK hw kM_12_0 (vp_in_nI (by first | omega | (split <;> omega)) (by decide)) dX5_learn_289 (fun H locs hw => ?_)
      rw [nI_clamp hi31] at hw
      refine lv_iinc (v := nI (i + 1)) (lv' := [(5, .int (nI (i + 1))), (0, .ref (G.2.2 (10, 0))), (1, .int (nI X1)), (2, .int (bI (b1))), (3, .int (bI ((fX5_isWrong S 0)))), (4, .int (nI (256 + ((X1 ^^^ W1) % 2 ^ Q1))))]) hx hb dX5_learn_290 hl (k := 5) rfl (by rw [← nI_1]; rfl) (by decide) rfl (fun ls hl => ?_)
      refine lv_goto (tgt := 263) hx hb dX5_learn_293 (by decide) ?_
      exact ih (i + 1) (uF S1 12 0 i (S1.2.2 12 0 (i + 4))) H locs ls (by omega) (by simpa [uI, uL, uF] using h_s) hw (lv_sub hl [1, 2, 3, 4, 5, 0] rfl) (by rw [(show (lX5_shiftP (n + 1) i S1) = (lX5_shiftP n (i + 1) (uF S1 12 0 i (S1.2.2 12 0 (i + 4)))) from by rw [lX5_shiftP])] at kx; exact kx)
  refine hloop_lX5_shiftP (4 * E1) 0 (lX5_shift E1 0 (uI (uL (lX5_miss b1 4 0 (fX5_learnLoop (fX5_change (fX5_change (fX5_audit (fX5_audit (fX5_learnC S P1 X1 b1) 0 (X1 % 2 ^ P1) (nI X1) b1) 1 (256 + ((X1 ^^^ W1) % 2 ^ Q1)) (nI X1) b1) (X1 % 2 ^ P1) b1) (256 + ((X1 ^^^ W1) % 2 ^ Q1)) b1) (nI X1) b1 (fX5_isWrong S 0))) 10 0 18 ((S.2.1 10 0 18) + (1 : Int64))) 10 0 7 (nI E1))) H locs ls (by omega) (by rw [lX5_shift_10]; simp [uI, uL]) hw (lv_sub hl [1, 2, 3, 4, 5, 0] rfl) (fun H locs ls hw hl => ?_)
  refine lv_iload_n hx hb dX5_learn_296 rfl (lv_at hl 3 rfl) ?_
  exact k_zret (r := (fX5_isWrong S 0)) hx hb hr hlocks hK hw (congrArg (fun z : Bool × uS => some (Value.int (bI (z.1)))) (show (fX5_learn S P1 Q1 E1 X1 W1 b1) = ((fX5_isWrong S 0), (lX5_shiftP (4 * E1) 0 (lX5_shift E1 0 (uI (uL (lX5_miss b1 4 0 (fX5_learnLoop (fX5_change (fX5_change (fX5_audit (fX5_audit (fX5_learnC S P1 X1 b1) 0 (X1 % 2 ^ P1) (nI X1) b1) 1 (256 + ((X1 ^^^ W1) % 2 ^ Q1)) (nI X1) b1) (X1 % 2 ^ P1) b1) (256 + ((X1 ^^^ W1) % 2 ^ Q1)) b1) (nI X1) b1 (fX5_isWrong S 0))) 10 0 18 ((S.2.1 10 0 18) + (1 : Int64))) 10 0 7 (nI E1))))) from by unfold fX5_learn; rfl)) (congrArg (a₁ := (fX5_learn S P1 Q1 E1 X1 W1 b1)) (a₂ := ((fX5_isWrong S 0), (lX5_shiftP (4 * E1) 0 (lX5_shift E1 0 (uI (uL (lX5_miss b1 4 0 (fX5_learnLoop (fX5_change (fX5_change (fX5_audit (fX5_audit (fX5_learnC S P1 X1 b1) 0 (X1 % 2 ^ P1) (nI X1) b1) 1 (256 + ((X1 ^^^ W1) % 2 ^ Q1)) (nI X1) b1) (X1 % 2 ^ P1) b1) (256 + ((X1 ^^^ W1) % 2 ^ Q1)) b1) (nI X1) b1 (fX5_isWrong S 0))) 10 0 18 ((S.2.1 10 0 18) + (1 : Int64))) 10 0 7 (nI E1)))))) (fun z : Bool × uS => z.2) (show (fX5_learn S P1 Q1 E1 X1 W1 b1) = ((fX5_isWrong S 0), (lX5_shiftP (4 * E1) 0 (lX5_shift E1 0 (uI (uL (lX5_miss b1 4 0 (fX5_learnLoop (fX5_change (fX5_change (fX5_audit (fX5_audit (fX5_learnC S P1 X1 b1) 0 (X1 % 2 ^ P1) (nI X1) b1) 1 (256 + ((X1 ^^^ W1) % 2 ^ Q1)) (nI X1) b1) (X1 % 2 ^ P1) b1) (256 + ((X1 ^^^ W1) % 2 ^ Q1)) b1) (nI X1) b1 (fX5_isWrong S 0))) 10 0 18 ((S.2.1 10 0 18) + (1 : Int64))) 10 0 7 (nI E1))))) from by unfold fX5_learn; rfl)) dX5_learn_297
def fX5_stateOf (S : uS) (J1 : Nat) : Int32 :=
  if (S.2.2 12 1 J1) = false then (0 : Int32)
  else nI (if (fX5_isWrong S J1) = false then 1 else 2)
abbrev rmX5_stateOf : Room := { frames := 1, cells := 0, slots := 0, locals := 21 }
set_option maxHeartbeats 4000000 in
set_option maxRecDepth 100000 in
theorem cX5c_stateOf (l : Launch) (G : gG) (Z : va_W) (S : uS) (J1 : Nat) (h_J1b : J1 < 16) : kMet l yX5_stateOf wsX5_stateOf rmX5_stateOf G kM Z S [.ref (G.2.2 (10, 0)), .int (nI J1)] (some (.int ((fX5_stateOf S J1)))) S := by
  refine kMet_of (cc := cX5_stateOf) (maxL := 2) (ret := (some .int)) (by decide) rfl (Nat.le_of_ble_eq_true rfl) ?_
  intro p e s m below meth c hx hb hr hml hlocks hts hown hK hN A hZ hA H locs hw ls hl
  have hl : lv_has ls 2 [(0, .ref (G.2.2 (10, 0))), (1, .int (nI J1))] := hl
  have hiX5 : ∀ w ∈ wsX50, w ∈ wsX5_stateOf := by decide +kernel
  refine lv_aload_n hx hb dX5_stateOf_0 rfl (lv_at hl 0 rfl) ?_
  refine g_10_11 hx hb hts hiX5 hown hK hw kM_10 (hts (.fieldLink RX5 26 "BranchPredictorModel" "areResolved" "[Z") (by decide +kernel)) dX5_stateOf_1 ?_
  refine lv_iload_n hx hb dX5_stateOf_4 rfl (lv_at hl 1 rfl) ?_
  refine ld_12_1 hx hb hK hw kM_12_1 (vp_in_nI (by first | omega | (split <;> omega)) (by decide)) dX5_stateOf_5 ?_
  refine k_topz (z := S.2.2 12 1 J1) (by rw [nI_clamp (show J1 < 2 ^ 31 from by first | omega | (split <;> omega))]) ?_
  refine k_if_ne (b := S.2.2 12 1 J1) (tgt := 13) hx hb dX5_stateOf_6 (by decide) (fun c_1 => ?_) (fun c_1 => ?_)
  · skip
    refine lv_aload_n hx hb dX5_stateOf_13 rfl (lv_at hl 0 rfl) ?_
    refine lv_iload_n hx hb dX5_stateOf_14 rfl (lv_at hl 1 rfl) ?_
    refine k_callV (C := RX5) (n := 1) (rest := []) ⟨hx, hb, hml, hown, hts⟩ (cX5c_isWrong l G Z S J1 h_J1b) (cwV 1 hts gX5_stateOf_X5_isWrong rfl rfl rfl (by decide +kernel) ⟨Nat.le_of_ble_eq_true rfl, Nat.le_of_ble_eq_true rfl⟩) (k_recv hK hw kM_10 rfl rfl) hK hN hZ hA hw (Nat.zero_le _) (Nat.zero_le _) rfl hl.1 rfl (Nat.le_of_ble_eq_true rfl) dX5_stateOf_15 (fun H locs hw => ?_)
    refine W.eq (g2 := F0 m 18 ls [.int (bI ((fX5_isWrong S J1)))]) rfl ?_
    refine k_join (P := fun x9 : Int32 => W p l e rmX5_stateOf s m [.ref (G.2.2 (10, 0)), .int (nI J1)].toArray below meth c H locs 0 0 (MQ below (kQ G kM Z A (some (.int ((fX5_stateOf S J1)))) S) [.ref (G.2.2 (10, 0)), .int (nI J1)].toArray s 0 0 A) (F0 m 26 ls [.int (x9)])) (C := (fX5_isWrong S J1) = false) (a := (1 : Int32)) (b := (2 : Int32)) ?_ (fun ka kb => ?_)
    rotate_left
    · refine k_if_eq (b := (fX5_isWrong S J1)) (tgt := 25) hx hb dX5_stateOf_18 (by decide) (fun c_2 => ?_) (fun c_2 => ?_)
      · skip
        refine lv_iconst (v := 1) hx hb dX5_stateOf_25 (by decide) ?_
        exact ka c_2
      · skip
        refine lv_iconst (v := 2) hx hb dX5_stateOf_21 (by decide) ?_
        refine lv_goto (tgt := 26) hx hb dX5_stateOf_22 (by decide) ?_
        exact kb c_2
    show W p l e rmX5_stateOf s m [.ref (G.2.2 (10, 0)), .int (nI J1)].toArray below meth c H locs 0 0 (MQ below (kQ G kM Z A (some (.int ((fX5_stateOf S J1)))) S) [.ref (G.2.2 (10, 0)), .int (nI J1)].toArray s 0 0 A) (F0 m 26 ls [.int (if (fX5_isWrong S J1) = false then (1 : Int32) else (2 : Int32))])
    refine k_topi (z := nI (if (fX5_isWrong S J1) = false then 1 else 2)) (by split <;> rfl) ?_
    exact k_iret hx hb hr hlocks hK hw (congrArg (fun z : Int32 => some (Value.int (z))) (show (fX5_stateOf S J1) = nI (if (fX5_isWrong S J1) = false then 1 else 2) from by unfold fX5_stateOf; rw [if_neg c_1])) rfl dX5_stateOf_26
  · skip
    refine lv_iconst (v := 0) hx hb dX5_stateOf_9 (by decide) ?_
    refine lv_goto (tgt := 26) hx hb dX5_stateOf_10 (by decide) ?_
    exact k_iret hx hb hr hlocks hK hw (congrArg (fun z : Int32 => some (Value.int (z))) (show (fX5_stateOf S J1) = (0 : Int32) from by unfold fX5_stateOf; rw [if_pos c_1])) rfl dX5_stateOf_26
def fX5_sizeOf (S : uS) (x1 : Int32) : Int32 :=
  if x1 < (0 : Int32) then (0 : Int32)
  else if x1 ≤ (2 : Int32) then (1 : Int32) <<< ((if x1 = (1 : Int32) then S.1 10 0 2 else S.1 10 0 1) &&& 31)
    else (0 : Int32)
abbrev rmX5_sizeOf : Room := { frames := 0, cells := 0, slots := 0, locals := 0 }
set_option maxHeartbeats 4000000 in
set_option maxRecDepth 100000 in
theorem cX5c_sizeOf (l : Launch) (G : gG) (Z : va_W) (S : uS) (x1 : Int32) : kMet l yX5_sizeOf wsX5_sizeOf rmX5_sizeOf G kM Z S [.ref (G.2.2 (10, 0)), .int (x1)] (some (.int ((fX5_sizeOf S x1)))) S := by
  refine kMet_of (cc := cX5_sizeOf) (maxL := 2) (ret := (some .int)) (by decide) rfl (Nat.le_of_ble_eq_true rfl) ?_
  intro p e s m below meth c hx hb hr hml hlocks hts hown hK hN A hZ hA H locs hw ls hl
  have hl : lv_has ls 2 [(0, .ref (G.2.2 (10, 0))), (1, .int (x1))] := hl
  have hiX5 : ∀ w ∈ wsX50, w ∈ wsX5_sizeOf := by decide +kernel
  refine lv_iload_n hx hb dX5_sizeOf_0 rfl (lv_at hl 1 rfl) ?_
  refine lv_if_lt (x := x1) (tgt := 9) hx hb dX5_sizeOf_1 (by decide) (fun c_1 => ?_) (fun c_1 => ?_)
  · skip
    refine lv_iconst (v := 0) hx hb dX5_sizeOf_9 (by decide) ?_
    refine lv_goto (tgt := 31) hx hb dX5_sizeOf_10 (by decide) ?_
    exact k_iret hx hb hr hlocks hK hw (congrArg (fun z : Int32 => some (Value.int (z))) (show (fX5_sizeOf S x1) = (0 : Int32) from by unfold fX5_sizeOf; rw [if_pos c_1])) rfl dX5_sizeOf_31
  · skip
    refine lv_iload_n hx hb dX5_sizeOf_4 rfl (lv_at hl 1 rfl) ?_
    refine lv_iconst (v := 2) hx hb dX5_sizeOf_5 (by decide) ?_
    refine lv_icmp_le (tgt := 13) hx hb dX5_sizeOf_6 (by decide) (fun c_2 => ?_) (fun c_2 => ?_)
    · skip
      refine lv_iconst (v := 1) hx hb dX5_sizeOf_13 (by decide) ?_
      refine lv_iload_n hx hb dX5_sizeOf_14 rfl (lv_at hl 1 rfl) ?_
      refine lv_iconst (v := 1) hx hb dX5_sizeOf_15 (by decide) ?_
      refine k_join (P := fun x9 : Int32 => W p l e rmX5_sizeOf s m [.ref (G.2.2 (10, 0)), .int (x1)].toArray below meth c H locs 0 0 (MQ below (kQ G kM Z A (some (.int ((fX5_sizeOf S x1)))) S) [.ref (G.2.2 (10, 0)), .int (x1)].toArray s 0 0 A) (F0 m 30 ls [.int (x9), .int ((1 : Int32))])) (C := x1 = (1 : Int32)) (a := S.1 10 0 2) (b := S.1 10 0 1) ?_ (fun ka kb => ?_)
      rotate_left
      · refine lv_icmp_ne (tgt := 26) hx hb dX5_sizeOf_16 (by decide) (fun c_3 => ?_) (fun c_3 => ?_)
        · skip
          refine lv_aload_n hx hb dX5_sizeOf_26 rfl (lv_at hl 0 rfl) ?_
          refine g_10_1 hx hb hts hiX5 hown hK hw kM_10 (hts (.fieldLink RX5 62 "BranchPredictorModel" "p" "I") (by decide +kernel)) dX5_sizeOf_27 ?_
          exact kb c_3
        · skip
          refine lv_aload_n hx hb dX5_sizeOf_19 rfl (lv_at hl 0 rfl) ?_
          refine g_10_2 hx hb hts hiX5 hown hK hw kM_10 (hts (.fieldLink RX5 65 "BranchPredictorModel" "g" "I") (by decide +kernel)) dX5_sizeOf_20 ?_
          refine lv_goto (tgt := 30) hx hb dX5_sizeOf_23 (by decide) ?_
          exact ka c_3
      show W p l e rmX5_sizeOf s m [.ref (G.2.2 (10, 0)), .int (x1)].toArray below meth c H locs 0 0 (MQ below (kQ G kM Z A (some (.int ((fX5_sizeOf S x1)))) S) [.ref (G.2.2 (10, 0)), .int (x1)].toArray s 0 0 A) (F0 m 30 ls [.int (if x1 = (1 : Int32) then S.1 10 0 2 else S.1 10 0 1), .int ((1 : Int32))])
      refine lv_ishl hx hb dX5_sizeOf_30 ?_
      exact k_iret hx hb hr hlocks hK hw (congrArg (fun z : Int32 => some (Value.int (z))) (show (fX5_sizeOf S x1) = (1 : Int32) <<< ((if x1 = (1 : Int32) then S.1 10 0 2 else S.1 10 0 1) &&& 31) from by unfold fX5_sizeOf; rw [if_neg c_1, if_pos c_2])) rfl dX5_sizeOf_31
    · skip
      refine lv_iconst (v := 0) hx hb dX5_sizeOf_9 (by decide) ?_
      refine lv_goto (tgt := 31) hx hb dX5_sizeOf_10 (by decide) ?_
      exact k_iret hx hb hr hlocks hK hw (congrArg (fun z : Int32 => some (Value.int (z))) (show (fX5_sizeOf S x1) = (0 : Int32) from by unfold fX5_sizeOf; rw [if_neg c_1, if_neg c_2])) rfl dX5_sizeOf_31
def fX5_ofLoop (S : uS) (F1 : Nat) (K1 : Nat) (x2 : Int32) : Int32 :=
  if (S.2.2 12 3 K1) = false then (-1 : Int32)
  else if x2 = (0 : Int32) then S.1 11 4 K1
    else if x2 = (1 : Int32) then S.1 11 5 K1
      else if x2 = (2 : Int32) then S.1 11 6 K1
        else if x2 = (3 : Int32) then S.1 11 7 K1
          else (lX5_presumed K1 F1 0 (S.1 11 5 K1) S)
abbrev rmX5_ofLoop : Room := { frames := 2, cells := 0, slots := 0, locals := 44 }
set_option maxHeartbeats 4000000 in
set_option maxRecDepth 100000 in
theorem cX5c_ofLoop (l : Launch) (G : gG) (Z : va_W) (S : uS) (F1 : Nat) (h_F1 : S.1 10 0 7 = nI F1) (h_F1b : F1 ≤ 16) (K1 : Nat) (h_K1b : K1 < 8) (x2 : Int32) : kMet l yX5_ofLoop wsX5_ofLoop rmX5_ofLoop G kM Z S [.ref (G.2.2 (10, 0)), .int (nI K1), .int (x2)] (some (.int ((fX5_ofLoop S F1 K1 x2)))) S := by
  refine kMet_of (cc := cX5_ofLoop) (maxL := 3) (ret := (some .int)) (by decide) rfl (Nat.le_of_ble_eq_true rfl) ?_
  intro p e s m below meth c hx hb hr hml hlocks hts hown hK hN A hZ hA H locs hw ls hl
  have hl : lv_has ls 3 [(0, .ref (G.2.2 (10, 0))), (1, .int (nI K1)), (2, .int (x2))] := hl
  have hiX5 : ∀ w ∈ wsX50, w ∈ wsX5_ofLoop := by decide +kernel
  refine lv_aload_n hx hb dX5_ofLoop_0 rfl (lv_at hl 0 rfl) ?_
  refine g_10_13 hx hb hts hiX5 hown hK hw kM_10 (hts (.fieldLink RX5 32 "BranchPredictorModel" "isLoop" "[Z") (by decide +kernel)) dX5_ofLoop_1 ?_
  refine lv_iload_n hx hb dX5_ofLoop_4 rfl (lv_at hl 1 rfl) ?_
  refine ld_12_3 hx hb hK hw kM_12_3 (vp_in_nI (by first | omega | (split <;> omega)) (by decide)) dX5_ofLoop_5 ?_
  refine k_topz (z := S.2.2 12 3 K1) (by rw [nI_clamp (show K1 < 2 ^ 31 from by first | omega | (split <;> omega))]) ?_
  refine k_if_ne (b := S.2.2 12 3 K1) (tgt := 13) hx hb dX5_ofLoop_6 (by decide) (fun c_1 => ?_) (fun c_1 => ?_)
  · skip
    refine lv_iload_n hx hb dX5_ofLoop_13 rfl (lv_at hl 2 rfl) ?_
    refine lv_if_ne (x := x2) (tgt := 26) hx hb dX5_ofLoop_14 (by decide) (fun c_2 => ?_) (fun c_2 => ?_)
    · skip
      refine lv_iload_n hx hb dX5_ofLoop_26 rfl (lv_at hl 2 rfl) ?_
      refine lv_iconst (v := 1) hx hb dX5_ofLoop_27 (by decide) ?_
      refine lv_icmp_ne (tgt := 40) hx hb dX5_ofLoop_28 (by decide) (fun c_3 => ?_) (fun c_3 => ?_)
      · skip
        refine lv_iload_n hx hb dX5_ofLoop_40 rfl (lv_at hl 2 rfl) ?_
        refine lv_iconst (v := 2) hx hb dX5_ofLoop_41 (by decide) ?_
        refine lv_icmp_ne (tgt := 54) hx hb dX5_ofLoop_42 (by decide) (fun c_4 => ?_) (fun c_4 => ?_)
        · skip
          refine lv_iload_n hx hb dX5_ofLoop_54 rfl (lv_at hl 2 rfl) ?_
          refine lv_iconst (v := 3) hx hb dX5_ofLoop_55 (by decide) ?_
          refine lv_icmp_ne (tgt := 68) hx hb dX5_ofLoop_56 (by decide) (fun c_5 => ?_) (fun c_5 => ?_)
          · skip
            refine lv_aload_n hx hb dX5_ofLoop_68 rfl (lv_at hl 0 rfl) ?_
            refine lv_iload_n hx hb dX5_ofLoop_69 rfl (lv_at hl 1 rfl) ?_
            refine k_callV (C := RX5) (n := 1) (rest := []) ⟨hx, hb, hml, hown, hts⟩ (cX5c_presumed l G Z S F1 h_F1 h_F1b K1 h_K1b) (cwV 1 hts gX5_ofLoop_X5_presumed rfl rfl rfl (by decide +kernel) ⟨Nat.le_of_ble_eq_true rfl, Nat.le_of_ble_eq_true rfl⟩) (k_recv hK hw kM_10 rfl rfl) hK hN hZ hA hw (Nat.zero_le _) (Nat.zero_le _) rfl hl.1 rfl (Nat.le_of_ble_eq_true rfl) dX5_ofLoop_70 (fun H locs hw => ?_)
            refine W.eq (g2 := F0 m 73 ls [.int ((lX5_presumed K1 F1 0 (S.1 11 5 K1) S))]) rfl ?_
            exact k_iret hx hb hr hlocks hK hw (congrArg (fun z : Int32 => some (Value.int (z))) (show (fX5_ofLoop S F1 K1 x2) = (lX5_presumed K1 F1 0 (S.1 11 5 K1) S) from by unfold fX5_ofLoop; rw [if_neg c_1, if_neg c_2, if_neg c_3, if_neg c_4, if_neg c_5])) rfl dX5_ofLoop_73
          · skip
            refine lv_aload_n hx hb dX5_ofLoop_59 rfl (lv_at hl 0 rfl) ?_
            refine g_10_17 hx hb hts hiX5 hown hK hw kM_10 (hts (.fieldLink RX5 44 "BranchPredictorModel" "trusts" "[I") (by decide +kernel)) dX5_ofLoop_60 ?_
            refine lv_iload_n hx hb dX5_ofLoop_63 rfl (lv_at hl 1 rfl) ?_
            refine ld_11_7 hx hb hK hw kM_11_7 (vp_in_nI (by first | omega | (split <;> omega)) (by decide)) dX5_ofLoop_64 ?_
            refine k_topi (z := S.1 11 7 K1) (by rw [nI_clamp (show K1 < 2 ^ 31 from by first | omega | (split <;> omega))]) ?_
            refine lv_goto (tgt := 73) hx hb dX5_ofLoop_65 (by decide) ?_
            exact k_iret hx hb hr hlocks hK hw (congrArg (fun z : Int32 => some (Value.int (z))) (show (fX5_ofLoop S F1 K1 x2) = S.1 11 7 K1 from by unfold fX5_ofLoop; rw [if_neg c_1, if_neg c_2, if_neg c_3, if_neg c_4, if_pos c_5])) rfl dX5_ofLoop_73
        · skip
          refine lv_aload_n hx hb dX5_ofLoop_45 rfl (lv_at hl 0 rfl) ?_
          refine g_10_16 hx hb hts hiX5 hown hK hw kM_10 (hts (.fieldLink RX5 41 "BranchPredictorModel" "trips" "[I") (by decide +kernel)) dX5_ofLoop_46 ?_
          refine lv_iload_n hx hb dX5_ofLoop_49 rfl (lv_at hl 1 rfl) ?_
          refine ld_11_6 hx hb hK hw kM_11_6 (vp_in_nI (by first | omega | (split <;> omega)) (by decide)) dX5_ofLoop_50 ?_
          refine k_topi (z := S.1 11 6 K1) (by rw [nI_clamp (show K1 < 2 ^ 31 from by first | omega | (split <;> omega))]) ?_
          refine lv_goto (tgt := 73) hx hb dX5_ofLoop_51 (by decide) ?_
          exact k_iret hx hb hr hlocks hK hw (congrArg (fun z : Int32 => some (Value.int (z))) (show (fX5_ofLoop S F1 K1 x2) = S.1 11 6 K1 from by unfold fX5_ofLoop; rw [if_neg c_1, if_neg c_2, if_neg c_3, if_pos c_4])) rfl dX5_ofLoop_73
      · skip
        refine lv_aload_n hx hb dX5_ofLoop_31 rfl (lv_at hl 0 rfl) ?_
        refine g_10_15 hx hb hts hiX5 hown hK hw kM_10 (hts (.fieldLink RX5 38 "BranchPredictorModel" "loopCounts" "[I") (by decide +kernel)) dX5_ofLoop_32 ?_
        refine lv_iload_n hx hb dX5_ofLoop_35 rfl (lv_at hl 1 rfl) ?_
        refine ld_11_5 hx hb hK hw kM_11_5 (vp_in_nI (by first | omega | (split <;> omega)) (by decide)) dX5_ofLoop_36 ?_
        refine k_topi (z := S.1 11 5 K1) (by rw [nI_clamp (show K1 < 2 ^ 31 from by first | omega | (split <;> omega))]) ?_
        refine lv_goto (tgt := 73) hx hb dX5_ofLoop_37 (by decide) ?_
        exact k_iret hx hb hr hlocks hK hw (congrArg (fun z : Int32 => some (Value.int (z))) (show (fX5_ofLoop S F1 K1 x2) = S.1 11 5 K1 from by unfold fX5_ofLoop; rw [if_neg c_1, if_neg c_2, if_pos c_3])) rfl dX5_ofLoop_73
    · skip
      refine lv_aload_n hx hb dX5_ofLoop_17 rfl (lv_at hl 0 rfl) ?_
      refine g_10_14 hx hb hts hiX5 hown hK hw kM_10 (hts (.fieldLink RX5 35 "BranchPredictorModel" "loopPlaces" "[I") (by decide +kernel)) dX5_ofLoop_18 ?_
      refine lv_iload_n hx hb dX5_ofLoop_21 rfl (lv_at hl 1 rfl) ?_
      refine ld_11_4 hx hb hK hw kM_11_4 (vp_in_nI (by first | omega | (split <;> omega)) (by decide)) dX5_ofLoop_22 ?_
      refine k_topi (z := S.1 11 4 K1) (by rw [nI_clamp (show K1 < 2 ^ 31 from by first | omega | (split <;> omega))]) ?_
      refine lv_goto (tgt := 73) hx hb dX5_ofLoop_23 (by decide) ?_
      exact k_iret hx hb hr hlocks hK hw (congrArg (fun z : Int32 => some (Value.int (z))) (show (fX5_ofLoop S F1 K1 x2) = S.1 11 4 K1 from by unfold fX5_ofLoop; rw [if_neg c_1, if_pos c_2])) rfl dX5_ofLoop_73
  · skip
    refine lv_iconst (v := -1) hx hb dX5_ofLoop_9 (by decide) ?_
    refine lv_goto (tgt := 73) hx hb dX5_ofLoop_10 (by decide) ?_
    exact k_iret hx hb hr hlocks hK hw (congrArg (fun z : Int32 => some (Value.int (z))) (show (fX5_ofLoop S F1 K1 x2) = (-1 : Int32) from by unfold fX5_ofLoop; rw [if_pos c_1])) rfl dX5_ofLoop_73
def lX5_bgA : Nat → Nat → uS → uS
  | 0, i, S1 => (S1)
  | n + 1, i, S1 => (lX5_bgA n (i + 1) (uI S1 11 0 i (1 : Int32)))
def lX5_bgB : Nat → Nat → uS → uS
  | 0, i, S1 => (S1)
  | n + 1, i, S1 => (lX5_bgB n (i + 1) (uI S1 11 1 i (-1 : Int32)))
def lX5_bgC : Nat → Nat → uS → uS
  | 0, i, S1 => (S1)
  | n + 1, i, S1 => (lX5_bgC n (i + 1) (uF S1 12 3 i false))
def lX5_bgD : Nat → Nat → uS → uS
  | 0, i, S1 => (S1)
  | n + 1, i, S1 => (lX5_bgD n (i + 1) (uL (uL S1 13 0 i (0 : Int64)) 13 1 i (0 : Int64)))
def fX5_begin (S : uS) (x1 : Int32) (x2 : Int32) (x3 : Int32) : uS :=
  (lX5_bgD 4 0 (lX5_bgC 8 0 (lX5_bgB 512 0 (lX5_bgA 768 0 (uL (uL (uI (uI (uI (uI (uI S 10 0 1 x1) 10 0 2 x2) 10 0 3 x3) 10 0 4 (0 : Int32)) 10 0 7 (0 : Int32)) 10 0 18 (0 : Int64)) 10 0 19 (0 : Int64))))))
abbrev rmX5_begin : Room := { frames := 0, cells := 0, slots := 0, locals := 0 }
set_option maxHeartbeats 4000000 in
set_option maxRecDepth 100000 in
theorem cX5c_begin (l : Launch) (G : gG) (Z : va_W) (S : uS) (x1 : Int32) (x2 : Int32) (x3 : Int32) : kMet l yX5_begin wsX5_begin rmX5_begin G kM Z S [.ref (G.2.2 (10, 0)), .int (x1), .int (x2), .int (x3)] none (fX5_begin S x1 x2 x3) := by
  refine kMet_of (cc := cX5_begin) (maxL := 5) (ret := none) (by decide) rfl (Nat.le_of_ble_eq_true rfl) ?_
  intro p e s m below meth c hx hb hr hml hlocks hts hown hK hN A hZ hA H locs hw ls hl
  have hl : lv_has ls 5 [(0, .ref (G.2.2 (10, 0))), (1, .int (x1)), (2, .int (x2)), (3, .int (x3))] := hl
  have hiX5 : ∀ w ∈ wsX50, w ∈ wsX5_begin := by decide +kernel
  refine lv_aload_n hx hb dX5_begin_0 rfl (lv_at hl 0 rfl) ?_
  refine lv_iload_n hx hb dX5_begin_1 rfl (lv_at hl 1 rfl) ?_
  refine p_10_1 (v := x1) hx hb hts hiX5 hown hK hw kM_10 (hts (.fieldLink RX5 62 "BranchPredictorModel" "p" "I") (by decide +kernel)) dX5_begin_2 (fun H locs hw => ?_)
  refine lv_aload_n hx hb dX5_begin_5 rfl (lv_at hl 0 rfl) ?_
  refine lv_iload_n hx hb dX5_begin_6 rfl (lv_at hl 2 rfl) ?_
  refine p_10_2 (v := x2) hx hb hts hiX5 hown hK hw kM_10 (hts (.fieldLink RX5 65 "BranchPredictorModel" "g" "I") (by decide +kernel)) dX5_begin_7 (fun H locs hw => ?_)
  refine lv_aload_n hx hb dX5_begin_10 rfl (lv_at hl 0 rfl) ?_
  refine lv_iload_n hx hb dX5_begin_11 rfl (lv_at hl 3 rfl) ?_
  refine p_10_3 (v := x3) hx hb hts hiX5 hown hK hw kM_10 (hts (.fieldLink RX5 68 "BranchPredictorModel" "h" "I") (by decide +kernel)) dX5_begin_12 (fun H locs hw => ?_)
  refine lv_aload_n hx hb dX5_begin_15 rfl (lv_at hl 0 rfl) ?_
  refine lv_iconst (v := 0) hx hb dX5_begin_16 (by decide) ?_
  refine p_10_4 (v := (0 : Int32)) hx hb hts hiX5 hown hK hw kM_10 (hts (.fieldLink RX5 71 "BranchPredictorModel" "history" "I") (by decide +kernel)) dX5_begin_17 (fun H locs hw => ?_)
  refine lv_aload_n hx hb dX5_begin_20 rfl (lv_at hl 0 rfl) ?_
  refine lv_iconst (v := 0) hx hb dX5_begin_21 (by decide) ?_
  refine p_10_7 (v := (0 : Int32)) hx hb hts hiX5 hown hK hw kM_10 (hts (.fieldLink RX5 74 "BranchPredictorModel" "flying" "I") (by decide +kernel)) dX5_begin_22 (fun H locs hw => ?_)
  refine lv_aload_n hx hb dX5_begin_25 rfl (lv_at hl 0 rfl) ?_
  refine lv_lconst (v := 0) hx hb dX5_begin_26 (by decide) ?_
  refine p_10_18 (v := (0 : Int64)) hx hb hts hiX5 hown hK hw kM_10 (hts (.fieldLink RX5 77 "BranchPredictorModel" "commits" "J") (by decide +kernel)) dX5_begin_27 (fun H locs hw => ?_)
  refine lv_aload_n hx hb dX5_begin_30 rfl (lv_at hl 0 rfl) ?_
  refine lv_lconst (v := 0) hx hb dX5_begin_31 (by decide) ?_
  refine p_10_19 (v := (0 : Int64)) hx hb hts hiX5 hown hK hw kM_10 (hts (.fieldLink RX5 81 "BranchPredictorModel" "drops" "J") (by decide +kernel)) dX5_begin_32 (fun H locs hw => ?_)
  refine lv_iconst (v := 0) hx hb dX5_begin_35 (by decide) ?_
  refine lv_istore (lv' := [(4, .int ((0 : Int32))), (0, .ref (G.2.2 (10, 0))), (1, .int (x1)), (2, .int (x2)), (3, .int (x3))]) hx hb dX5_begin_36 hl (by decide) rfl (fun ls hl => ?_)
  have hloop_lX5_bgA : ∀ (n i : Nat) (S1 : uS) (H : Heap) (locs : List Loc) (ls : Array Slot), i + n = 768 → kS G kM S1 Z A s.heap H locs → lv_has ls 5 [(0, .ref (G.2.2 (10, 0))), (1, .int (x1)), (2, .int (x2)), (3, .int (x3)), (4, .int (nI i))] → (∀ (H : Heap) (locs : List Loc) (ls : Array Slot), kS G kM (lX5_bgA n i S1) Z A s.heap H locs → lv_has ls 5 [(0, .ref (G.2.2 (10, 0))), (1, .int (x1)), (2, .int (x2)), (3, .int (x3)), (4, .int (nI 768))] → W p l e rmX5_begin s m [.ref (G.2.2 (10, 0)), .int (x1), .int (x2), .int (x3)].toArray below meth c H locs 0 0 (MQ below (kQ G kM Z A none (fX5_begin S x1 x2 x3)) [.ref (G.2.2 (10, 0)), .int (x1), .int (x2), .int (x3)].toArray s 0 0 A) (F0 m 60 ls [])) → W p l e rmX5_begin s m [.ref (G.2.2 (10, 0)), .int (x1), .int (x2), .int (x3)].toArray below meth c H locs 0 0 (MQ below (kQ G kM Z A none (fX5_begin S x1 x2 x3)) [.ref (G.2.2 (10, 0)), .int (x1), .int (x2), .int (x3)].toArray s 0 0 A) (F0 m 38 ls []) := by
    intro n
    induction n with
    | zero =>
      intro i S1 H locs ls hin hw hl kx
      have z_1 : (768 : Int32) ≤ (nI i) := (nI_le (a := 768) (b := i) (by omega) (by omega))
      refine lv_iload hx hb dX5_begin_38 (lv_at hl 4 rfl) ?_
      refine lv_sipush (v := 768) hx hb dX5_begin_40 (by decide) ?_
      refine lv_icmp_ge (tgt := 60) hx hb dX5_begin_43 (by decide) (fun _ => ?_) (fun h9 => absurd z_1 h9)
      have hin : i = 768 := hin
      rw [hin] at hl
      exact kx H locs ls hw (lv_sub hl [0, 1, 2, 3, 4] rfl)
    | succ n ih =>
      intro i S1 H locs ls hin hw hl kx
      have hi : i < 768 := by omega
      have hi31 : i < 2 ^ 31 := Nat.lt_trans hi (by decide)
      have z_2 : ¬ ((768 : Int32) ≤ (nI i)) := (nI_ge (a := i) (b := 768) hi (by decide))
      refine lv_iload hx hb dX5_begin_38 (lv_at hl 4 rfl) ?_
      refine lv_sipush (v := 768) hx hb dX5_begin_40 (by decide) ?_
      refine lv_icmp_ge (tgt := 60) hx hb dX5_begin_43 (by decide) (fun h9 => absurd h9 z_2) (fun _ => ?_)
      refine lv_aload_n hx hb dX5_begin_46 rfl (lv_at hl 0 rfl) ?_
      refine g_10_5 hx hb hts hiX5 hown hK hw kM_10 (hts (.fieldLink RX5 9 "BranchPredictorModel" "counters" "[I") (by decide +kernel)) dX5_begin_47 ?_
      refine lv_iload hx hb dX5_begin_50 (lv_at hl 4 rfl) ?_
      refine lv_iconst (v := 1) hx hb dX5_begin_52 (by decide) ?_
      refine st_11_0 (x := (1 : Int32)) hx hb hK hw kM_11_0 (vp_in_nI (by first | omega | (split <;> omega)) (by decide)) dX5_begin_53 (fun H locs hw => ?_)
      rw [nI_clamp hi31] at hw
      refine lv_iinc (v := nI (i + 1)) (lv' := [(4, .int (nI (i + 1))), (0, .ref (G.2.2 (10, 0))), (1, .int (x1)), (2, .int (x2)), (3, .int (x3))]) hx hb dX5_begin_54 hl (k := 4) rfl (by rw [← nI_1]; rfl) (by decide) rfl (fun ls hl => ?_)
      refine lv_goto (tgt := 38) hx hb dX5_begin_57 (by decide) ?_
      exact ih (i + 1) (uI S1 11 0 i (1 : Int32)) H locs ls (by omega) hw (lv_sub hl [1, 2, 3, 4, 0] rfl) (by rw [(show (lX5_bgA (n + 1) i S1) = (lX5_bgA n (i + 1) (uI S1 11 0 i (1 : Int32))) from by rw [lX5_bgA])] at kx; exact kx)
  refine hloop_lX5_bgA 768 0 (uL (uL (uI (uI (uI (uI (uI S 10 0 1 x1) 10 0 2 x2) 10 0 3 x3) 10 0 4 (0 : Int32)) 10 0 7 (0 : Int32)) 10 0 18 (0 : Int64)) 10 0 19 (0 : Int64)) H locs ls (by omega) hw (lv_sub hl [1, 2, 3, 4, 0] rfl) (fun H locs ls hw hl => ?_)
  refine lv_iconst (v := 0) hx hb dX5_begin_60 (by decide) ?_
  refine lv_istore (lv' := [(4, .int ((0 : Int32))), (0, .ref (G.2.2 (10, 0))), (1, .int (x1)), (2, .int (x2)), (3, .int (x3))]) hx hb dX5_begin_61 hl (by decide) rfl (fun ls hl => ?_)
  have hloop_lX5_bgB : ∀ (n i : Nat) (S1 : uS) (H : Heap) (locs : List Loc) (ls : Array Slot), i + n = 512 → kS G kM S1 Z A s.heap H locs → lv_has ls 5 [(0, .ref (G.2.2 (10, 0))), (1, .int (x1)), (2, .int (x2)), (3, .int (x3)), (4, .int (nI i))] → (∀ (H : Heap) (locs : List Loc) (ls : Array Slot), kS G kM (lX5_bgB n i S1) Z A s.heap H locs → lv_has ls 5 [(0, .ref (G.2.2 (10, 0))), (1, .int (x1)), (2, .int (x2)), (3, .int (x3)), (4, .int (nI 512))] → W p l e rmX5_begin s m [.ref (G.2.2 (10, 0)), .int (x1), .int (x2), .int (x3)].toArray below meth c H locs 0 0 (MQ below (kQ G kM Z A none (fX5_begin S x1 x2 x3)) [.ref (G.2.2 (10, 0)), .int (x1), .int (x2), .int (x3)].toArray s 0 0 A) (F0 m 85 ls [])) → W p l e rmX5_begin s m [.ref (G.2.2 (10, 0)), .int (x1), .int (x2), .int (x3)].toArray below meth c H locs 0 0 (MQ below (kQ G kM Z A none (fX5_begin S x1 x2 x3)) [.ref (G.2.2 (10, 0)), .int (x1), .int (x2), .int (x3)].toArray s 0 0 A) (F0 m 63 ls []) := by
    intro n
    induction n with
    | zero =>
      intro i S1 H locs ls hin hw hl kx
      have z_3 : (512 : Int32) ≤ (nI i) := (nI_le (a := 512) (b := i) (by omega) (by omega))
      refine lv_iload hx hb dX5_begin_63 (lv_at hl 4 rfl) ?_
      refine lv_sipush (v := 512) hx hb dX5_begin_65 (by decide) ?_
      refine lv_icmp_ge (tgt := 85) hx hb dX5_begin_68 (by decide) (fun _ => ?_) (fun h9 => absurd z_3 h9)
      have hin : i = 512 := hin
      rw [hin] at hl
      exact kx H locs ls hw (lv_sub hl [0, 1, 2, 3, 4] rfl)
    | succ n ih =>
      intro i S1 H locs ls hin hw hl kx
      have hi : i < 512 := by omega
      have hi31 : i < 2 ^ 31 := Nat.lt_trans hi (by decide)
      have z_4 : ¬ ((512 : Int32) ≤ (nI i)) := (nI_ge (a := i) (b := 512) hi (by decide))
      refine lv_iload hx hb dX5_begin_63 (lv_at hl 4 rfl) ?_
      refine lv_sipush (v := 512) hx hb dX5_begin_65 (by decide) ?_
      refine lv_icmp_ge (tgt := 85) hx hb dX5_begin_68 (by decide) (fun h9 => absurd h9 z_4) (fun _ => ?_)
      refine lv_aload_n hx hb dX5_begin_71 rfl (lv_at hl 0 rfl) ?_
      refine g_10_6 hx hb hts hiX5 hown hK hw kM_10 (hts (.fieldLink RX5 13 "BranchPredictorModel" "latestPlaces" "[I") (by decide +kernel)) dX5_begin_72 ?_
      refine lv_iload hx hb dX5_begin_75 (lv_at hl 4 rfl) ?_
      refine lv_iconst (v := -1) hx hb dX5_begin_77 (by decide) ?_
      refine st_11_1 (x := (-1 : Int32)) hx hb hK hw kM_11_1 (vp_in_nI (by first | omega | (split <;> omega)) (by decide)) dX5_begin_78 (fun H locs hw => ?_)
      rw [nI_clamp hi31] at hw
      refine lv_iinc (v := nI (i + 1)) (lv' := [(4, .int (nI (i + 1))), (0, .ref (G.2.2 (10, 0))), (1, .int (x1)), (2, .int (x2)), (3, .int (x3))]) hx hb dX5_begin_79 hl (k := 4) rfl (by rw [← nI_1]; rfl) (by decide) rfl (fun ls hl => ?_)
      refine lv_goto (tgt := 63) hx hb dX5_begin_82 (by decide) ?_
      exact ih (i + 1) (uI S1 11 1 i (-1 : Int32)) H locs ls (by omega) hw (lv_sub hl [1, 2, 3, 4, 0] rfl) (by rw [(show (lX5_bgB (n + 1) i S1) = (lX5_bgB n (i + 1) (uI S1 11 1 i (-1 : Int32))) from by rw [lX5_bgB])] at kx; exact kx)
  refine hloop_lX5_bgB 512 0 (lX5_bgA 768 0 (uL (uL (uI (uI (uI (uI (uI S 10 0 1 x1) 10 0 2 x2) 10 0 3 x3) 10 0 4 (0 : Int32)) 10 0 7 (0 : Int32)) 10 0 18 (0 : Int64)) 10 0 19 (0 : Int64))) H locs ls (by omega) hw (lv_sub hl [1, 2, 3, 4, 0] rfl) (fun H locs ls hw hl => ?_)
  refine lv_iconst (v := 0) hx hb dX5_begin_85 (by decide) ?_
  refine lv_istore (lv' := [(4, .int ((0 : Int32))), (0, .ref (G.2.2 (10, 0))), (1, .int (x1)), (2, .int (x2)), (3, .int (x3))]) hx hb dX5_begin_86 hl (by decide) rfl (fun ls hl => ?_)
  have hloop_lX5_bgC : ∀ (n i : Nat) (S1 : uS) (H : Heap) (locs : List Loc) (ls : Array Slot), i + n = 8 → kS G kM S1 Z A s.heap H locs → lv_has ls 5 [(0, .ref (G.2.2 (10, 0))), (1, .int (x1)), (2, .int (x2)), (3, .int (x3)), (4, .int (nI i))] → (∀ (H : Heap) (locs : List Loc) (ls : Array Slot), kS G kM (lX5_bgC n i S1) Z A s.heap H locs → lv_has ls 5 [(0, .ref (G.2.2 (10, 0))), (1, .int (x1)), (2, .int (x2)), (3, .int (x3)), (4, .int (nI 8))] → W p l e rmX5_begin s m [.ref (G.2.2 (10, 0)), .int (x1), .int (x2), .int (x3)].toArray below meth c H locs 0 0 (MQ below (kQ G kM Z A none (fX5_begin S x1 x2 x3)) [.ref (G.2.2 (10, 0)), .int (x1), .int (x2), .int (x3)].toArray s 0 0 A) (F0 m 109 ls [])) → W p l e rmX5_begin s m [.ref (G.2.2 (10, 0)), .int (x1), .int (x2), .int (x3)].toArray below meth c H locs 0 0 (MQ below (kQ G kM Z A none (fX5_begin S x1 x2 x3)) [.ref (G.2.2 (10, 0)), .int (x1), .int (x2), .int (x3)].toArray s 0 0 A) (F0 m 88 ls []) := by
    intro n
    induction n with
    | zero =>
      intro i S1 H locs ls hin hw hl kx
      have z_5 : (8 : Int32) ≤ (nI i) := (nI_le (a := 8) (b := i) (by omega) (by omega))
      refine lv_iload hx hb dX5_begin_88 (lv_at hl 4 rfl) ?_
      refine lv_bipush (v := 8) hx hb dX5_begin_90 (by decide) ?_
      refine lv_icmp_ge (tgt := 109) hx hb dX5_begin_92 (by decide) (fun _ => ?_) (fun h9 => absurd z_5 h9)
      have hin : i = 8 := hin
      rw [hin] at hl
      exact kx H locs ls hw (lv_sub hl [0, 1, 2, 3, 4] rfl)
    | succ n ih =>
      intro i S1 H locs ls hin hw hl kx
      have hi : i < 8 := by omega
      have hi31 : i < 2 ^ 31 := Nat.lt_trans hi (by decide)
      have z_6 : ¬ ((8 : Int32) ≤ (nI i)) := (nI_ge (a := i) (b := 8) hi (by decide))
      refine lv_iload hx hb dX5_begin_88 (lv_at hl 4 rfl) ?_
      refine lv_bipush (v := 8) hx hb dX5_begin_90 (by decide) ?_
      refine lv_icmp_ge (tgt := 109) hx hb dX5_begin_92 (by decide) (fun h9 => absurd h9 z_6) (fun _ => ?_)
      refine lv_aload_n hx hb dX5_begin_95 rfl (lv_at hl 0 rfl) ?_
      refine g_10_13 hx hb hts hiX5 hown hK hw kM_10 (hts (.fieldLink RX5 32 "BranchPredictorModel" "isLoop" "[Z") (by decide +kernel)) dX5_begin_96 ?_
      refine lv_iload hx hb dX5_begin_99 (lv_at hl 4 rfl) ?_
      refine lv_iconst (v := 0) hx hb dX5_begin_101 (by decide) ?_
      refine st_12_3 (x := false) hx hb hK hw kM_12_3 (vp_in_nI (by first | omega | (split <;> omega)) (by decide)) dX5_begin_102 (fun H locs hw => ?_)
      rw [nI_clamp hi31] at hw
      refine lv_iinc (v := nI (i + 1)) (lv' := [(4, .int (nI (i + 1))), (0, .ref (G.2.2 (10, 0))), (1, .int (x1)), (2, .int (x2)), (3, .int (x3))]) hx hb dX5_begin_103 hl (k := 4) rfl (by rw [← nI_1]; rfl) (by decide) rfl (fun ls hl => ?_)
      refine lv_goto (tgt := 88) hx hb dX5_begin_106 (by decide) ?_
      exact ih (i + 1) (uF S1 12 3 i false) H locs ls (by omega) hw (lv_sub hl [1, 2, 3, 4, 0] rfl) (by rw [(show (lX5_bgC (n + 1) i S1) = (lX5_bgC n (i + 1) (uF S1 12 3 i false)) from by rw [lX5_bgC])] at kx; exact kx)
  refine hloop_lX5_bgC 8 0 (lX5_bgB 512 0 (lX5_bgA 768 0 (uL (uL (uI (uI (uI (uI (uI S 10 0 1 x1) 10 0 2 x2) 10 0 3 x3) 10 0 4 (0 : Int32)) 10 0 7 (0 : Int32)) 10 0 18 (0 : Int64)) 10 0 19 (0 : Int64)))) H locs ls (by omega) hw (lv_sub hl [1, 2, 3, 4, 0] rfl) (fun H locs ls hw hl => ?_)
  refine lv_iconst (v := 0) hx hb dX5_begin_109 (by decide) ?_
  refine lv_istore (lv' := [(4, .int ((0 : Int32))), (0, .ref (G.2.2 (10, 0))), (1, .int (x1)), (2, .int (x2)), (3, .int (x3))]) hx hb dX5_begin_110 hl (by decide) rfl (fun ls hl => ?_)
  have hloop_lX5_bgD : ∀ (n i : Nat) (S1 : uS) (H : Heap) (locs : List Loc) (ls : Array Slot), i + n = 4 → kS G kM S1 Z A s.heap H locs → lv_has ls 5 [(0, .ref (G.2.2 (10, 0))), (1, .int (x1)), (2, .int (x2)), (3, .int (x3)), (4, .int (nI i))] → (∀ (H : Heap) (locs : List Loc) (ls : Array Slot), kS G kM (lX5_bgD n i S1) Z A s.heap H locs → lv_has ls 5 [(0, .ref (G.2.2 (10, 0))), (1, .int (x1)), (2, .int (x2)), (3, .int (x3)), (4, .int (nI 4))] → W p l e rmX5_begin s m [.ref (G.2.2 (10, 0)), .int (x1), .int (x2), .int (x3)].toArray below meth c H locs 0 0 (MQ below (kQ G kM Z A none (fX5_begin S x1 x2 x3)) [.ref (G.2.2 (10, 0)), .int (x1), .int (x2), .int (x3)].toArray s 0 0 A) (F0 m 140 ls [])) → W p l e rmX5_begin s m [.ref (G.2.2 (10, 0)), .int (x1), .int (x2), .int (x3)].toArray below meth c H locs 0 0 (MQ below (kQ G kM Z A none (fX5_begin S x1 x2 x3)) [.ref (G.2.2 (10, 0)), .int (x1), .int (x2), .int (x3)].toArray s 0 0 A) (F0 m 112 ls []) := by
    intro n
    induction n with
    | zero =>
      intro i S1 H locs ls hin hw hl kx
      have z_7 : (4 : Int32) ≤ (nI i) := (nI_le (a := 4) (b := i) (by omega) (by omega))
      refine lv_iload hx hb dX5_begin_112 (lv_at hl 4 rfl) ?_
      refine lv_iconst (v := 4) hx hb dX5_begin_114 (by decide) ?_
      refine lv_icmp_ge (tgt := 140) hx hb dX5_begin_115 (by decide) (fun _ => ?_) (fun h9 => absurd z_7 h9)
      have hin : i = 4 := hin
      rw [hin] at hl
      exact kx H locs ls hw (lv_sub hl [0, 1, 2, 3, 4] rfl)
    | succ n ih =>
      intro i S1 H locs ls hin hw hl kx
      have hi : i < 4 := by omega
      have hi31 : i < 2 ^ 31 := Nat.lt_trans hi (by decide)
      have z_8 : ¬ ((4 : Int32) ≤ (nI i)) := (nI_ge (a := i) (b := 4) hi (by decide))
      refine lv_iload hx hb dX5_begin_112 (lv_at hl 4 rfl) ?_
      refine lv_iconst (v := 4) hx hb dX5_begin_114 (by decide) ?_
      refine lv_icmp_ge (tgt := 140) hx hb dX5_begin_115 (by decide) (fun h9 => absurd h9 z_8) (fun _ => ?_)
      refine lv_aload_n hx hb dX5_begin_118 rfl (lv_at hl 0 rfl) ?_
      refine g_10_20 hx hb hts hiX5 hown hK hw kM_10 (hts (.fieldLink RX5 47 "BranchPredictorModel" "misses" "[J") (by decide +kernel)) dX5_begin_119 ?_
      refine lv_iload hx hb dX5_begin_122 (lv_at hl 4 rfl) ?_
      refine lv_lconst (v := 0) hx hb dX5_begin_124 (by decide) ?_
      refine st_13_0 (x := (0 : Int64)) hx hb hK hw kM_13_0 (vp_in_nI (by first | omega | (split <;> omega)) (by decide)) dX5_begin_125 (fun H locs hw => ?_)
      rw [nI_clamp hi31] at hw
      refine lv_aload_n hx hb dX5_begin_126 rfl (lv_at hl 0 rfl) ?_
      refine g_10_21 hx hb hts hiX5 hown hK hw kM_10 (hts (.fieldLink RX5 51 "BranchPredictorModel" "meetings" "[J") (by decide +kernel)) dX5_begin_127 ?_
      refine lv_iload hx hb dX5_begin_130 (lv_at hl 4 rfl) ?_
      refine lv_lconst (v := 0) hx hb dX5_begin_132 (by decide) ?_
      refine st_13_1 (x := (0 : Int64)) hx hb hK hw kM_13_1 (vp_in_nI (by first | omega | (split <;> omega)) (by decide)) dX5_begin_133 (fun H locs hw => ?_)
      rw [nI_clamp hi31] at hw
      refine lv_iinc (v := nI (i + 1)) (lv' := [(4, .int (nI (i + 1))), (0, .ref (G.2.2 (10, 0))), (1, .int (x1)), (2, .int (x2)), (3, .int (x3))]) hx hb dX5_begin_134 hl (k := 4) rfl (by rw [← nI_1]; rfl) (by decide) rfl (fun ls hl => ?_)
      refine lv_goto (tgt := 112) hx hb dX5_begin_137 (by decide) ?_
      exact ih (i + 1) (uL (uL S1 13 0 i (0 : Int64)) 13 1 i (0 : Int64)) H locs ls (by omega) hw (lv_sub hl [1, 2, 3, 4, 0] rfl) (by rw [(show (lX5_bgD (n + 1) i S1) = (lX5_bgD n (i + 1) (uL (uL S1 13 0 i (0 : Int64)) 13 1 i (0 : Int64))) from by rw [lX5_bgD])] at kx; exact kx)
  refine hloop_lX5_bgD 4 0 (lX5_bgC 8 0 (lX5_bgB 512 0 (lX5_bgA 768 0 (uL (uL (uI (uI (uI (uI (uI S 10 0 1 x1) 10 0 2 x2) 10 0 3 x3) 10 0 4 (0 : Int32)) 10 0 7 (0 : Int32)) 10 0 18 (0 : Int64)) 10 0 19 (0 : Int64))))) H locs ls (by omega) hw (lv_sub hl [1, 2, 3, 4, 0] rfl) (fun H locs ls hw hl => ?_)
  exact k_vret hx hb hr hlocks hK hw rfl (by unfold fX5_begin; rfl) dX5_begin_140
