/-! the thirteen wrappers -/
theorem tX4_setSizes (S : uS) (x1 : Int32) (x2 : Int32) (x3 : Int32) {E : String} (h : xX4_setSizes S x1 x2 x3 = .inr E) : E = "java/lang/IllegalArgumentException" := by
  unfold xX4_setSizes at h
  repeat' split at h
  all_goals first | (cases h; done) | (cases h; exact rfl)
theorem vX4_setSizes (S : uS) (x1 : Int32) (x2 : Int32) (x3 : Int32) {v : Option Value} {u : uS} (h : xX4_setSizes S x1 x2 x3 = .inl (v, u)) : ∃ b : Bool, v = some (.int (bI b)) := by
  unfold xX4_setSizes at h
  repeat' split at h
  all_goals first | (cases h; done) | (cases h; exact ⟨_, rfl⟩)
abbrev rmL_setSizes : Room := { frames := 7, cells := 1, slots := 6, locals := 106 }
set_option maxHeartbeats 4000000 in
set_option maxRecDepth 100000 in
theorem cLc_setSizes (l : Launch) (hlt : l.stackTraces = false) (G : gG) (Z : va_W) (S : uS) (f : Nat → Int64) (x1 : Int32) (x2 : Int32) (x3 : Int32) : kMetO l yL_setSizes wsL_setSizes rmL_setSizes G Z S f [.ref (G.2.2 (0, 0)), .int (x1), .int (x2), .int (x3), .ref (G.2.2 (14, 0))] cd1 (xX4_setSizes S x1 x2 x3) 1 6 := by
  refine kMetO_of (cc := cL_setSizes) (maxL := 6) (hh := [(0, 19, 22, 13)]) (by decide) rfl (Nat.le_of_ble_eq_true rfl) ?_
  intro p e s m below meth c hx hb hr hml hlocks htab hts hown hK hN A hZ hA H locs hw ls hl
  have hl : lv_has ls 6 [(0, .ref (G.2.2 (0, 0))), (1, .int (x1)), (2, .int (x2)), (3, .int (x3)), (4, .ref (G.2.2 (14, 0)))] := hl
  refine lv_aload hx hb dL_setSizes_0 (lv_at hl 4 rfl) ?_
  refine lv_iconst (v := 0) hx hb dL_setSizes_2 (by decide) ?_
  refine lv_aload_n hx hb dL_setSizes_3 rfl (lv_at hl 0 rfl) ?_
  refine lv_iload_n hx hb dL_setSizes_4 rfl (lv_at hl 1 rfl) ?_
  refine lv_iload_n hx hb dL_setSizes_5 rfl (lv_at hl 2 rfl) ?_
  refine lv_iload_n hx hb dL_setSizes_6 rfl (lv_at hl 3 rfl) ?_
  refine kx_callV (C := RX4) (n := 3) (mc0 := 1) (ms0 := 6) (rest := [.int 0, .ref (G.2.2 (14, 0))]) ⟨hx, hb, hml, hown, hts⟩ (cX4c_setSizes l hlt G (kO G f :: Z) S x1 x2 x3) (cwV 3 hts gL_setSizes_X4_setSizes rfl rfl rfl (by decide +kernel) ⟨Nat.le_of_ble_eq_true rfl, Nat.le_of_ble_eq_true rfl⟩) (k_recv hK hw kC_0 rfl rfl) hK hN hZ hA hw (Nat.le_of_ble_eq_true rfl) (Nat.le_of_ble_eq_true rfl) rfl hl.1 rfl (Nat.le_of_ble_eq_true rfl) dL_setSizes_7 (fun E hE q9 ce H locs hw hce hcv hcl => ?_) (fun v u hvu H locs hw => ?_)
  · obtain ⟨h0, h1, h2, h3, h4, h5, h6, h7, h8, g1, g2, g3, d1, d2, d3⟩ := id hN
    obtain rfl := tX4_setSizes S x1 x2 x3 hE
    refine vx_catch (own := RL) (name := "java/lang/IllegalArgumentException") (E := "java/lang/IllegalArgumentException") hown [] ⟨0, 19, 22, 13⟩ [] (by rw [htab]; rfl) (fun z hz => nomatch hz) (by decide) (by decide) (hts (.classLink RL 13 "java/lang/IllegalArgumentException") (by decide +kernel)) (g1.use rfl) hce hcv hcl ?_
    refine W.eq (g2 := F0 m 22 ls [.ref q9]) rfl ?_
    refine lv_astore (lv' := [(5, .ref q9), (0, .ref (G.2.2 (0, 0))), (1, .int (x1)), (2, .int (x2)), (3, .int (x3)), (4, .ref (G.2.2 (14, 0)))]) hx hb dL_setSizes_22 hl (by decide) rfl (fun ls hl => ?_)
    refine lv_iconst (v := 1) hx hb dL_setSizes_24 (by decide) ?_
    exact ko_ret hx hb hr hlocks hK hw (by rw [hE]; decide) (by rw [hE]; rfl) (by rw [hE]; rfl) (Nat.le_of_ble_eq_true rfl) (Nat.le_of_ble_eq_true rfl) dL_setSizes_25
  obtain ⟨i, rfl⟩ := vX4_setSizes S x1 x2 x3 hvu
  refine W.eq (g2 := F0 m 10 ls [.int (bI i), .int 0, .ref (G.2.2 (14, 0))]) rfl ?_
  refine k_if_eq (b := i) (tgt := 17) hx hb dL_setSizes_10 (by decide) (fun c_1 => ?_) (fun c_1 => ?_)
  · cases c_1
    refine lv_lconst (v := 0) hx hb dL_setSizes_17 (by decide) ?_
    refine ko_st (x := 0) hx hb hK hw dL_setSizes_18 (fun H locs hw => ?_)
    refine lv_goto (tgt := 26) hx hb dL_setSizes_19 (by decide) ?_
    refine lv_iconst (v := 0) hx hb dL_setSizes_26 (by decide) ?_
    exact ko_ret hx hb hr hlocks hK hw (by rw [hvu]; rfl) (by rw [hvu]; rfl) (by rw [hvu]; rfl) (Nat.le_of_ble_eq_true rfl) (Nat.le_of_ble_eq_true rfl) dL_setSizes_27
  · cases (Bool.not_eq_false _).mp c_1
    refine lv_lconst (v := 1) hx hb dL_setSizes_13 (by decide) ?_
    refine lv_goto (tgt := 18) hx hb dL_setSizes_14 (by decide) ?_
    refine ko_st (x := 1) hx hb hK hw dL_setSizes_18 (fun H locs hw => ?_)
    refine lv_goto (tgt := 26) hx hb dL_setSizes_19 (by decide) ?_
    refine lv_iconst (v := 0) hx hb dL_setSizes_26 (by decide) ?_
    exact ko_ret hx hb hr hlocks hK hw (by rw [hvu]; rfl) (by rw [hvu]; rfl) (by rw [hvu]; rfl) (Nat.le_of_ble_eq_true rfl) (Nat.le_of_ble_eq_true rfl) dL_setSizes_27
theorem tX4_predict (S : uS) (N1 : Nat) (x1 : Int32) {E : String} (h : xX4_predict S N1 x1 = .inr E) : E = "java/lang/IllegalArgumentException" ∨ E = "java/lang/IllegalStateException" := by
  unfold xX4_predict at h
  repeat' split at h
  all_goals first | (cases h; done) | (cases h; first | exact Or.inl rfl | exact Or.inr rfl)
theorem vX4_predict (S : uS) (N1 : Nat) (x1 : Int32) {v : Option Value} {u : uS} (h : xX4_predict S N1 x1 = .inl (v, u)) : ∃ b : Bool, v = some (.int (bI b)) := by
  unfold xX4_predict at h
  repeat' split at h
  all_goals first | (cases h; done) | (cases h; exact ⟨_, rfl⟩)
abbrev rmL_predict : Room := { frames := 8, cells := 2, slots := 12, locals := 123 }
set_option maxHeartbeats 4000000 in
set_option maxRecDepth 100000 in
theorem cLc_predict (l : Launch) (hlt : l.stackTraces = false) (G : gG) (Z : va_W) (S : uS) (f : Nat → Int64) (N1 : Nat) (h_N1 : S.1 0 0 13 = nI N1) (h_N1b : N1 < 2 ^ 31) (x1 : Int32) : kMetO l yL_predict wsL_predict rmL_predict G Z S f [.ref (G.2.2 (0, 0)), .int (x1), .ref (G.2.2 (14, 0))] cdA (xX4_predict S N1 x1) 2 12 := by
  refine kMetO_of (cc := cL_predict) (maxL := 4) (hh := [(0, 16, 19, 13), (0, 16, 22, 19)]) (by decide) rfl (Nat.le_of_ble_eq_true rfl) ?_
  intro p e s m below meth c hx hb hr hml hlocks htab hts hown hK hN A hZ hA H locs hw ls hl
  have hl : lv_has ls 4 [(0, .ref (G.2.2 (0, 0))), (1, .int (x1)), (2, .ref (G.2.2 (14, 0)))] := hl
  refine lv_aload_n hx hb dL_predict_0 rfl (lv_at hl 2 rfl) ?_
  refine lv_iconst (v := 0) hx hb dL_predict_1 (by decide) ?_
  refine lv_aload_n hx hb dL_predict_2 rfl (lv_at hl 0 rfl) ?_
  refine lv_iload_n hx hb dL_predict_3 rfl (lv_at hl 1 rfl) ?_
  refine kx_callV (C := RX4) (n := 1) (mc0 := 2) (ms0 := 12) (rest := [.int 0, .ref (G.2.2 (14, 0))]) ⟨hx, hb, hml, hown, hts⟩ (cX4c_predict l hlt G (kO G f :: Z) S N1 h_N1 h_N1b x1) (cwV 1 hts gL_predict_X4_predict rfl rfl rfl (by decide +kernel) ⟨Nat.le_of_ble_eq_true rfl, Nat.le_of_ble_eq_true rfl⟩) (k_recv hK hw kC_0 rfl rfl) hK hN hZ hA hw (Nat.le_of_ble_eq_true rfl) (Nat.le_of_ble_eq_true rfl) rfl hl.1 rfl (Nat.le_of_ble_eq_true rfl) dL_predict_4 (fun E hE q9 ce H locs hw hce hcv hcl => ?_) (fun v u hvu H locs hw => ?_)
  · obtain ⟨h0, h1, h2, h3, h4, h5, h6, h7, h8, g1, g2, g3, d1, d2, d3⟩ := id hN
    rcases tX4_predict S N1 x1 hE with rfl | rfl
    · refine vx_catch (own := RL) (name := "java/lang/IllegalArgumentException") (E := "java/lang/IllegalArgumentException") hown [] ⟨0, 16, 19, 13⟩ [⟨0, 16, 22, 19⟩] (by rw [htab]; rfl) (fun z hz => nomatch hz) (by decide) (by decide) (hts (.classLink RL 13 "java/lang/IllegalArgumentException") (by decide +kernel)) (g1.use rfl) hce hcv hcl ?_
      refine W.eq (g2 := F0 m 19 ls [.ref q9]) rfl ?_
      refine lv_astore_n (lv' := [(3, .ref q9), (0, .ref (G.2.2 (0, 0))), (1, .int (x1)), (2, .ref (G.2.2 (14, 0)))]) hx hb dL_predict_19 rfl hl (by decide) rfl (fun ls hl => ?_)
      refine lv_iconst (v := 1) hx hb dL_predict_20 (by decide) ?_
      exact ko_ret hx hb hr hlocks hK hw (by rw [hE]; decide) (by rw [hE]; rfl) (by rw [hE]; rfl) (Nat.le_of_ble_eq_true rfl) (Nat.le_of_ble_eq_true rfl) dL_predict_21
    · refine vx_catch (own := RL) (name := "java/lang/IllegalStateException") (E := "java/lang/IllegalStateException") hown [⟨0, 16, 19, 13⟩] ⟨0, 16, 22, 19⟩ [] (by rw [htab]; rfl) (fun z hz => by cases List.mem_singleton.mp hz; exact Or.inr ⟨by decide, "java/lang/IllegalArgumentException", hts (.classLink RL 13 "java/lang/IllegalArgumentException") (by decide +kernel), h7⟩) (by decide) (by decide) (hts (.classLink RL 19 "java/lang/IllegalStateException") (by decide +kernel)) (g2.use rfl) hce hcv hcl ?_
      refine W.eq (g2 := F0 m 22 ls [.ref q9]) rfl ?_
      refine lv_astore_n (lv' := [(3, .ref q9), (0, .ref (G.2.2 (0, 0))), (1, .int (x1)), (2, .ref (G.2.2 (14, 0)))]) hx hb dL_predict_22 rfl hl (by decide) rfl (fun ls hl => ?_)
      refine lv_iconst (v := 2) hx hb dL_predict_23 (by decide) ?_
      exact ko_ret hx hb hr hlocks hK hw (by rw [hE]; decide) (by rw [hE]; rfl) (by rw [hE]; rfl) (Nat.le_of_ble_eq_true rfl) (Nat.le_of_ble_eq_true rfl) dL_predict_24
  obtain ⟨i, rfl⟩ := vX4_predict S N1 x1 hvu
  refine W.eq (g2 := F0 m 7 ls [.int (bI i), .int 0, .ref (G.2.2 (14, 0))]) rfl ?_
  refine k_if_eq (b := i) (tgt := 14) hx hb dL_predict_7 (by decide) (fun c_1 => ?_) (fun c_1 => ?_)
  · cases c_1
    refine lv_lconst (v := 0) hx hb dL_predict_14 (by decide) ?_
    refine ko_st (x := 0) hx hb hK hw dL_predict_15 (fun H locs hw => ?_)
    refine lv_goto (tgt := 25) hx hb dL_predict_16 (by decide) ?_
    refine lv_iconst (v := 0) hx hb dL_predict_25 (by decide) ?_
    exact ko_ret hx hb hr hlocks hK hw (by rw [hvu]; rfl) (by rw [hvu]; rfl) (by rw [hvu]; rfl) (Nat.le_of_ble_eq_true rfl) (Nat.le_of_ble_eq_true rfl) dL_predict_26
  · cases (Bool.not_eq_false _).mp c_1
    refine lv_lconst (v := 1) hx hb dL_predict_10 (by decide) ?_
    refine lv_goto (tgt := 15) hx hb dL_predict_11 (by decide) ?_
    refine ko_st (x := 1) hx hb hK hw dL_predict_15 (fun H locs hw => ?_)
    refine lv_goto (tgt := 25) hx hb dL_predict_16 (by decide) ?_
    refine lv_iconst (v := 0) hx hb dL_predict_25 (by decide) ?_
    exact ko_ret hx hb hr hlocks hK hw (by rw [hvu]; rfl) (by rw [hvu]; rfl) (by rw [hvu]; rfl) (Nat.le_of_ble_eq_true rfl) (Nat.le_of_ble_eq_true rfl) dL_predict_26
theorem tX4_resolve (S : uS) (x1 : Int32) (b1 : Bool) {E : String} (h : xX4_resolve S x1 b1 = .inr E) : E = "java/lang/IndexOutOfBoundsException" ∨ E = "java/lang/IllegalStateException" := by
  unfold xX4_resolve at h
  repeat' split at h
  all_goals first | (cases h; done) | (cases h; first | exact Or.inl rfl | exact Or.inr rfl)
theorem vX4_resolve (S : uS) (x1 : Int32) (b1 : Bool) {v : Option Value} {u : uS} (h : xX4_resolve S x1 b1 = .inl (v, u)) : ∃ i : Int32, v = some (.int i) := by
  unfold xX4_resolve at h
  repeat' split at h
  all_goals first | (cases h; done) | (cases h; exact ⟨_, rfl⟩)
abbrev rmL_resolve : Room := { frames := 8, cells := 2, slots := 12, locals := 125 }
set_option maxHeartbeats 4000000 in
set_option maxRecDepth 100000 in
theorem cLc_resolve (l : Launch) (hlt : l.stackTraces = false) (G : gG) (Z : va_W) (S : uS) (f : Nat → Int64) (x1 : Int32) (b1 : Bool) : kMetO l yL_resolve wsL_resolve rmL_resolve G Z S f [.ref (G.2.2 (0, 0)), .int (x1), .int (bI (b1)), .ref (G.2.2 (14, 0))] cdA (xX4_resolve S x1 b1) 2 12 := by
  refine kMetO_of (cc := cL_resolve) (maxL := 5) (hh := [(0, 10, 13, 25), (0, 10, 17, 19)]) (by decide) rfl (Nat.le_of_ble_eq_true rfl) ?_
  intro p e s m below meth c hx hb hr hml hlocks htab hts hown hK hN A hZ hA H locs hw ls hl
  have hl : lv_has ls 5 [(0, .ref (G.2.2 (0, 0))), (1, .int (x1)), (2, .int (bI (b1))), (3, .ref (G.2.2 (14, 0)))] := hl
  refine lv_aload_n hx hb dL_resolve_0 rfl (lv_at hl 3 rfl) ?_
  refine lv_iconst (v := 0) hx hb dL_resolve_1 (by decide) ?_
  refine lv_aload_n hx hb dL_resolve_2 rfl (lv_at hl 0 rfl) ?_
  refine lv_iload_n hx hb dL_resolve_3 rfl (lv_at hl 1 rfl) ?_
  refine lv_iload_n hx hb dL_resolve_4 rfl (lv_at hl 2 rfl) ?_
  refine kx_callV (C := RX4) (n := 2) (mc0 := 2) (ms0 := 12) (rest := [.int 0, .ref (G.2.2 (14, 0))]) ⟨hx, hb, hml, hown, hts⟩ (cX4c_resolve l hlt G (kO G f :: Z) S x1 b1) (cwV 2 hts gL_resolve_X4_resolve rfl rfl rfl (by decide +kernel) ⟨Nat.le_of_ble_eq_true rfl, Nat.le_of_ble_eq_true rfl⟩) (k_recv hK hw kC_0 rfl rfl) hK hN hZ hA hw (Nat.le_of_ble_eq_true rfl) (Nat.le_of_ble_eq_true rfl) rfl hl.1 rfl (Nat.le_of_ble_eq_true rfl) dL_resolve_5 (fun E hE q9 ce H locs hw hce hcv hcl => ?_) (fun v u hvu H locs hw => ?_)
  · obtain ⟨h0, h1, h2, h3, h4, h5, h6, h7, h8, g1, g2, g3, d1, d2, d3⟩ := id hN
    rcases tX4_resolve S x1 b1 hE with rfl | rfl
    · refine vx_catch (own := RL) (name := "java/lang/IndexOutOfBoundsException") (E := "java/lang/IndexOutOfBoundsException") hown [] ⟨0, 10, 13, 25⟩ [⟨0, 10, 17, 19⟩] (by rw [htab]; rfl) (fun z hz => nomatch hz) (by decide) (by decide) (hts (.classLink RL 25 "java/lang/IndexOutOfBoundsException") (by decide +kernel)) (g3.use rfl) hce hcv hcl ?_
      refine W.eq (g2 := F0 m 13 ls [.ref q9]) rfl ?_
      refine lv_astore (lv' := [(4, .ref q9), (0, .ref (G.2.2 (0, 0))), (1, .int (x1)), (2, .int (bI (b1))), (3, .ref (G.2.2 (14, 0)))]) hx hb dL_resolve_13 hl (by decide) rfl (fun ls hl => ?_)
      refine lv_iconst (v := 1) hx hb dL_resolve_15 (by decide) ?_
      exact ko_ret hx hb hr hlocks hK hw (by rw [hE]; decide) (by rw [hE]; rfl) (by rw [hE]; rfl) (Nat.le_of_ble_eq_true rfl) (Nat.le_of_ble_eq_true rfl) dL_resolve_16
    · refine vx_catch (own := RL) (name := "java/lang/IllegalStateException") (E := "java/lang/IllegalStateException") hown [⟨0, 10, 13, 25⟩] ⟨0, 10, 17, 19⟩ [] (by rw [htab]; rfl) (fun z hz => by cases List.mem_singleton.mp hz; exact Or.inr ⟨by decide, "java/lang/IndexOutOfBoundsException", hts (.classLink RL 25 "java/lang/IndexOutOfBoundsException") (by decide +kernel), h8⟩) (by decide) (by decide) (hts (.classLink RL 19 "java/lang/IllegalStateException") (by decide +kernel)) (g2.use rfl) hce hcv hcl ?_
      refine W.eq (g2 := F0 m 17 ls [.ref q9]) rfl ?_
      refine lv_astore (lv' := [(4, .ref q9), (0, .ref (G.2.2 (0, 0))), (1, .int (x1)), (2, .int (bI (b1))), (3, .ref (G.2.2 (14, 0)))]) hx hb dL_resolve_17 hl (by decide) rfl (fun ls hl => ?_)
      refine lv_iconst (v := 2) hx hb dL_resolve_19 (by decide) ?_
      exact ko_ret hx hb hr hlocks hK hw (by rw [hE]; decide) (by rw [hE]; rfl) (by rw [hE]; rfl) (Nat.le_of_ble_eq_true rfl) (Nat.le_of_ble_eq_true rfl) dL_resolve_20
  obtain ⟨i, rfl⟩ := vX4_resolve S x1 b1 hvu
  refine W.eq (g2 := F0 m 8 ls [.int i, .int 0, .ref (G.2.2 (14, 0))]) rfl ?_
  refine lv_i2l (v := i.toInt64) hx hb dL_resolve_8 rfl ?_
  refine ko_st (x := i.toInt64) hx hb hK hw dL_resolve_9 (fun H locs hw => ?_)
  refine lv_goto (tgt := 21) hx hb dL_resolve_10 (by decide) ?_
  refine lv_iconst (v := 0) hx hb dL_resolve_21 (by decide) ?_
  exact ko_ret hx hb hr hlocks hK hw (by rw [hvu]; rfl) (by rw [hvu]; rfl) (by rw [hvu]; rfl) (Nat.le_of_ble_eq_true rfl) (Nat.le_of_ble_eq_true rfl) dL_resolve_22
theorem tX4_commit (S : uS)  {E : String} (h : xX4_commit S = .inr E) : E = "java/lang/IllegalStateException" := by
  unfold xX4_commit at h
  repeat' split at h
  all_goals first | (cases h; done) | (cases h; exact rfl)
theorem vX4_commit (S : uS)  {v : Option Value} {u : uS} (h : xX4_commit S = .inl (v, u)) : ∃ b : Bool, v = some (.int (bI b)) := by
  unfold xX4_commit at h
  repeat' split at h
  all_goals first | (cases h; done) | (cases h; exact ⟨_, rfl⟩)
abbrev rmL_commit : Room := { frames := 7, cells := 1, slots := 6, locals := 111 }
set_option maxHeartbeats 4000000 in
set_option maxRecDepth 100000 in
theorem cLc_commit (l : Launch) (hlt : l.stackTraces = false) (G : gG) (Z : va_W) (S : uS) (f : Nat → Int64)  : kMetO l yL_commit wsL_commit rmL_commit G Z S f [.ref (G.2.2 (0, 0)), .ref (G.2.2 (14, 0))] cd1 (xX4_commit S) 1 6 := by
  refine kMetO_of (cc := cL_commit) (maxL := 3) (hh := [(0, 15, 18, 19)]) (by decide) rfl (Nat.le_of_ble_eq_true rfl) ?_
  intro p e s m below meth c hx hb hr hml hlocks htab hts hown hK hN A hZ hA H locs hw ls hl
  have hl : lv_has ls 3 [(0, .ref (G.2.2 (0, 0))), (1, .ref (G.2.2 (14, 0)))] := hl
  refine lv_aload_n hx hb dL_commit_0 rfl (lv_at hl 1 rfl) ?_
  refine lv_iconst (v := 0) hx hb dL_commit_1 (by decide) ?_
  refine lv_aload_n hx hb dL_commit_2 rfl (lv_at hl 0 rfl) ?_
  refine kx_callV (C := RX4) (n := 0) (mc0 := 1) (ms0 := 6) (rest := [.int 0, .ref (G.2.2 (14, 0))]) ⟨hx, hb, hml, hown, hts⟩ (cX4c_commit l hlt G (kO G f :: Z) S ) (cwV 0 hts gL_commit_X4_commit rfl rfl rfl (by decide +kernel) ⟨Nat.le_of_ble_eq_true rfl, Nat.le_of_ble_eq_true rfl⟩) (k_recv hK hw kC_0 rfl rfl) hK hN hZ hA hw (Nat.le_of_ble_eq_true rfl) (Nat.le_of_ble_eq_true rfl) rfl hl.1 rfl (Nat.le_of_ble_eq_true rfl) dL_commit_3 (fun E hE q9 ce H locs hw hce hcv hcl => ?_) (fun v u hvu H locs hw => ?_)
  · obtain ⟨h0, h1, h2, h3, h4, h5, h6, h7, h8, g1, g2, g3, d1, d2, d3⟩ := id hN
    obtain rfl := tX4_commit S  hE
    refine vx_catch (own := RL) (name := "java/lang/IllegalStateException") (E := "java/lang/IllegalStateException") hown [] ⟨0, 15, 18, 19⟩ [] (by rw [htab]; rfl) (fun z hz => nomatch hz) (by decide) (by decide) (hts (.classLink RL 19 "java/lang/IllegalStateException") (by decide +kernel)) (g2.use rfl) hce hcv hcl ?_
    refine W.eq (g2 := F0 m 18 ls [.ref q9]) rfl ?_
    refine lv_astore_n (lv' := [(2, .ref q9), (0, .ref (G.2.2 (0, 0))), (1, .ref (G.2.2 (14, 0)))]) hx hb dL_commit_18 rfl hl (by decide) rfl (fun ls hl => ?_)
    refine lv_iconst (v := 1) hx hb dL_commit_19 (by decide) ?_
    exact ko_ret hx hb hr hlocks hK hw (by rw [hE]; decide) (by rw [hE]; rfl) (by rw [hE]; rfl) (Nat.le_of_ble_eq_true rfl) (Nat.le_of_ble_eq_true rfl) dL_commit_20
  obtain ⟨i, rfl⟩ := vX4_commit S  hvu
  refine W.eq (g2 := F0 m 6 ls [.int (bI i), .int 0, .ref (G.2.2 (14, 0))]) rfl ?_
  refine k_if_eq (b := i) (tgt := 13) hx hb dL_commit_6 (by decide) (fun c_1 => ?_) (fun c_1 => ?_)
  · cases c_1
    refine lv_lconst (v := 0) hx hb dL_commit_13 (by decide) ?_
    refine ko_st (x := 0) hx hb hK hw dL_commit_14 (fun H locs hw => ?_)
    refine lv_goto (tgt := 21) hx hb dL_commit_15 (by decide) ?_
    refine lv_iconst (v := 0) hx hb dL_commit_21 (by decide) ?_
    exact ko_ret hx hb hr hlocks hK hw (by rw [hvu]; rfl) (by rw [hvu]; rfl) (by rw [hvu]; rfl) (Nat.le_of_ble_eq_true rfl) (Nat.le_of_ble_eq_true rfl) dL_commit_22
  · cases (Bool.not_eq_false _).mp c_1
    refine lv_lconst (v := 1) hx hb dL_commit_9 (by decide) ?_
    refine lv_goto (tgt := 14) hx hb dL_commit_10 (by decide) ?_
    refine ko_st (x := 1) hx hb hK hw dL_commit_14 (fun H locs hw => ?_)
    refine lv_goto (tgt := 21) hx hb dL_commit_15 (by decide) ?_
    refine lv_iconst (v := 0) hx hb dL_commit_21 (by decide) ?_
    exact ko_ret hx hb hr hlocks hK hw (by rw [hvu]; rfl) (by rw [hvu]; rfl) (by rw [hvu]; rfl) (Nat.le_of_ble_eq_true rfl) (Nat.le_of_ble_eq_true rfl) dL_commit_22
theorem tX4_train (S : uS) (N1 : Nat) (x1 : Int32) (b1 : Bool) {E : String} (h : xX4_train S N1 x1 b1 = .inr E) : E = "java/lang/IllegalArgumentException" ∨ E = "java/lang/IllegalStateException" := by
  unfold xX4_train at h
  repeat' split at h
  all_goals first | (cases h; done) | (cases h; first | exact Or.inl rfl | exact Or.inr rfl)
theorem vX4_train (S : uS) (N1 : Nat) (x1 : Int32) (b1 : Bool) {v : Option Value} {u : uS} (h : xX4_train S N1 x1 b1 = .inl (v, u)) : ∃ b : Bool, v = some (.int (bI b)) := by
  unfold xX4_train at h
  repeat' split at h
  all_goals first | (cases h; done) | (cases h; exact ⟨_, rfl⟩)
abbrev rmL_train : Room := { frames := 8, cells := 2, slots := 12, locals := 124 }
set_option maxHeartbeats 4000000 in
set_option maxRecDepth 100000 in
theorem cLc_train (l : Launch) (hlt : l.stackTraces = false) (G : gG) (Z : va_W) (S : uS) (f : Nat → Int64) (N1 : Nat) (h_N1 : S.1 0 0 13 = nI N1) (h_N1b : N1 < 2 ^ 31) (x1 : Int32) (b1 : Bool) : kMetO l yL_train wsL_train rmL_train G Z S f [.ref (G.2.2 (0, 0)), .int (x1), .int (bI (b1)), .ref (G.2.2 (14, 0))] cdA (xX4_train S N1 x1 b1) 2 12 := by
  refine kMetO_of (cc := cL_train) (maxL := 5) (hh := [(0, 17, 20, 13), (0, 17, 24, 19)]) (by decide) rfl (Nat.le_of_ble_eq_true rfl) ?_
  intro p e s m below meth c hx hb hr hml hlocks htab hts hown hK hN A hZ hA H locs hw ls hl
  have hl : lv_has ls 5 [(0, .ref (G.2.2 (0, 0))), (1, .int (x1)), (2, .int (bI (b1))), (3, .ref (G.2.2 (14, 0)))] := hl
  refine lv_aload_n hx hb dL_train_0 rfl (lv_at hl 3 rfl) ?_
  refine lv_iconst (v := 0) hx hb dL_train_1 (by decide) ?_
  refine lv_aload_n hx hb dL_train_2 rfl (lv_at hl 0 rfl) ?_
  refine lv_iload_n hx hb dL_train_3 rfl (lv_at hl 1 rfl) ?_
  refine lv_iload_n hx hb dL_train_4 rfl (lv_at hl 2 rfl) ?_
  refine kx_callV (C := RX4) (n := 2) (mc0 := 2) (ms0 := 12) (rest := [.int 0, .ref (G.2.2 (14, 0))]) ⟨hx, hb, hml, hown, hts⟩ (cX4c_train l hlt G (kO G f :: Z) S N1 h_N1 h_N1b x1 b1) (cwV 2 hts gL_train_X4_train rfl rfl rfl (by decide +kernel) ⟨Nat.le_of_ble_eq_true rfl, Nat.le_of_ble_eq_true rfl⟩) (k_recv hK hw kC_0 rfl rfl) hK hN hZ hA hw (Nat.le_of_ble_eq_true rfl) (Nat.le_of_ble_eq_true rfl) rfl hl.1 rfl (Nat.le_of_ble_eq_true rfl) dL_train_5 (fun E hE q9 ce H locs hw hce hcv hcl => ?_) (fun v u hvu H locs hw => ?_)
  · obtain ⟨h0, h1, h2, h3, h4, h5, h6, h7, h8, g1, g2, g3, d1, d2, d3⟩ := id hN
    rcases tX4_train S N1 x1 b1 hE with rfl | rfl
    · refine vx_catch (own := RL) (name := "java/lang/IllegalArgumentException") (E := "java/lang/IllegalArgumentException") hown [] ⟨0, 17, 20, 13⟩ [⟨0, 17, 24, 19⟩] (by rw [htab]; rfl) (fun z hz => nomatch hz) (by decide) (by decide) (hts (.classLink RL 13 "java/lang/IllegalArgumentException") (by decide +kernel)) (g1.use rfl) hce hcv hcl ?_
      refine W.eq (g2 := F0 m 20 ls [.ref q9]) rfl ?_
      refine lv_astore (lv' := [(4, .ref q9), (0, .ref (G.2.2 (0, 0))), (1, .int (x1)), (2, .int (bI (b1))), (3, .ref (G.2.2 (14, 0)))]) hx hb dL_train_20 hl (by decide) rfl (fun ls hl => ?_)
      refine lv_iconst (v := 1) hx hb dL_train_22 (by decide) ?_
      exact ko_ret hx hb hr hlocks hK hw (by rw [hE]; decide) (by rw [hE]; rfl) (by rw [hE]; rfl) (Nat.le_of_ble_eq_true rfl) (Nat.le_of_ble_eq_true rfl) dL_train_23
    · refine vx_catch (own := RL) (name := "java/lang/IllegalStateException") (E := "java/lang/IllegalStateException") hown [⟨0, 17, 20, 13⟩] ⟨0, 17, 24, 19⟩ [] (by rw [htab]; rfl) (fun z hz => by cases List.mem_singleton.mp hz; exact Or.inr ⟨by decide, "java/lang/IllegalArgumentException", hts (.classLink RL 13 "java/lang/IllegalArgumentException") (by decide +kernel), h7⟩) (by decide) (by decide) (hts (.classLink RL 19 "java/lang/IllegalStateException") (by decide +kernel)) (g2.use rfl) hce hcv hcl ?_
      refine W.eq (g2 := F0 m 24 ls [.ref q9]) rfl ?_
      refine lv_astore (lv' := [(4, .ref q9), (0, .ref (G.2.2 (0, 0))), (1, .int (x1)), (2, .int (bI (b1))), (3, .ref (G.2.2 (14, 0)))]) hx hb dL_train_24 hl (by decide) rfl (fun ls hl => ?_)
      refine lv_iconst (v := 2) hx hb dL_train_26 (by decide) ?_
      exact ko_ret hx hb hr hlocks hK hw (by rw [hE]; decide) (by rw [hE]; rfl) (by rw [hE]; rfl) (Nat.le_of_ble_eq_true rfl) (Nat.le_of_ble_eq_true rfl) dL_train_27
  obtain ⟨i, rfl⟩ := vX4_train S N1 x1 b1 hvu
  refine W.eq (g2 := F0 m 8 ls [.int (bI i), .int 0, .ref (G.2.2 (14, 0))]) rfl ?_
  refine k_if_eq (b := i) (tgt := 15) hx hb dL_train_8 (by decide) (fun c_1 => ?_) (fun c_1 => ?_)
  · cases c_1
    refine lv_lconst (v := 0) hx hb dL_train_15 (by decide) ?_
    refine ko_st (x := 0) hx hb hK hw dL_train_16 (fun H locs hw => ?_)
    refine lv_goto (tgt := 28) hx hb dL_train_17 (by decide) ?_
    refine lv_iconst (v := 0) hx hb dL_train_28 (by decide) ?_
    exact ko_ret hx hb hr hlocks hK hw (by rw [hvu]; rfl) (by rw [hvu]; rfl) (by rw [hvu]; rfl) (Nat.le_of_ble_eq_true rfl) (Nat.le_of_ble_eq_true rfl) dL_train_29
  · cases (Bool.not_eq_false _).mp c_1
    refine lv_lconst (v := 1) hx hb dL_train_11 (by decide) ?_
    refine lv_goto (tgt := 16) hx hb dL_train_12 (by decide) ?_
    refine ko_st (x := 1) hx hb hK hw dL_train_16 (fun H locs hw => ?_)
    refine lv_goto (tgt := 28) hx hb dL_train_17 (by decide) ?_
    refine lv_iconst (v := 0) hx hb dL_train_28 (by decide) ?_
    exact ko_ret hx hb hr hlocks hK hw (by rw [hvu]; rfl) (by rw [hvu]; rfl) (by rw [hvu]; rfl) (Nat.le_of_ble_eq_true rfl) (Nat.le_of_ble_eq_true rfl) dL_train_29
theorem tX4_flush (S : uS) (x1 : Int32) {E : String} (h : xX4_flush S x1 = .inr E) : E = "java/lang/IllegalArgumentException" := by
  unfold xX4_flush at h
  repeat' split at h
  all_goals first | (cases h; done) | (cases h; exact rfl)
theorem vX4_flush (S : uS) (x1 : Int32) {v : Option Value} {u : uS} (h : xX4_flush S x1 = .inl (v, u)) : ∃ i : Int32, v = some (.int i) := by
  unfold xX4_flush at h
  repeat' split at h
  all_goals first | (cases h; done) | (cases h; exact ⟨_, rfl⟩)
abbrev rmL_flush : Room := { frames := 7, cells := 1, slots := 6, locals := 104 }
set_option maxHeartbeats 4000000 in
set_option maxRecDepth 100000 in
theorem cLc_flush (l : Launch) (hlt : l.stackTraces = false) (G : gG) (Z : va_W) (S : uS) (f : Nat → Int64) (x1 : Int32) : kMetO l yL_flush wsL_flush rmL_flush G Z S f [.ref (G.2.2 (0, 0)), .int (x1), .ref (G.2.2 (14, 0))] cd1 (xX4_flush S x1) 1 6 := by
  refine kMetO_of (cc := cL_flush) (maxL := 4) (hh := [(0, 9, 12, 13)]) (by decide) rfl (Nat.le_of_ble_eq_true rfl) ?_
  intro p e s m below meth c hx hb hr hml hlocks htab hts hown hK hN A hZ hA H locs hw ls hl
  have hl : lv_has ls 4 [(0, .ref (G.2.2 (0, 0))), (1, .int (x1)), (2, .ref (G.2.2 (14, 0)))] := hl
  refine lv_aload_n hx hb dL_flush_0 rfl (lv_at hl 2 rfl) ?_
  refine lv_iconst (v := 0) hx hb dL_flush_1 (by decide) ?_
  refine lv_aload_n hx hb dL_flush_2 rfl (lv_at hl 0 rfl) ?_
  refine lv_iload_n hx hb dL_flush_3 rfl (lv_at hl 1 rfl) ?_
  refine kx_callV (C := RX4) (n := 1) (mc0 := 1) (ms0 := 6) (rest := [.int 0, .ref (G.2.2 (14, 0))]) ⟨hx, hb, hml, hown, hts⟩ (cX4c_flush l hlt G (kO G f :: Z) S x1) (cwV 1 hts gL_flush_X4_flush rfl rfl rfl (by decide +kernel) ⟨Nat.le_of_ble_eq_true rfl, Nat.le_of_ble_eq_true rfl⟩) (k_recv hK hw kC_0 rfl rfl) hK hN hZ hA hw (Nat.le_of_ble_eq_true rfl) (Nat.le_of_ble_eq_true rfl) rfl hl.1 rfl (Nat.le_of_ble_eq_true rfl) dL_flush_4 (fun E hE q9 ce H locs hw hce hcv hcl => ?_) (fun v u hvu H locs hw => ?_)
  · obtain ⟨h0, h1, h2, h3, h4, h5, h6, h7, h8, g1, g2, g3, d1, d2, d3⟩ := id hN
    obtain rfl := tX4_flush S x1 hE
    refine vx_catch (own := RL) (name := "java/lang/IllegalArgumentException") (E := "java/lang/IllegalArgumentException") hown [] ⟨0, 9, 12, 13⟩ [] (by rw [htab]; rfl) (fun z hz => nomatch hz) (by decide) (by decide) (hts (.classLink RL 13 "java/lang/IllegalArgumentException") (by decide +kernel)) (g1.use rfl) hce hcv hcl ?_
    refine W.eq (g2 := F0 m 12 ls [.ref q9]) rfl ?_
    refine lv_astore_n (lv' := [(3, .ref q9), (0, .ref (G.2.2 (0, 0))), (1, .int (x1)), (2, .ref (G.2.2 (14, 0)))]) hx hb dL_flush_12 rfl hl (by decide) rfl (fun ls hl => ?_)
    refine lv_iconst (v := 1) hx hb dL_flush_13 (by decide) ?_
    exact ko_ret hx hb hr hlocks hK hw (by rw [hE]; decide) (by rw [hE]; rfl) (by rw [hE]; rfl) (Nat.le_of_ble_eq_true rfl) (Nat.le_of_ble_eq_true rfl) dL_flush_14
  obtain ⟨i, rfl⟩ := vX4_flush S x1 hvu
  refine W.eq (g2 := F0 m 7 ls [.int i, .int 0, .ref (G.2.2 (14, 0))]) rfl ?_
  refine lv_i2l (v := i.toInt64) hx hb dL_flush_7 rfl ?_
  refine ko_st (x := i.toInt64) hx hb hK hw dL_flush_8 (fun H locs hw => ?_)
  refine lv_goto (tgt := 15) hx hb dL_flush_9 (by decide) ?_
  refine lv_iconst (v := 0) hx hb dL_flush_15 (by decide) ?_
  exact ko_ret hx hb hr hlocks hK hw (by rw [hvu]; rfl) (by rw [hvu]; rfl) (by rw [hvu]; rfl) (Nat.le_of_ble_eq_true rfl) (Nat.le_of_ble_eq_true rfl) dL_flush_16
theorem tX4_place (S : uS) (x1 : Int32) {E : String} (h : xX4_place S x1 = .inr E) : E = "java/lang/IndexOutOfBoundsException" := by
  unfold xX4_place at h
  repeat' split at h
  all_goals first | (cases h; done) | (cases h; exact rfl)
theorem vX4_place (S : uS) (x1 : Int32) {v : Option Value} {u : uS} (h : xX4_place S x1 = .inl (v, u)) : ∃ i : Int32, v = some (.int i) := by
  unfold xX4_place at h
  repeat' split at h
  all_goals first | (cases h; done) | (cases h; exact ⟨_, rfl⟩)
abbrev rmL_place : Room := { frames := 8, cells := 1, slots := 6, locals := 124 }
set_option maxHeartbeats 4000000 in
set_option maxRecDepth 100000 in
theorem cLc_place (l : Launch) (hlt : l.stackTraces = false) (G : gG) (Z : va_W) (S : uS) (f : Nat → Int64) (x1 : Int32) : kMetO l yL_place wsL_place rmL_place G Z S f [.ref (G.2.2 (0, 0)), .int (x1), .ref (G.2.2 (14, 0))] cd1 (xX4_place S x1) 1 6 := by
  refine kMetO_of (cc := cL_place) (maxL := 4) (hh := [(0, 9, 12, 25)]) (by decide) rfl (Nat.le_of_ble_eq_true rfl) ?_
  intro p e s m below meth c hx hb hr hml hlocks htab hts hown hK hN A hZ hA H locs hw ls hl
  have hl : lv_has ls 4 [(0, .ref (G.2.2 (0, 0))), (1, .int (x1)), (2, .ref (G.2.2 (14, 0)))] := hl
  refine lv_aload_n hx hb dL_place_0 rfl (lv_at hl 2 rfl) ?_
  refine lv_iconst (v := 0) hx hb dL_place_1 (by decide) ?_
  refine lv_aload_n hx hb dL_place_2 rfl (lv_at hl 0 rfl) ?_
  refine lv_iload_n hx hb dL_place_3 rfl (lv_at hl 1 rfl) ?_
  refine kx_callV (C := RX4) (n := 1) (mc0 := 1) (ms0 := 6) (rest := [.int 0, .ref (G.2.2 (14, 0))]) ⟨hx, hb, hml, hown, hts⟩ (cX4c_place l hlt G (kO G f :: Z) S x1) (cwV 1 hts gL_place_X4_place rfl rfl rfl (by decide +kernel) ⟨Nat.le_of_ble_eq_true rfl, Nat.le_of_ble_eq_true rfl⟩) (k_recv hK hw kC_0 rfl rfl) hK hN hZ hA hw (Nat.le_of_ble_eq_true rfl) (Nat.le_of_ble_eq_true rfl) rfl hl.1 rfl (Nat.le_of_ble_eq_true rfl) dL_place_4 (fun E hE q9 ce H locs hw hce hcv hcl => ?_) (fun v u hvu H locs hw => ?_)
  · obtain ⟨h0, h1, h2, h3, h4, h5, h6, h7, h8, g1, g2, g3, d1, d2, d3⟩ := id hN
    obtain rfl := tX4_place S x1 hE
    refine vx_catch (own := RL) (name := "java/lang/IndexOutOfBoundsException") (E := "java/lang/IndexOutOfBoundsException") hown [] ⟨0, 9, 12, 25⟩ [] (by rw [htab]; rfl) (fun z hz => nomatch hz) (by decide) (by decide) (hts (.classLink RL 25 "java/lang/IndexOutOfBoundsException") (by decide +kernel)) (g3.use rfl) hce hcv hcl ?_
    refine W.eq (g2 := F0 m 12 ls [.ref q9]) rfl ?_
    refine lv_astore_n (lv' := [(3, .ref q9), (0, .ref (G.2.2 (0, 0))), (1, .int (x1)), (2, .ref (G.2.2 (14, 0)))]) hx hb dL_place_12 rfl hl (by decide) rfl (fun ls hl => ?_)
    refine lv_iconst (v := 1) hx hb dL_place_13 (by decide) ?_
    exact ko_ret hx hb hr hlocks hK hw (by rw [hE]; decide) (by rw [hE]; rfl) (by rw [hE]; rfl) (Nat.le_of_ble_eq_true rfl) (Nat.le_of_ble_eq_true rfl) dL_place_14
  obtain ⟨i, rfl⟩ := vX4_place S x1 hvu
  refine W.eq (g2 := F0 m 7 ls [.int i, .int 0, .ref (G.2.2 (14, 0))]) rfl ?_
  refine lv_i2l (v := i.toInt64) hx hb dL_place_7 rfl ?_
  refine ko_st (x := i.toInt64) hx hb hK hw dL_place_8 (fun H locs hw => ?_)
  refine lv_goto (tgt := 15) hx hb dL_place_9 (by decide) ?_
  refine lv_iconst (v := 0) hx hb dL_place_15 (by decide) ?_
  exact ko_ret hx hb hr hlocks hK hw (by rw [hvu]; rfl) (by rw [hvu]; rfl) (by rw [hvu]; rfl) (Nat.le_of_ble_eq_true rfl) (Nat.le_of_ble_eq_true rfl) dL_place_16
theorem tX4_state (S : uS) (x1 : Int32) {E : String} (h : xX4_state S x1 = .inr E) : E = "java/lang/IndexOutOfBoundsException" := by
  unfold xX4_state at h
  repeat' split at h
  all_goals first | (cases h; done) | (cases h; exact rfl)
theorem vX4_state (S : uS) (x1 : Int32) {v : Option Value} {u : uS} (h : xX4_state S x1 = .inl (v, u)) : ∃ i : Int32, v = some (.int i) := by
  unfold xX4_state at h
  repeat' split at h
  all_goals first | (cases h; done) | (cases h; exact ⟨_, rfl⟩)
abbrev rmL_state : Room := { frames := 8, cells := 1, slots := 6, locals := 124 }
set_option maxHeartbeats 4000000 in
set_option maxRecDepth 100000 in
theorem cLc_state (l : Launch) (hlt : l.stackTraces = false) (G : gG) (Z : va_W) (S : uS) (f : Nat → Int64) (x1 : Int32) : kMetO l yL_state wsL_state rmL_state G Z S f [.ref (G.2.2 (0, 0)), .int (x1), .ref (G.2.2 (14, 0))] cd1 (xX4_state S x1) 1 6 := by
  refine kMetO_of (cc := cL_state) (maxL := 4) (hh := [(0, 9, 12, 25)]) (by decide) rfl (Nat.le_of_ble_eq_true rfl) ?_
  intro p e s m below meth c hx hb hr hml hlocks htab hts hown hK hN A hZ hA H locs hw ls hl
  have hl : lv_has ls 4 [(0, .ref (G.2.2 (0, 0))), (1, .int (x1)), (2, .ref (G.2.2 (14, 0)))] := hl
  refine lv_aload_n hx hb dL_state_0 rfl (lv_at hl 2 rfl) ?_
  refine lv_iconst (v := 0) hx hb dL_state_1 (by decide) ?_
  refine lv_aload_n hx hb dL_state_2 rfl (lv_at hl 0 rfl) ?_
  refine lv_iload_n hx hb dL_state_3 rfl (lv_at hl 1 rfl) ?_
  refine kx_callV (C := RX4) (n := 1) (mc0 := 1) (ms0 := 6) (rest := [.int 0, .ref (G.2.2 (14, 0))]) ⟨hx, hb, hml, hown, hts⟩ (cX4c_state l hlt G (kO G f :: Z) S x1) (cwV 1 hts gL_state_X4_state rfl rfl rfl (by decide +kernel) ⟨Nat.le_of_ble_eq_true rfl, Nat.le_of_ble_eq_true rfl⟩) (k_recv hK hw kC_0 rfl rfl) hK hN hZ hA hw (Nat.le_of_ble_eq_true rfl) (Nat.le_of_ble_eq_true rfl) rfl hl.1 rfl (Nat.le_of_ble_eq_true rfl) dL_state_4 (fun E hE q9 ce H locs hw hce hcv hcl => ?_) (fun v u hvu H locs hw => ?_)
  · obtain ⟨h0, h1, h2, h3, h4, h5, h6, h7, h8, g1, g2, g3, d1, d2, d3⟩ := id hN
    obtain rfl := tX4_state S x1 hE
    refine vx_catch (own := RL) (name := "java/lang/IndexOutOfBoundsException") (E := "java/lang/IndexOutOfBoundsException") hown [] ⟨0, 9, 12, 25⟩ [] (by rw [htab]; rfl) (fun z hz => nomatch hz) (by decide) (by decide) (hts (.classLink RL 25 "java/lang/IndexOutOfBoundsException") (by decide +kernel)) (g3.use rfl) hce hcv hcl ?_
    refine W.eq (g2 := F0 m 12 ls [.ref q9]) rfl ?_
    refine lv_astore_n (lv' := [(3, .ref q9), (0, .ref (G.2.2 (0, 0))), (1, .int (x1)), (2, .ref (G.2.2 (14, 0)))]) hx hb dL_state_12 rfl hl (by decide) rfl (fun ls hl => ?_)
    refine lv_iconst (v := 1) hx hb dL_state_13 (by decide) ?_
    exact ko_ret hx hb hr hlocks hK hw (by rw [hE]; decide) (by rw [hE]; rfl) (by rw [hE]; rfl) (Nat.le_of_ble_eq_true rfl) (Nat.le_of_ble_eq_true rfl) dL_state_14
  obtain ⟨i, rfl⟩ := vX4_state S x1 hvu
  refine W.eq (g2 := F0 m 7 ls [.int i, .int 0, .ref (G.2.2 (14, 0))]) rfl ?_
  refine lv_i2l (v := i.toInt64) hx hb dL_state_7 rfl ?_
  refine ko_st (x := i.toInt64) hx hb hK hw dL_state_8 (fun H locs hw => ?_)
  refine lv_goto (tgt := 15) hx hb dL_state_9 (by decide) ?_
  refine lv_iconst (v := 0) hx hb dL_state_15 (by decide) ?_
  exact ko_ret hx hb hr hlocks hK hw (by rw [hvu]; rfl) (by rw [hvu]; rfl) (by rw [hvu]; rfl) (Nat.le_of_ble_eq_true rfl) (Nat.le_of_ble_eq_true rfl) dL_state_16
theorem tX4_predicted (S : uS) (x1 : Int32) (x2 : Int32) {E : String} (h : xX4_predicted S x1 x2 = .inr E) : E = "java/lang/IndexOutOfBoundsException" := by
  unfold xX4_predicted at h
  repeat' split at h
  all_goals first | (cases h; done) | (cases h; exact rfl)
theorem vX4_predicted (S : uS) (x1 : Int32) (x2 : Int32) {v : Option Value} {u : uS} (h : xX4_predicted S x1 x2 = .inl (v, u)) : ∃ b : Bool, v = some (.int (bI b)) := by
  unfold xX4_predicted at h
  repeat' split at h
  all_goals first | (cases h; done) | (cases h; exact ⟨_, rfl⟩)
abbrev rmL_predicted : Room := { frames := 8, cells := 2, slots := 12, locals := 125 }
set_option maxHeartbeats 4000000 in
set_option maxRecDepth 100000 in
theorem cLc_predicted (l : Launch) (hlt : l.stackTraces = false) (G : gG) (Z : va_W) (S : uS) (f : Nat → Int64) (x1 : Int32) (x2 : Int32) : kMetO l yL_predicted wsL_predicted rmL_predicted G Z S f [.ref (G.2.2 (0, 0)), .int (x1), .int (x2), .ref (G.2.2 (14, 0))] cd1 (xX4_predicted S x1 x2) 2 12 := by
  refine kMetO_of (cc := cL_predicted) (maxL := 5) (hh := [(0, 17, 20, 25)]) (by decide) rfl (Nat.le_of_ble_eq_true rfl) ?_
  intro p e s m below meth c hx hb hr hml hlocks htab hts hown hK hN A hZ hA H locs hw ls hl
  have hl : lv_has ls 5 [(0, .ref (G.2.2 (0, 0))), (1, .int (x1)), (2, .int (x2)), (3, .ref (G.2.2 (14, 0)))] := hl
  refine lv_aload_n hx hb dL_predicted_0 rfl (lv_at hl 3 rfl) ?_
  refine lv_iconst (v := 0) hx hb dL_predicted_1 (by decide) ?_
  refine lv_aload_n hx hb dL_predicted_2 rfl (lv_at hl 0 rfl) ?_
  refine lv_iload_n hx hb dL_predicted_3 rfl (lv_at hl 1 rfl) ?_
  refine lv_iload_n hx hb dL_predicted_4 rfl (lv_at hl 2 rfl) ?_
  refine kx_callV (C := RX4) (n := 2) (mc0 := 2) (ms0 := 12) (rest := [.int 0, .ref (G.2.2 (14, 0))]) ⟨hx, hb, hml, hown, hts⟩ (cX4c_predicted l hlt G (kO G f :: Z) S x1 x2) (cwV 2 hts gL_predicted_X4_predicted rfl rfl rfl (by decide +kernel) ⟨Nat.le_of_ble_eq_true rfl, Nat.le_of_ble_eq_true rfl⟩) (k_recv hK hw kC_0 rfl rfl) hK hN hZ hA hw (Nat.le_of_ble_eq_true rfl) (Nat.le_of_ble_eq_true rfl) rfl hl.1 rfl (Nat.le_of_ble_eq_true rfl) dL_predicted_5 (fun E hE q9 ce H locs hw hce hcv hcl => ?_) (fun v u hvu H locs hw => ?_)
  · obtain ⟨h0, h1, h2, h3, h4, h5, h6, h7, h8, g1, g2, g3, d1, d2, d3⟩ := id hN
    obtain rfl := tX4_predicted S x1 x2 hE
    refine vx_catch (own := RL) (name := "java/lang/IndexOutOfBoundsException") (E := "java/lang/IndexOutOfBoundsException") hown [] ⟨0, 17, 20, 25⟩ [] (by rw [htab]; rfl) (fun z hz => nomatch hz) (by decide) (by decide) (hts (.classLink RL 25 "java/lang/IndexOutOfBoundsException") (by decide +kernel)) (g3.use rfl) hce hcv hcl ?_
    refine W.eq (g2 := F0 m 20 ls [.ref q9]) rfl ?_
    refine lv_astore (lv' := [(4, .ref q9), (0, .ref (G.2.2 (0, 0))), (1, .int (x1)), (2, .int (x2)), (3, .ref (G.2.2 (14, 0)))]) hx hb dL_predicted_20 hl (by decide) rfl (fun ls hl => ?_)
    refine lv_iconst (v := 1) hx hb dL_predicted_22 (by decide) ?_
    exact ko_ret hx hb hr hlocks hK hw (by rw [hE]; decide) (by rw [hE]; rfl) (by rw [hE]; rfl) (Nat.le_of_ble_eq_true rfl) (Nat.le_of_ble_eq_true rfl) dL_predicted_23
  obtain ⟨i, rfl⟩ := vX4_predicted S x1 x2 hvu
  refine W.eq (g2 := F0 m 8 ls [.int (bI i), .int 0, .ref (G.2.2 (14, 0))]) rfl ?_
  refine k_if_eq (b := i) (tgt := 15) hx hb dL_predicted_8 (by decide) (fun c_1 => ?_) (fun c_1 => ?_)
  · cases c_1
    refine lv_lconst (v := 0) hx hb dL_predicted_15 (by decide) ?_
    refine ko_st (x := 0) hx hb hK hw dL_predicted_16 (fun H locs hw => ?_)
    refine lv_goto (tgt := 24) hx hb dL_predicted_17 (by decide) ?_
    refine lv_iconst (v := 0) hx hb dL_predicted_24 (by decide) ?_
    exact ko_ret hx hb hr hlocks hK hw (by rw [hvu]; rfl) (by rw [hvu]; rfl) (by rw [hvu]; rfl) (Nat.le_of_ble_eq_true rfl) (Nat.le_of_ble_eq_true rfl) dL_predicted_25
  · cases (Bool.not_eq_false _).mp c_1
    refine lv_lconst (v := 1) hx hb dL_predicted_11 (by decide) ?_
    refine lv_goto (tgt := 16) hx hb dL_predicted_12 (by decide) ?_
    refine ko_st (x := 1) hx hb hK hw dL_predicted_16 (fun H locs hw => ?_)
    refine lv_goto (tgt := 24) hx hb dL_predicted_17 (by decide) ?_
    refine lv_iconst (v := 0) hx hb dL_predicted_24 (by decide) ?_
    exact ko_ret hx hb hr hlocks hK hw (by rw [hvu]; rfl) (by rw [hvu]; rfl) (by rw [hvu]; rfl) (Nat.le_of_ble_eq_true rfl) (Nat.le_of_ble_eq_true rfl) dL_predicted_25
theorem tX4_counter (S : uS) (x1 : Int32) (x2 : Int32) {E : String} (h : xX4_counter S x1 x2 = .inr E) : E = "java/lang/IndexOutOfBoundsException" := by
  unfold xX4_counter at h
  repeat' split at h
  all_goals first | (cases h; done) | (cases h; exact rfl)
theorem vX4_counter (S : uS) (x1 : Int32) (x2 : Int32) {v : Option Value} {u : uS} (h : xX4_counter S x1 x2 = .inl (v, u)) : ∃ i : Int32, v = some (.int i) := by
  unfold xX4_counter at h
  repeat' split at h
  all_goals first | (cases h; done) | (cases h; exact ⟨_, rfl⟩)
abbrev rmL_counter : Room := { frames := 7, cells := 1, slots := 6, locals := 105 }
set_option maxHeartbeats 4000000 in
set_option maxRecDepth 100000 in
theorem cLc_counter (l : Launch) (hlt : l.stackTraces = false) (G : gG) (Z : va_W) (S : uS) (f : Nat → Int64) (x1 : Int32) (x2 : Int32) : kMetO l yL_counter wsL_counter rmL_counter G Z S f [.ref (G.2.2 (0, 0)), .int (x1), .int (x2), .ref (G.2.2 (14, 0))] cd1 (xX4_counter S x1 x2) 1 6 := by
  refine kMetO_of (cc := cL_counter) (maxL := 5) (hh := [(0, 10, 13, 25)]) (by decide) rfl (Nat.le_of_ble_eq_true rfl) ?_
  intro p e s m below meth c hx hb hr hml hlocks htab hts hown hK hN A hZ hA H locs hw ls hl
  have hl : lv_has ls 5 [(0, .ref (G.2.2 (0, 0))), (1, .int (x1)), (2, .int (x2)), (3, .ref (G.2.2 (14, 0)))] := hl
  refine lv_aload_n hx hb dL_counter_0 rfl (lv_at hl 3 rfl) ?_
  refine lv_iconst (v := 0) hx hb dL_counter_1 (by decide) ?_
  refine lv_aload_n hx hb dL_counter_2 rfl (lv_at hl 0 rfl) ?_
  refine lv_iload_n hx hb dL_counter_3 rfl (lv_at hl 1 rfl) ?_
  refine lv_iload_n hx hb dL_counter_4 rfl (lv_at hl 2 rfl) ?_
  refine kx_callV (C := RX4) (n := 2) (mc0 := 1) (ms0 := 6) (rest := [.int 0, .ref (G.2.2 (14, 0))]) ⟨hx, hb, hml, hown, hts⟩ (cX4c_counter l hlt G (kO G f :: Z) S x1 x2) (cwV 2 hts gL_counter_X4_counter rfl rfl rfl (by decide +kernel) ⟨Nat.le_of_ble_eq_true rfl, Nat.le_of_ble_eq_true rfl⟩) (k_recv hK hw kC_0 rfl rfl) hK hN hZ hA hw (Nat.le_of_ble_eq_true rfl) (Nat.le_of_ble_eq_true rfl) rfl hl.1 rfl (Nat.le_of_ble_eq_true rfl) dL_counter_5 (fun E hE q9 ce H locs hw hce hcv hcl => ?_) (fun v u hvu H locs hw => ?_)
  · obtain ⟨h0, h1, h2, h3, h4, h5, h6, h7, h8, g1, g2, g3, d1, d2, d3⟩ := id hN
    obtain rfl := tX4_counter S x1 x2 hE
    refine vx_catch (own := RL) (name := "java/lang/IndexOutOfBoundsException") (E := "java/lang/IndexOutOfBoundsException") hown [] ⟨0, 10, 13, 25⟩ [] (by rw [htab]; rfl) (fun z hz => nomatch hz) (by decide) (by decide) (hts (.classLink RL 25 "java/lang/IndexOutOfBoundsException") (by decide +kernel)) (g3.use rfl) hce hcv hcl ?_
    refine W.eq (g2 := F0 m 13 ls [.ref q9]) rfl ?_
    refine lv_astore (lv' := [(4, .ref q9), (0, .ref (G.2.2 (0, 0))), (1, .int (x1)), (2, .int (x2)), (3, .ref (G.2.2 (14, 0)))]) hx hb dL_counter_13 hl (by decide) rfl (fun ls hl => ?_)
    refine lv_iconst (v := 1) hx hb dL_counter_15 (by decide) ?_
    exact ko_ret hx hb hr hlocks hK hw (by rw [hE]; decide) (by rw [hE]; rfl) (by rw [hE]; rfl) (Nat.le_of_ble_eq_true rfl) (Nat.le_of_ble_eq_true rfl) dL_counter_16
  obtain ⟨i, rfl⟩ := vX4_counter S x1 x2 hvu
  refine W.eq (g2 := F0 m 8 ls [.int i, .int 0, .ref (G.2.2 (14, 0))]) rfl ?_
  refine lv_i2l (v := i.toInt64) hx hb dL_counter_8 rfl ?_
  refine ko_st (x := i.toInt64) hx hb hK hw dL_counter_9 (fun H locs hw => ?_)
  refine lv_goto (tgt := 17) hx hb dL_counter_10 (by decide) ?_
  refine lv_iconst (v := 0) hx hb dL_counter_17 (by decide) ?_
  exact ko_ret hx hb hr hlocks hK hw (by rw [hvu]; rfl) (by rw [hvu]; rfl) (by rw [hvu]; rfl) (Nat.le_of_ble_eq_true rfl) (Nat.le_of_ble_eq_true rfl) dL_counter_18
theorem tX4_loop (S : uS) (N1 : Nat) (x1 : Int32) (x2 : Int32) {E : String} (h : xX4_loop S N1 x1 x2 = .inr E) : E = "java/lang/IndexOutOfBoundsException" := by
  unfold xX4_loop at h
  repeat' split at h
  all_goals first | (cases h; done) | (cases h; exact rfl)
theorem vX4_loop (S : uS) (N1 : Nat) (x1 : Int32) (x2 : Int32) {v : Option Value} {u : uS} (h : xX4_loop S N1 x1 x2 = .inl (v, u)) : ∃ i : Int32, v = some (.int i) := by
  unfold xX4_loop at h
  repeat' split at h
  all_goals first | (cases h; done) | (cases h; exact ⟨_, rfl⟩)
abbrev rmL_loop : Room := { frames := 7, cells := 1, slots := 6, locals := 105 }
set_option maxHeartbeats 4000000 in
set_option maxRecDepth 100000 in
theorem cLc_loop (l : Launch) (hlt : l.stackTraces = false) (G : gG) (Z : va_W) (S : uS) (f : Nat → Int64) (N1 : Nat) (h_N1 : S.1 0 0 13 = nI N1) (h_N1b : N1 < 2 ^ 31) (x1 : Int32) (x2 : Int32) : kMetO l yL_loop wsL_loop rmL_loop G Z S f [.ref (G.2.2 (0, 0)), .int (x1), .int (x2), .ref (G.2.2 (14, 0))] cd1 (xX4_loop S N1 x1 x2) 1 6 := by
  refine kMetO_of (cc := cL_loop) (maxL := 5) (hh := [(0, 10, 13, 25)]) (by decide) rfl (Nat.le_of_ble_eq_true rfl) ?_
  intro p e s m below meth c hx hb hr hml hlocks htab hts hown hK hN A hZ hA H locs hw ls hl
  have hl : lv_has ls 5 [(0, .ref (G.2.2 (0, 0))), (1, .int (x1)), (2, .int (x2)), (3, .ref (G.2.2 (14, 0)))] := hl
  refine lv_aload_n hx hb dL_loop_0 rfl (lv_at hl 3 rfl) ?_
  refine lv_iconst (v := 0) hx hb dL_loop_1 (by decide) ?_
  refine lv_aload_n hx hb dL_loop_2 rfl (lv_at hl 0 rfl) ?_
  refine lv_iload_n hx hb dL_loop_3 rfl (lv_at hl 1 rfl) ?_
  refine lv_iload_n hx hb dL_loop_4 rfl (lv_at hl 2 rfl) ?_
  refine kx_callV (C := RX4) (n := 2) (mc0 := 1) (ms0 := 6) (rest := [.int 0, .ref (G.2.2 (14, 0))]) ⟨hx, hb, hml, hown, hts⟩ (cX4c_loop l hlt G (kO G f :: Z) S N1 h_N1 h_N1b x1 x2) (cwV 2 hts gL_loop_X4_loop rfl rfl rfl (by decide +kernel) ⟨Nat.le_of_ble_eq_true rfl, Nat.le_of_ble_eq_true rfl⟩) (k_recv hK hw kC_0 rfl rfl) hK hN hZ hA hw (Nat.le_of_ble_eq_true rfl) (Nat.le_of_ble_eq_true rfl) rfl hl.1 rfl (Nat.le_of_ble_eq_true rfl) dL_loop_5 (fun E hE q9 ce H locs hw hce hcv hcl => ?_) (fun v u hvu H locs hw => ?_)
  · obtain ⟨h0, h1, h2, h3, h4, h5, h6, h7, h8, g1, g2, g3, d1, d2, d3⟩ := id hN
    obtain rfl := tX4_loop S N1 x1 x2 hE
    refine vx_catch (own := RL) (name := "java/lang/IndexOutOfBoundsException") (E := "java/lang/IndexOutOfBoundsException") hown [] ⟨0, 10, 13, 25⟩ [] (by rw [htab]; rfl) (fun z hz => nomatch hz) (by decide) (by decide) (hts (.classLink RL 25 "java/lang/IndexOutOfBoundsException") (by decide +kernel)) (g3.use rfl) hce hcv hcl ?_
    refine W.eq (g2 := F0 m 13 ls [.ref q9]) rfl ?_
    refine lv_astore (lv' := [(4, .ref q9), (0, .ref (G.2.2 (0, 0))), (1, .int (x1)), (2, .int (x2)), (3, .ref (G.2.2 (14, 0)))]) hx hb dL_loop_13 hl (by decide) rfl (fun ls hl => ?_)
    refine lv_iconst (v := 1) hx hb dL_loop_15 (by decide) ?_
    exact ko_ret hx hb hr hlocks hK hw (by rw [hE]; decide) (by rw [hE]; rfl) (by rw [hE]; rfl) (Nat.le_of_ble_eq_true rfl) (Nat.le_of_ble_eq_true rfl) dL_loop_16
  obtain ⟨i, rfl⟩ := vX4_loop S N1 x1 x2 hvu
  refine W.eq (g2 := F0 m 8 ls [.int i, .int 0, .ref (G.2.2 (14, 0))]) rfl ?_
  refine lv_i2l (v := i.toInt64) hx hb dL_loop_8 rfl ?_
  refine ko_st (x := i.toInt64) hx hb hK hw dL_loop_9 (fun H locs hw => ?_)
  refine lv_goto (tgt := 17) hx hb dL_loop_10 (by decide) ?_
  refine lv_iconst (v := 0) hx hb dL_loop_17 (by decide) ?_
  exact ko_ret hx hb hr hlocks hK hw (by rw [hvu]; rfl) (by rw [hvu]; rfl) (by rw [hvu]; rfl) (Nat.le_of_ble_eq_true rfl) (Nat.le_of_ble_eq_true rfl) dL_loop_18
theorem tX4_misses (S : uS) (x1 : Int32) {E : String} (h : xX4_misses S x1 = .inr E) : E = "java/lang/IndexOutOfBoundsException" := by
  unfold xX4_misses at h
  repeat' split at h
  all_goals first | (cases h; done) | (cases h; exact rfl)
theorem vX4_misses (S : uS) (x1 : Int32) {v : Option Value} {u : uS} (h : xX4_misses S x1 = .inl (v, u)) : ∃ i : Int64, v = some (.long i) := by
  unfold xX4_misses at h
  repeat' split at h
  all_goals first | (cases h; done) | (cases h; exact ⟨_, rfl⟩)
abbrev rmL_misses : Room := { frames := 8, cells := 1, slots := 6, locals := 123 }
set_option maxHeartbeats 4000000 in
set_option maxRecDepth 100000 in
theorem cLc_misses (l : Launch) (hlt : l.stackTraces = false) (G : gG) (Z : va_W) (S : uS) (f : Nat → Int64) (x1 : Int32) : kMetO l yL_misses wsL_misses rmL_misses G Z S f [.ref (G.2.2 (0, 0)), .int (x1), .ref (G.2.2 (14, 0))] cd1 (xX4_misses S x1) 1 6 := by
  refine kMetO_of (cc := cL_misses) (maxL := 4) (hh := [(0, 8, 11, 25)]) (by decide) rfl (Nat.le_of_ble_eq_true rfl) ?_
  intro p e s m below meth c hx hb hr hml hlocks htab hts hown hK hN A hZ hA H locs hw ls hl
  have hl : lv_has ls 4 [(0, .ref (G.2.2 (0, 0))), (1, .int (x1)), (2, .ref (G.2.2 (14, 0)))] := hl
  refine lv_aload_n hx hb dL_misses_0 rfl (lv_at hl 2 rfl) ?_
  refine lv_iconst (v := 0) hx hb dL_misses_1 (by decide) ?_
  refine lv_aload_n hx hb dL_misses_2 rfl (lv_at hl 0 rfl) ?_
  refine lv_iload_n hx hb dL_misses_3 rfl (lv_at hl 1 rfl) ?_
  refine kx_callV (C := RX4) (n := 1) (mc0 := 1) (ms0 := 6) (rest := [.int 0, .ref (G.2.2 (14, 0))]) ⟨hx, hb, hml, hown, hts⟩ (cX4c_misses l hlt G (kO G f :: Z) S x1) (cwV 1 hts gL_misses_X4_misses rfl rfl rfl (by decide +kernel) ⟨Nat.le_of_ble_eq_true rfl, Nat.le_of_ble_eq_true rfl⟩) (k_recv hK hw kC_0 rfl rfl) hK hN hZ hA hw (Nat.le_of_ble_eq_true rfl) (Nat.le_of_ble_eq_true rfl) rfl hl.1 rfl (Nat.le_of_ble_eq_true rfl) dL_misses_4 (fun E hE q9 ce H locs hw hce hcv hcl => ?_) (fun v u hvu H locs hw => ?_)
  · obtain ⟨h0, h1, h2, h3, h4, h5, h6, h7, h8, g1, g2, g3, d1, d2, d3⟩ := id hN
    obtain rfl := tX4_misses S x1 hE
    refine vx_catch (own := RL) (name := "java/lang/IndexOutOfBoundsException") (E := "java/lang/IndexOutOfBoundsException") hown [] ⟨0, 8, 11, 25⟩ [] (by rw [htab]; rfl) (fun z hz => nomatch hz) (by decide) (by decide) (hts (.classLink RL 25 "java/lang/IndexOutOfBoundsException") (by decide +kernel)) (g3.use rfl) hce hcv hcl ?_
    refine W.eq (g2 := F0 m 11 ls [.ref q9]) rfl ?_
    refine lv_astore_n (lv' := [(3, .ref q9), (0, .ref (G.2.2 (0, 0))), (1, .int (x1)), (2, .ref (G.2.2 (14, 0)))]) hx hb dL_misses_11 rfl hl (by decide) rfl (fun ls hl => ?_)
    refine lv_iconst (v := 1) hx hb dL_misses_12 (by decide) ?_
    exact ko_ret hx hb hr hlocks hK hw (by rw [hE]; decide) (by rw [hE]; rfl) (by rw [hE]; rfl) (Nat.le_of_ble_eq_true rfl) (Nat.le_of_ble_eq_true rfl) dL_misses_13
  obtain ⟨i, rfl⟩ := vX4_misses S x1 hvu
  refine W.eq (g2 := F0 m 7 ls [.long i, .int 0, .ref (G.2.2 (14, 0))]) rfl ?_
  refine ko_st (x := i) hx hb hK hw dL_misses_7 (fun H locs hw => ?_)
  refine lv_goto (tgt := 14) hx hb dL_misses_8 (by decide) ?_
  refine lv_iconst (v := 0) hx hb dL_misses_14 (by decide) ?_
  exact ko_ret hx hb hr hlocks hK hw (by rw [hvu]; rfl) (by rw [hvu]; rfl) (by rw [hvu]; rfl) (Nat.le_of_ble_eq_true rfl) (Nat.le_of_ble_eq_true rfl) dL_misses_15
theorem tX4_meetings (S : uS) (x1 : Int32) (b1 : Bool) {E : String} (h : xX4_meetings S x1 b1 = .inr E) : E = "java/lang/IndexOutOfBoundsException" := by
  unfold xX4_meetings at h
  repeat' split at h
  all_goals first | (cases h; done) | (cases h; exact rfl)
theorem vX4_meetings (S : uS) (x1 : Int32) (b1 : Bool) {v : Option Value} {u : uS} (h : xX4_meetings S x1 b1 = .inl (v, u)) : ∃ i : Int64, v = some (.long i) := by
  unfold xX4_meetings at h
  repeat' split at h
  all_goals first | (cases h; done) | (cases h; exact ⟨_, rfl⟩)
abbrev rmL_meetings : Room := { frames := 7, cells := 1, slots := 6, locals := 105 }
set_option maxHeartbeats 4000000 in
set_option maxRecDepth 100000 in
theorem cLc_meetings (l : Launch) (hlt : l.stackTraces = false) (G : gG) (Z : va_W) (S : uS) (f : Nat → Int64) (x1 : Int32) (b1 : Bool) : kMetO l yL_meetings wsL_meetings rmL_meetings G Z S f [.ref (G.2.2 (0, 0)), .int (x1), .int (bI (b1)), .ref (G.2.2 (14, 0))] cd1 (xX4_meetings S x1 b1) 1 6 := by
  refine kMetO_of (cc := cL_meetings) (maxL := 5) (hh := [(0, 9, 12, 25)]) (by decide) rfl (Nat.le_of_ble_eq_true rfl) ?_
  intro p e s m below meth c hx hb hr hml hlocks htab hts hown hK hN A hZ hA H locs hw ls hl
  have hl : lv_has ls 5 [(0, .ref (G.2.2 (0, 0))), (1, .int (x1)), (2, .int (bI (b1))), (3, .ref (G.2.2 (14, 0)))] := hl
  refine lv_aload_n hx hb dL_meetings_0 rfl (lv_at hl 3 rfl) ?_
  refine lv_iconst (v := 0) hx hb dL_meetings_1 (by decide) ?_
  refine lv_aload_n hx hb dL_meetings_2 rfl (lv_at hl 0 rfl) ?_
  refine lv_iload_n hx hb dL_meetings_3 rfl (lv_at hl 1 rfl) ?_
  refine lv_iload_n hx hb dL_meetings_4 rfl (lv_at hl 2 rfl) ?_
  refine kx_callV (C := RX4) (n := 2) (mc0 := 1) (ms0 := 6) (rest := [.int 0, .ref (G.2.2 (14, 0))]) ⟨hx, hb, hml, hown, hts⟩ (cX4c_meetings l hlt G (kO G f :: Z) S x1 b1) (cwV 2 hts gL_meetings_X4_meetings rfl rfl rfl (by decide +kernel) ⟨Nat.le_of_ble_eq_true rfl, Nat.le_of_ble_eq_true rfl⟩) (k_recv hK hw kC_0 rfl rfl) hK hN hZ hA hw (Nat.le_of_ble_eq_true rfl) (Nat.le_of_ble_eq_true rfl) rfl hl.1 rfl (Nat.le_of_ble_eq_true rfl) dL_meetings_5 (fun E hE q9 ce H locs hw hce hcv hcl => ?_) (fun v u hvu H locs hw => ?_)
  · obtain ⟨h0, h1, h2, h3, h4, h5, h6, h7, h8, g1, g2, g3, d1, d2, d3⟩ := id hN
    obtain rfl := tX4_meetings S x1 b1 hE
    refine vx_catch (own := RL) (name := "java/lang/IndexOutOfBoundsException") (E := "java/lang/IndexOutOfBoundsException") hown [] ⟨0, 9, 12, 25⟩ [] (by rw [htab]; rfl) (fun z hz => nomatch hz) (by decide) (by decide) (hts (.classLink RL 25 "java/lang/IndexOutOfBoundsException") (by decide +kernel)) (g3.use rfl) hce hcv hcl ?_
    refine W.eq (g2 := F0 m 12 ls [.ref q9]) rfl ?_
    refine lv_astore (lv' := [(4, .ref q9), (0, .ref (G.2.2 (0, 0))), (1, .int (x1)), (2, .int (bI (b1))), (3, .ref (G.2.2 (14, 0)))]) hx hb dL_meetings_12 hl (by decide) rfl (fun ls hl => ?_)
    refine lv_iconst (v := 1) hx hb dL_meetings_14 (by decide) ?_
    exact ko_ret hx hb hr hlocks hK hw (by rw [hE]; decide) (by rw [hE]; rfl) (by rw [hE]; rfl) (Nat.le_of_ble_eq_true rfl) (Nat.le_of_ble_eq_true rfl) dL_meetings_15
  obtain ⟨i, rfl⟩ := vX4_meetings S x1 b1 hvu
  refine W.eq (g2 := F0 m 8 ls [.long i, .int 0, .ref (G.2.2 (14, 0))]) rfl ?_
  refine ko_st (x := i) hx hb hK hw dL_meetings_8 (fun H locs hw => ?_)
  refine lv_goto (tgt := 16) hx hb dL_meetings_9 (by decide) ?_
  refine lv_iconst (v := 0) hx hb dL_meetings_16 (by decide) ?_
  exact ko_ret hx hb hr hlocks hK hw (by rw [hvu]; rfl) (by rw [hvu]; rfl) (by rw [hvu]; rfl) (Nat.le_of_ble_eq_true rfl) (Nat.le_of_ble_eq_true rfl) dL_meetings_17
