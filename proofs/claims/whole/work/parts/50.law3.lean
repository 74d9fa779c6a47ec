/-! THE CLAIM OUT OF ONE WALK OF THE LAW'S BODY. Your part is whole_start (and what it stands on); all else here is the same for every law, but numbers. -/
def R_law : String := "BranchPredictorLaw"
def lw_P (b : Addr) (xs : List Int32) (args : Array Value) (s : State) : Prop := args = #[.ref b] ∧ s.IntsAt b xs ∧ xs.length ≤ 2048 ∧ (Jvm.Cond.and given_1 narrow_1).before args s = true
/-- what a walk over the start with the record d0 says of its end, said of the start itself -/
theorem lw_closed {s t : State} {o : Outcome} {d0 : Drawn} {L : List Loc} {k n : Nat} (hd0 : s.drawn.sameBut d0 lw_cs) (hv : ∃ v, o = .returned v) (hW : (s.setDrawn d0).WarmedH t.vm) (hs : (s.setDrawn d0).sameButNew ({ t with vm := s.vm } : State) L k n) : State.butDraws s t lw_cs (fun t1 => Framed s o t1 L k n) := by
  have h2 : t.drawn = d0 := congrArg State.drawn hs.1
  refine ⟨⟨hv, hW, State.sameButNew.setDrawn hs s.drawn⟩, ?_, by decide⟩
  rw [h2]
  exact hd0
def lw_Q (_ : Array Value) (s : State) (o : Outcome) (t : State) : Prop := o = .returned (some (.int 1)) ∧ State.butDraws s t lw_cs (fun t1 => Framed s o t1 [] 601024 7293034)
def lw_Z (below : List Frame) (a : Array Value) (s : State) : State → Prop := fun t => ∃ o, t.status = .running ∧ Ended t below o ∧ lw_Q a s o t
/-- the law's own end, with 1 on the stack, nothing written that was there before, its room as the claim has it; d0: the record of draws at this point (at the entry s.drawn: begin with 'refine W.base ?_' and 'have hd0 := Drawn.sameBut.refl s.drawn lw_cs') -/
theorem lw_ret {p : Program} {l : Launch} {e : Env} {s : State} {m : MethodId} {below : List Frame} {meth : Method} {c : Code} {b : Nat} {d0 : Drawn} (hd0 : s.drawn.sameBut d0 lw_cs) (hx : p.tables.exec = Jvm.exec) (hb : c.code = code) (hr : meth.sig.returnType = ret) (hlocks : meth.locks = false) {pc : Nat} {H : Heap} {ls : Array Slot} (hdg : decode code pc = .ok (.ireturn, 1)) : W p l e room_1 (s.setDrawn d0) m #[Value.ref b] below meth c H [] 601024 7293034 (lw_Z below #[Value.ref b] s) (F0 m pc ls [.int 1]) := by
  intro T hT X
  obtain ⟨fs, hret, hrun, hended, hW, hframe⟩ := X.leave (v := some (.int 1)) (hlocks := hlocks) (fun h => by rw [hr] at h; cases h)
  have hmeth' : T.vm.method? m = some meth := X.method'
  refine ⟨T.setFrames fs, ?_, .returned (some (.int 1)), hrun, hended, rfl, lw_closed hd0 ⟨_, rfl⟩ hW hframe⟩
  jvm_step X.here [X.here.top, hx, hb, hdg, hmeth', hr, ret, narrow_b1]
  (try refine ⟨rfl, ?_⟩); (try refine ⟨rfl, ?_⟩)
  first | (intro acts; rw [hret _ acts rfl rfl rfl]) | rw [hret _ _ rfl rfl rfl]
  exact Steps.refl _
/-- what holds at the law's entry: the machine, the code, the tables' words (any of lw_tbl by 'hts w (by decide +kernel)'), the script of L ints xs at the cell b, what the Statement gives of the start (any of its parts by flat_of_before) -/
def lw_At (p : Program) (s : State) (m : MethodId) (meth : Method) (c : Code) (b L : Nat) (xs : Nat → Int32) : Prop :=
  p.tables.exec = Jvm.exec ∧ c.code = code ∧ meth.sig.returnType = ret ∧ c.maxLocals = 9 ∧ s.vm.findClass R_law = some m.cls ∧ (∀ w ∈ lw_tbl, w.before #[Value.ref b] s = true) ∧ va_X b L xs s s.heap ∧ b < s.heap.size ∧ meth.locks = false ∧ (Jvm.Cond.and given_1 narrow_1).before #[Value.ref b] s = true
/-! the law's loop -/
section KL4
variable {p : Program} {l : Launch} {e : Env} {s : State} {m : MethodId} {args : Array Value} {below : List Frame} {meth : Method} {c : Code} {H : Heap} {locs : List Loc} {cells slots : Nat} {QQ : State → Prop}
variable {ls : Array Slot} {G : gG} {S M : uS} {A : Nat → Prop} {f : Nat → Int64} {d0 : Drawn}
set_option maxHeartbeats 4000000 in
set_option maxRecDepth 100000 in
theorem law_accuracy {b k P Q h Y N o : Nat} {hts : ∀ w ∈ wsL_law, w.before args s = true} (hd0 : s.drawn.sameBut d0 lw_cs) (hx : p.tables.exec = Jvm.exec) (hb : c.code = cL_law) (hml : c.maxLocals = 9) (hown : s.vm.findClass RL = some m.cls) (hK : va_K G.1 vwCl (gTy G) s) (hN : kN G s) (hZ : kZ A s s.heap) (hA : ∀ q, s.heap.size ≤ q → A q) (RR : Rel S M P Q h Y N o) (hw : kS G kC S (kO G f :: kw kM G.2.2 (eU G M)) A s.heap H locs) (hc : cells + 2 ≤ room_1.cells) (hs : slots + 12 ≤ room_1.slots) (hl : lv_has ls 9 (lwL G b (nI (4 * k))))
    (kk : ∀ (d1 : Drawn) (M1 : uS) (H1 : Heap) (locs1 : List Loc) (ls1 : Array Slot), s.drawn.sameBut d1 lw_cs → RelE S M1 → kS G kC S (kO G f :: kw kM G.2.2 (eU G M1)) A s.heap H1 locs1 → lv_has ls1 9 (lwL G b (nI (4 * k))) → W p l e room_1 (s.setDrawn d1) m args below meth c H1 locs1 (cells + 2) (slots + 12) QQ (F0 m 1130 ls1 [])) : W p l e room_1 (s.setDrawn d0) m args below meth c H locs cells slots QQ (F0 m 1075 ls []) := by
  obtain ⟨-, ⟨n1, n2, n3, n4⟩, -⟩ := id RR
  have hN' : ∀ d : Drawn, kN G (s.setDrawn d) := fun d => hN.same rfl
  have hZ' : ∀ d : Drawn, kZ A (s.setDrawn d) (s.setDrawn d).heap := fun d => kZ.moved (u := s) (U := s.setDrawn d) (Vm.Alike.refl s.vm) hZ
  have hK' : ∀ d : Drawn, va_K G.1 vwCl (gTy G) (s.setDrawn d) := fun d => va_K.moved (u := s) (U := s.setDrawn d) (Vm.Alike.refl s.vm) hK
  refine lv_aload_n hx hb dL_law_1075 rfl (lv_at hl 3 rfl) ?_
  refine kd_call hd0 (va_runV_D (As := []) (rest := []) (C := RX4) (n := 0) ⟨hx, hb, hml, hown, dr_words hts d0⟩ (cX4c_accuracy l G (kO G f :: kw kM G.2.2 (eU G M)) S H.size) (cwV 0 (dr_words hts d0) gL_law_X4_accuracy rfl rfl rfl (by decide +kernel) ⟨Nat.le_of_ble_eq_true rfl, Nat.le_of_ble_eq_true rfl⟩) ⟨kPc.blind, k_recv (hK' d0) hw kC_0 rfl rfl, k_pre (s := s.setDrawn d0) (hK' d0) (hN' d0) (hZ' d0) hw hA⟩ rfl rfl hl.1 rfl (lv_room (Nat.le_of_ble_eq_true rfl)) dL_law_1076 ⟨Nat.le_trans (Nat.le_add_right _ _) hc, Nat.le_trans (Nat.le_add_right _ _) hs⟩) hw hA (fun r d1 H locs hr hd1 hw => ?_)
  refine lv_dstore (lv' := (5, .double r) :: lwL G b (nI (4 * k))) hx hb dL_law_1079 hl (by decide) rfl (fun ls hl => ?_)
  refine lv_aload_n hx hb dL_law_1081 rfl (lv_at hl 3 rfl) ?_
  have hw := kS_flip hw
  refine kd_call hd1 (va_runV_D (As := []) (rest := []) (C := RX5) (n := 0) ⟨hx, hb, hml, hown, dr_words hts d1⟩ (cX5c_accuracy l G (kw kC G.2.2 (eU G S) ++ [kO G f]) M H.size) (cwV 0 (dr_words hts d1) gL_law_X5_accuracy rfl rfl rfl (by decide +kernel) ⟨Nat.le_of_ble_eq_true rfl, Nat.le_of_ble_eq_true rfl⟩) ⟨kPc.blind, k_recv (hK' d1) hw kM_10 rfl rfl, k_pre (s := s.setDrawn d1) (hK' d1) (hN' d1) (hZ' d1) hw hA⟩ rfl rfl hl.1 rfl (lv_room (Nat.le_of_ble_eq_true rfl)) dL_law_1082 ⟨Nat.le_trans (Nat.le_add_right _ _) hc, Nat.le_trans (Nat.le_add_right _ _) hs⟩) hw hA (fun q d2 H locs hq hd2 hw => ?_)
  refine lv_dstore (lv' := (7, .double q) :: (5, .double r) :: lwL G b (nI (4 * k))) hx hb dL_law_1085 hl (by decide) rfl (fun ls hl => ?_)
  have hend : W p l e room_1 (s.setDrawn d2) m args below meth c H locs cells slots QQ (F0 m 1113 ls []) := by
    refine lv_goto (tgt := 1130) hx hb dL_law_1113 (by decide) ?_
    exact W.widen (Nat.le_add_right _ _) (Nat.le_add_right _ _) (kk d2 (uI M 10 0 0 (0 : Int32)) H locs ls hd2 (rE_0 _ ⟨P, Q, h, Y, N, o, RR⟩) (kS_flop hw) (lv_sub hl [2, 3, 4, 5, 6] rfl))
  refine lv_dload hx hb dL_law_1087 (lv_at hl 1 rfl) ?_
  refine lv_dload hx hb dL_law_1089 (lv_at hl 0 rfl) ?_
  refine lv_dcmp hx hb dL_law_1091 ?_
  rw [n1, n3 3 (by decide)] at hr
  rcases acc_alike hr hq with rfl | ⟨hr1, hq1⟩
  · obtain ⟨v, hv0⟩ : ∃ v, v = Op.cmpValue (FP.dcmp r r) CmpOp.l := ⟨_, rfl⟩
    rw [← hv0]
    refine lv_if_eq (tgt := 1113) hx hb dL_law_1092 (by decide) (fun _ => hend) (fun hv => ?_)
    refine lv_dload hx hb dL_law_1095 (lv_at hl 1 rfl) ?_
    refine lv_dload hx hb dL_law_1097 (lv_at hl 1 rfl) ?_
    refine lv_dcmp hx hb dL_law_1099 ?_
    rw [← hv0]
    refine lv_if_eq (tgt := 1111) hx hb dL_law_1100 (by decide) (fun h0 => absurd h0 hv) (fun _ => ?_)
    refine lv_dload hx hb dL_law_1103 (lv_at hl 0 rfl) ?_
    refine lv_dload hx hb dL_law_1105 (lv_at hl 0 rfl) ?_
    refine lv_dcmp hx hb dL_law_1107 ?_
    rw [← hv0]
    exact lv_if_ne (tgt := 1113) hx hb dL_law_1108 (by decide) (fun _ => hend) (fun h0 => absurd h0 hv)
  · rw [nan_cmp hr1]
    refine lv_if_eq (tgt := 1113) hx hb dL_law_1092 (by decide) (fun _ => hend) (fun hv => ?_)
    refine lv_dload hx hb dL_law_1095 (lv_at hl 1 rfl) ?_
    refine lv_dload hx hb dL_law_1097 (lv_at hl 1 rfl) ?_
    refine lv_dcmp hx hb dL_law_1099 ?_
    rw [nan_cmp hr1]
    refine lv_if_eq (tgt := 1111) hx hb dL_law_1100 (by decide) (fun h0 => absurd h0 hv) (fun _ => ?_)
    refine lv_dload hx hb dL_law_1103 (lv_at hl 0 rfl) ?_
    refine lv_dload hx hb dL_law_1105 (lv_at hl 0 rfl) ?_
    refine lv_dcmp hx hb dL_law_1107 ?_
    rw [nan_cmp hq1]
    exact lv_if_ne (tgt := 1113) hx hb dL_law_1108 (by decide) (fun _ => hend) (fun h0 => absurd h0 hv)
set_option maxHeartbeats 4000000 in
set_option maxRecDepth 100000 in
theorem law_body {b L k P Q h Y N o t : Nat} {xs : Nat → Int32} (hts : ∀ w ∈ wsL_law, w.before args s = true) (hd0 : s.drawn.sameBut d0 lw_cs) (hlt : l.stackTraces = false) (hx : p.tables.exec = Jvm.exec) (hb : c.code = cL_law) (hml : c.maxLocals = 9) (hown : s.vm.findClass RL = some m.cls) (hX : va_X b L xs s s.heap) (hbl : b < s.heap.size) (hbA : ¬ A b) (hK : va_K G.1 vwCl (gTy G) s) (hN : kN G s) (hZ : kZ A s s.heap) (hA : ∀ q, s.heap.size ≤ q → A q) (hL : L ≤ 2048) (hk : 4 * k + 4 ≤ L) (RR : Rel S M P Q h Y N o) (hw : kS G kC S (kO G f :: kw kM G.2.2 (eU G M)) A s.heap H locs) (hc : cells + 2 ≤ room_1.cells) (hs : slots + 12 ≤ room_1.slots) (hl : lv_has ls 9 (lwL G b (nI (4 * k)))) (ht : t < 32)
    (kk : ∀ (d1 : Drawn) (S1 M1 : uS) (f1 : Nat → Int64) (H1 : Heap) (locs1 : List Loc) (ls1 : Array Slot), s.drawn.sameBut d1 lw_cs → RelE S1 M1 → kS G kC S1 (kO G f1 :: kw kM G.2.2 (eU G M1)) A s.heap H1 locs1 → lv_has ls1 9 (lwL G b (nI (4 * k))) → W p l e room_1 (s.setDrawn d1) m args below meth c H1 locs1 (cells + 2) (slots + 12) QQ (F0 m 1130 ls1 [])) : W p l e room_1 (s.setDrawn d0) m args below meth c H locs cells slots QQ (F0 m 39 ls [.int (nI t)]) := by
  have hN' : kN G (s.setDrawn d0) := hN.same rfl
  have hZ' : kZ A (s.setDrawn d0) (s.setDrawn d0).heap := kZ.moved (u := s) (U := s.setDrawn d0) (Vm.Alike.refl s.vm) hZ
  have hK' : va_K G.1 vwCl (gTy G) (s.setDrawn d0) := va_K.moved (u := s) (U := s.setDrawn d0) (Vm.Alike.refl s.vm) hK
  have hX' : va_X b L xs (s.setDrawn d0) (s.setDrawn d0).heap := hX
  have hts' := dr_words hts d0
  by_cases h19 : t < 19
  · have hcase : t = 0 ∨ t = 1 ∨ t = 2 ∨ t = 3 ∨ t = 4 ∨ t = 5 ∨ t = 6 ∨ t = 7 ∨ t = 8 ∨ t = 9 ∨ t = 10 ∨ t = 11 ∨ t = 12 ∨ t = 13 ∨ t = 14 ∨ t = 15 ∨ t = 16 ∨ t = 17 ∨ t = 18 := by omega
    rcases hcase with rfl | rfl | rfl | rfl | rfl | rfl | rfl | rfl | rfl | rfl | rfl | rfl | rfl | rfl | rfl | rfl | rfl | rfl | rfl
    · refine lv_tableIn (off := 89) (tgt := 128) hx hb dL_law_39 (by decide) (by decide) (by decide) (by decide) ?_
      exact law_setSizes (s := s.setDrawn d0) (hts := hts') hlt hx hb hml hown hX' hbl hbA hK' hN' hZ' hA hL hk RR hw hc hs hl (fun S1 M1 f1 H1 locs1 ls1 hR hw hl => kk d0 S1 M1 f1 H1 locs1 ls1 hd0 hR hw hl)
    · refine lv_tableIn (off := 176) (tgt := 215) hx hb dL_law_39 (by decide) (by decide) (by decide) (by decide) ?_
      exact law_predict (s := s.setDrawn d0) (hts := hts') hlt hx hb hml hown hX' hbl hbA hK' hN' hZ' hA hL hk RR hw hc hs hl (fun S1 M1 f1 H1 locs1 ls1 hR hw hl => kk d0 S1 M1 f1 H1 locs1 ls1 hd0 hR hw hl)
    · refine lv_tableIn (off := 239) (tgt := 278) hx hb dL_law_39 (by decide) (by decide) (by decide) (by decide) ?_
      exact law_resolve (s := s.setDrawn d0) (hts := hts') hlt hx hb hml hown hX' hbl hbA hK' hN' hZ' hA hL hk RR hw hc hs hl (fun S1 M1 f1 H1 locs1 ls1 hR hw hl => kk d0 S1 M1 f1 H1 locs1 ls1 hd0 hR hw hl)
    · refine lv_tableIn (off := 323) (tgt := 362) hx hb dL_law_39 (by decide) (by decide) (by decide) (by decide) ?_
      exact law_commit (s := s.setDrawn d0) (hts := hts') hlt hx hb hml hown hX' hbl hbA hK' hN' hZ' hA hL hk RR hw hc hs hl (fun S1 M1 f1 H1 locs1 ls1 hR hw hl => kk d0 S1 M1 f1 H1 locs1 ls1 hd0 hR hw hl)
    · refine lv_tableIn (off := 374) (tgt := 413) hx hb dL_law_39 (by decide) (by decide) (by decide) (by decide) ?_
      exact law_train (s := s.setDrawn d0) (hts := hts') hlt hx hb hml hown hX' hbl hbA hK' hN' hZ' hA hL hk RR hw hc hs hl (fun S1 M1 f1 H1 locs1 ls1 hR hw hl => kk d0 S1 M1 f1 H1 locs1 ls1 hd0 hR hw hl)
    · refine lv_tableIn (off := 465) (tgt := 504) hx hb dL_law_39 (by decide) (by decide) (by decide) (by decide) ?_
      exact law_flush (s := s.setDrawn d0) (hts := hts') hlt hx hb hml hown hX' hbl hbA hK' hN' hZ' hA hL hk RR hw hc hs hl (fun S1 M1 f1 H1 locs1 ls1 hR hw hl => kk d0 S1 M1 f1 H1 locs1 ls1 hd0 hR hw hl)
    · refine lv_tableIn (off := 521) (tgt := 560) hx hb dL_law_39 (by decide) (by decide) (by decide) (by decide) ?_
      exact law_inFlight (s := s.setDrawn d0) (hts := hts') hlt hx hb hml hown hX' hbl hbA hK' hN' hZ' hA hL hk RR hw hc hs hl (fun S1 M1 f1 H1 locs1 ls1 hR hw hl => kk d0 S1 M1 f1 H1 locs1 ls1 hd0 hR hw hl)
    · refine lv_tableIn (off := 534) (tgt := 573) hx hb dL_law_39 (by decide) (by decide) (by decide) (by decide) ?_
      exact law_place (s := s.setDrawn d0) (hts := hts') hlt hx hb hml hown hX' hbl hbA hK' hN' hZ' hA hL hk RR hw hc hs hl (fun S1 M1 f1 H1 locs1 ls1 hR hw hl => kk d0 S1 M1 f1 H1 locs1 ls1 hd0 hR hw hl)
    · refine lv_tableIn (off := 590) (tgt := 629) hx hb dL_law_39 (by decide) (by decide) (by decide) (by decide) ?_
      exact law_state (s := s.setDrawn d0) (hts := hts') hlt hx hb hml hown hX' hbl hbA hK' hN' hZ' hA hL hk RR hw hc hs hl (fun S1 M1 f1 H1 locs1 ls1 hR hw hl => kk d0 S1 M1 f1 H1 locs1 ls1 hd0 hR hw hl)
    · refine lv_tableIn (off := 646) (tgt := 685) hx hb dL_law_39 (by decide) (by decide) (by decide) (by decide) ?_
      exact law_predicted (s := s.setDrawn d0) (hts := hts') hlt hx hb hml hown hX' hbl hbA hK' hN' hZ' hA hL hk RR hw hc hs hl (fun S1 M1 f1 H1 locs1 ls1 hR hw hl => kk d0 S1 M1 f1 H1 locs1 ls1 hd0 hR hw hl)
    · refine lv_tableIn (off := 721) (tgt := 760) hx hb dL_law_39 (by decide) (by decide) (by decide) (by decide) ?_
      exact law_history (s := s.setDrawn d0) (hts := hts') hlt hx hb hml hown hX' hbl hbA hK' hN' hZ' hA hL hk RR hw hc hs hl (fun S1 M1 f1 H1 locs1 ls1 hR hw hl => kk d0 S1 M1 f1 H1 locs1 ls1 hd0 hR hw hl)
    · refine lv_tableIn (off := 734) (tgt := 773) hx hb dL_law_39 (by decide) (by decide) (by decide) (by decide) ?_
      exact law_counter (s := s.setDrawn d0) (hts := hts') hlt hx hb hml hown hX' hbl hbA hK' hN' hZ' hA hL hk RR hw hc hs hl (fun S1 M1 f1 H1 locs1 ls1 hR hw hl => kk d0 S1 M1 f1 H1 locs1 ls1 hd0 hR hw hl)
    · refine lv_tableIn (off := 802) (tgt := 841) hx hb dL_law_39 (by decide) (by decide) (by decide) (by decide) ?_
      exact law_loop (s := s.setDrawn d0) (hts := hts') hlt hx hb hml hown hX' hbl hbA hK' hN' hZ' hA hL hk RR hw hc hs hl (fun S1 M1 f1 H1 locs1 ls1 hR hw hl => kk d0 S1 M1 f1 H1 locs1 ls1 hd0 hR hw hl)
    · refine lv_tableIn (off := 870) (tgt := 909) hx hb dL_law_39 (by decide) (by decide) (by decide) (by decide) ?_
      exact law_commits (s := s.setDrawn d0) (hts := hts') hlt hx hb hml hown hX' hbl hbA hK' hN' hZ' hA hL hk RR hw hc hs hl (fun S1 M1 f1 H1 locs1 ls1 hR hw hl => kk d0 S1 M1 f1 H1 locs1 ls1 hd0 hR hw hl)
    · refine lv_tableIn (off := 884) (tgt := 923) hx hb dL_law_39 (by decide) (by decide) (by decide) (by decide) ?_
      exact law_misses (s := s.setDrawn d0) (hts := hts') hlt hx hb hml hown hX' hbl hbA hK' hN' hZ' hA hL hk RR hw hc hs hl (fun S1 M1 f1 H1 locs1 ls1 hR hw hl => kk d0 S1 M1 f1 H1 locs1 ls1 hd0 hR hw hl)
    · refine lv_tableIn (off := 939) (tgt := 978) hx hb dL_law_39 (by decide) (by decide) (by decide) (by decide) ?_
      exact law_drops (s := s.setDrawn d0) (hts := hts') hlt hx hb hml hown hX' hbl hbA hK' hN' hZ' hA hL hk RR hw hc hs hl (fun S1 M1 f1 H1 locs1 ls1 hR hw hl => kk d0 S1 M1 f1 H1 locs1 ls1 hd0 hR hw hl)
    · refine lv_tableIn (off := 953) (tgt := 992) hx hb dL_law_39 (by decide) (by decide) (by decide) (by decide) ?_
      exact law_meetings (s := s.setDrawn d0) (hts := hts') hlt hx hb hml hown hX' hbl hbA hK' hN' hZ' hA hL hk RR hw hc hs hl (fun S1 M1 f1 H1 locs1 ls1 hR hw hl => kk d0 S1 M1 f1 H1 locs1 ls1 hd0 hR hw hl)
    · refine lv_tableIn (off := 1036) (tgt := 1075) hx hb dL_law_39 (by decide) (by decide) (by decide) (by decide) ?_
      exact law_accuracy (hts := hts) hd0 hx hb hml hown hK hN hZ hA RR hw hc hs hl (fun d1 M1 H1 locs1 ls1 hd1 hR hw hl => kk d1 S M1 f H1 locs1 ls1 hd1 hR hw hl)
    · refine lv_tableIn (off := 1077) (tgt := 1116) hx hb dL_law_39 (by decide) (by decide) (by decide) (by decide) ?_
      exact law_digest (s := s.setDrawn d0) (hts := hts') hlt hx hb hml hown hX' hbl hbA hK' hN' hZ' hA hL hk RR hw hc hs hl (fun S1 M1 f1 H1 locs1 ls1 hR hw hl => kk d0 S1 M1 f1 H1 locs1 ls1 hd0 hR hw hl)
  · have hi : (nI t).toInt = (t : Int) := nI_toInt (by omega)
    refine lv_tableOut (tgt := 1130) hx hb dL_law_39 (by rw [hi]; omega) (by decide) ?_
    exact W.widen (Nat.le_add_right _ _) (Nat.le_add_right _ _) (kk d0 S M f H locs ls hd0 ⟨P, Q, h, Y, N, o, RR⟩ hw hl)
theorem len_toInt {L : Nat} (hL : L ≤ 2048) : (Int32.ofNat L - (4 : Int32)).toInt = (L : Int) - 4 := by
  by_cases c : 4 ≤ L
  · have e : nI L - (4 : Int32) = nI (L - 4) := pk_sub (b := 4) c
    rw [show Int32.ofNat L = nI L from rfl, e, nI_toInt (by omega)]
    omega
  · have h : L = 0 ∨ L = 1 ∨ L = 2 ∨ L = 3 := by omega
    rcases h with rfl | rfl | rfl | rfl <;> decide
set_option maxHeartbeats 4000000 in
set_option maxRecDepth 100000 in
theorem law_run {b L : Nat} {xs : Nat → Int32} (hts : ∀ w ∈ wsL_law, w.before #[Value.ref b] s = true) (hlt : l.stackTraces = false) (hx : p.tables.exec = Jvm.exec) (hb : c.code = cL_law) (hr : meth.sig.returnType = ret) (hlocks : meth.locks = false) (hml : c.maxLocals = 9) (hown : s.vm.findClass RL = some m.cls) (hX : va_X b L xs s s.heap) (hbl : b < s.heap.size) (hK : va_K G.1 vwCl (gTy G) s) (hN : kN G s) (hZ : kZ (fun q : Nat => s.heap.size ≤ q) s s.heap) (hL : L ≤ 2048) :
    ∀ (n k : Nat) (d0 : Drawn) (S M : uS) (f : Nat → Int64) (H : Heap) (locs : List Loc) (ls : Array Slot) (cells slots : Nat), L < 4 * (k + n) → 4 * k ≤ 4096 → cells + 2 * n ≤ 601024 → slots + 12 * n ≤ 7293034 → s.drawn.sameBut d0 lw_cs → RelE S M → kS G kC S (kO G f :: kw kM G.2.2 (eU G M)) (fun q : Nat => s.heap.size ≤ q) s.heap H locs → lv_has ls 9 (lwL G b (nI (4 * k))) → W p l e room_1 (s.setDrawn d0) m #[Value.ref b] below meth c H locs cells slots (lw_Z below #[Value.ref b] s) (F0 m 23 ls []) := by
  have hbA : ¬ (fun q : Nat => s.heap.size ≤ q) b := Nat.not_le.mpr hbl
  have hA : ∀ q : Nat, s.heap.size ≤ q → (fun q : Nat => s.heap.size ≤ q) q := fun _ h => h
  intro n
  induction n with
  | zero =>
    intro k d0 S M f H locs ls cells slots h1 h1b h2 h3 hd0 hR hw hl
    refine lv_iload hx hb dL_law_23 (lv_at hl 0 rfl) ?_
    refine lv_aload_n hx hb dL_law_25 rfl (lv_at hl 4 rfl) ?_
    refine va_slen (s := s.setDrawn d0) (H0 := s.heap) (b := b) (L := L) (xs := xs) hx hb hX hbl hbA hw.2.2 dL_law_26 ?_
    refine lv_iconst (v := 4) hx hb dL_law_27 (by decide) ?_
    refine lv_isub hx hb dL_law_28 ?_
    refine lv_icmp_gt (tgt := 1136) hx hb dL_law_29 (by decide) (fun _ => ?_) (fun hno => ?_)
    · refine lv_iconst (v := 1) hx hb dL_law_1136 (by decide) ?_
      refine va_forget (s := s.setDrawn d0) (fun q hq => hw.2.2.2.2 q hq) ?_
      exact W.widen (by omega) (by omega) (lw_ret hd0 hx hb hr hlocks dL_law_1137)
    · exact absurd (Int32.lt_iff_toInt_lt.mpr (by rw [len_toInt hL, nI_toInt (by omega)]; omega)) hno
  | succ n ih =>
    intro k d0 S M f H locs ls cells slots h1 h1b h2 h3 hd0 hR hw hl
    refine lv_iload hx hb dL_law_23 (lv_at hl 0 rfl) ?_
    refine lv_aload_n hx hb dL_law_25 rfl (lv_at hl 4 rfl) ?_
    refine va_slen (s := s.setDrawn d0) (H0 := s.heap) (b := b) (L := L) (xs := xs) hx hb hX hbl hbA hw.2.2 dL_law_26 ?_
    refine lv_iconst (v := 4) hx hb dL_law_27 (by decide) ?_
    refine lv_isub hx hb dL_law_28 ?_
    refine lv_icmp_gt (tgt := 1136) hx hb dL_law_29 (by decide) (fun _ => ?_) (fun hno => ?_)
    · refine lv_iconst (v := 1) hx hb dL_law_1136 (by decide) ?_
      refine va_forget (s := s.setDrawn d0) (fun q hq => hw.2.2.2.2 q hq) ?_
      exact W.widen (by omega) (by omega) (lw_ret hd0 hx hb hr hlocks dL_law_1137)
    · have hk : 4 * k + 4 ≤ L := by
        have h9 := fun q => hno (Int32.lt_iff_toInt_lt.mpr q)
        rw [len_toInt hL, nI_toInt (by omega)] at h9
        have := Int.not_lt.mp h9
        omega
      refine lv_aload_n hx hb dL_law_32 rfl (lv_at hl 4 rfl) ?_
      refine lv_iload hx hb dL_law_33 (lv_at hl 0 rfl) ?_
      refine va_sld (s := s.setDrawn d0) (H0 := s.heap) (b := b) (L := L) (xs := xs) hx hb hX hbl hbA hw.2.2 (vp_in_nI (show 4 * k < L by omega) (by omega)) dL_law_35 ?_
      refine lv_bipush (v := 31) hx hb dL_law_36 (by decide) ?_
      refine lv_iand hx hb dL_law_38 ?_
      obtain ⟨t, ht, et⟩ := and31 (xs (nI (4 * k)).toNatClampNeg)
      rw [et]
      obtain ⟨P, Q, h, Y, N, o, RR⟩ := hR
      have e1 : room_1.cells = 601024 := rfl
      have e2 : room_1.slots = 7293034 := rfl
      refine law_body hts hd0 hlt hx hb hml hown hX hbl hbA hK hN hZ hA hL hk RR hw (by omega) (by omega) hl ht (fun d1 S1 M1 f1 H locs ls hd1 hR hw hl => ?_)
      refine lv_iinc (k := 0) (v := nI (4 * (k + 1))) (lv' := lwL G b (nI (4 * (k + 1)))) hx hb dL_law_1130 hl rfl (by rw [show Int32.ofInt 4 = nI 4 from rfl, nI_add]; rfl) (by decide) rfl (fun ls hl => ?_)
      refine lv_goto (tgt := 23) hx hb dL_law_1133 (by decide) ?_
      exact ih (k + 1) d1 S1 M1 f1 H locs ls (cells + 2) (slots + 12) (by omega) (by omega) (by omega) (by omega) hd1 hR hw hl
end KL4
