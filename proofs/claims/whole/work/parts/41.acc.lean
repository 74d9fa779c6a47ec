/-! ACCURACY: the one method that may draw -/
def kQd (G : gG) (ks : List kK) (Z : va_W) (A : Nat → Prop) (D : UInt64 → Prop) (u : uS) : Array Value → State → Outcome → State → Prop := fun _ st oc t => (∃ r : UInt64, D r ∧ oc = .returned (some (.double r)) ∧ kB G ks Z A u t) ∧ va_F A st t
def kMetD (l : Launch) (y : MethodName) (ws : List Cond) (rm : Room) (G : gG) (ks : List kK) (Z : va_W) (S : uS) (av : List Value) (D : UInt64 → Prop) (u : uS) : Prop := ∀ sz : Nat, MetD lw_cs l y ws rm (kPc G ks S Z sz av) (kQd G ks Z (kA G ks Z sz) D u) 0 0 (kA G ks Z sz)
def accD (n f : Int64) (r : UInt64) : Prop := (n = 0 ∧ r = FP.dconst1) ∨ (¬ n = 0 ∧ alike64 r (FP.ddiv (FP.l2d (n - f)) (FP.l2d n)) = true)
section KD
variable {p : Program} {l : Launch} {e : Env} {R : Room} {s : State} {m : MethodId} {args : Array Value} {below : List Frame} {meth : Method} {c : Code} {H : Heap} {locs : List Loc} {cells slots : Nat} {Q : State → Prop}
variable {cc : ByteArray} {pc : Nat} {ls : Array Slot} {rest : List Value} {G : gG} {ks : List kK} {S : uS} {Z : va_W} {A : Nat → Prop} {H0 : Heap} {Ts : List Cond} {own : String} {index : Nat} {D : UInt64 → Prop} {u : uS} {d0 : Drawn}
theorem kMetD_of {y : MethodName} {ws ws' : List Cond} {rm : Room} {av : List Value} {maxL : Nat} {ret : Option FieldType} (hy : plainName y.cls = true) (hw : ws = Cond.code y cc maxL ret :: ws') (hav : (lg_sl av).length ≤ maxL)
    (body : ∀ (p : Program) (e : Env) (s : State) (m : MethodId) (below : List Frame) (meth : Method) (c : Code), p.tables.exec = Jvm.exec → c.code = cc → meth.sig.returnType = ret → c.maxLocals = maxL → meth.locks = false → (∀ w ∈ ws, w.before av.toArray s = true) → s.vm.findClass y.cls = some m.cls → va_K G.1 vwCl (gTy G) s → ∀ A : Nat → Prop, ∀ (H : Heap) (locs : List Loc), kS G ks S Z A s.heap H locs → s.drawn.sameBut s.drawn lw_cs → ∀ ls : Array Slot, lv_has ls maxL (lv_args 0 av) →
      W p l e rm (s.setDrawn s.drawn) m av.toArray below meth c H locs 0 0 (MQD lw_cs below (kQd G ks Z A D u) av.toArray s 0 0 A) (F0 m 0 ls [])) : kMetD l y ws rm G ks Z S av D u := by
  intro sz
  refine MetD.ofW (cc := cc) (maxL := maxL) (ret := ret) hy hw ?_
  intro p e s m args below meth c s₁ B hml hv hd0
  obtain ⟨rfl, hsz, hP, hK, hD0, hN, hZ⟩ := hv
  have hts := atoms_spec (ws := ws) B.pre
  have hown : s.vm.findClass y.cls = some m.cls := findClass_of_methodNamed B.named
  subst hsz
  have hl := lv_entry av (n := maxL) hav
  rw [lg_entry_eq]
  exact body p e s m below meth c B.exec B.bytes B.returns hml B.notSynchronized hts hown hK (kA G ks Z s.heap.size) s.heap [] ⟨hP, kA_D hD0, va_S.rf⟩ hd0 _ hl
theorem k_dret {u' : uS} {r : UInt64} (hd0 : s.drawn.sameBut d0 lw_cs) (hx : p.tables.exec = Jvm.exec) (hb : c.code = cc) (hr : meth.sig.returnType = some .double) (hlocks : meth.locks = false) (hK : va_K G.1 vwCl (gTy G) s) (hw : kS G ks u' Z A s.heap H locs) (hv : D r) (hu : u = u') (hdg : decode cc pc = .ok (.dreturn, 1)) : W p l e R (s.setDrawn d0) m args below meth c H locs cells slots (MQD lw_cs below (kQd G ks Z A D u) args s cells slots A) (F0 m pc ls [.double r]) := by
  subst hu
  refine W.endD hd0 ?_
  exact W.dret hx hb hr (fun t ht hW => ⟨⟨r, hv, rfl, by rw [ht]; exact hw.1, va_K.moved (u := s.setDrawn d0) hW.alike hK, hw.2.1⟩, va_S.F (s := s.setDrawn d0) hw.2.2 ht⟩) hw.2.2.2.2 hdg hlocks
theorem kd_call {st0 : List Value} {a : Array Value} (hd0 : s.drawn.sameBut d0 lw_cs) (hr : va_RunD lw_cs p l e R (s.setDrawn d0) m args below meth c H locs cells slots 0 0 (F0 m pc ls st0) rest (kQd G ks Z (kA G ks Z H.size) D u a) (kA G ks Z H.size)) (hw : kS G ks S Z A s.heap H locs) (hA : ∀ q, s.heap.size ≤ q → A q)
    (kk : ∀ (r : UInt64) (d' : Drawn) (H1 : Heap) (locs1 : List Loc), D r → s.drawn.sameBut d' lw_cs → kS G ks u Z A s.heap H1 locs1 → W p l e R (s.setDrawn d') m args below meth c H1 locs1 cells slots Q (F0 m (pc + 3) ls (.double r :: rest))) : W p l e R (s.setDrawn d0) m args below meth c H locs cells slots Q (F0 m pc ls st0) := by
  have hin := kA_in hw hA
  intro T hT X
  obtain ⟨v', st₀, t, T', L, d', hd', h0, X', hL, e1, e2, ⟨⟨r, hr1, hv, hP1, hK1, hD1⟩, hz, hk⟩, st⟩ := hr T hT X
  cases hv
  rw [h0] at hz hk
  have hS := hw.2.2
  obtain ⟨t2, a1, b1⟩ := kk r d' T'.heap (locs ++ L) hr1 (hd0.trans hd') ⟨by rw [e1]; exact hP1, hD1.weaken (fun _ q _ h => hin q.1 h), Nat.le_trans hS.1 (by rw [e1]; exact hz), fun q h1 h2 => by rw [e1, hk q (Nat.lt_of_lt_of_le h1 hS.1) (fun z => h2 (hin q z))]; exact hS.2.1 q h1 h2, fun q hq => by
      rcases List.mem_append.mp hq with h | h
      · exact hS.2.2 q h
      · exact hin _ (hL q h)⟩ T' rfl X'
  exact ⟨t2, st t2 a1, b1⟩
end KD
abbrev rmX4_accuracy : Room := { frames := 0, cells := 0, slots := 0, locals := 0 }
set_option maxHeartbeats 4000000 in
set_option maxRecDepth 100000 in
theorem cX4c_accuracy (l : Launch) (G : gG) (Z : va_W) (S : uS) : kMetD l yX4_accuracy wsX4_accuracy rmX4_accuracy G kC Z S [.ref (G.2.2 (0, 0))] (accD (S.2.1 0 0 14) (S.2.1 7 0 3)) S := by
  refine kMetD_of (cc := cX4_accuracy) (maxL := 3) (ret := (some .double)) (by decide) rfl (Nat.le_of_ble_eq_true rfl) ?_
  intro p e s m below meth c hx hb hr hml hlocks hts hown hK A H locs hw hd0 ls hl
  have hl : lv_has ls 3 [(0, .ref (G.2.2 (0, 0)))] := hl
  have hiX4 : ∀ w ∈ wsX40, w ∈ wsX4_accuracy := by decide +kernel
  have hts : ∀ w ∈ wsX4_accuracy, w.before _ (s.setDrawn s.drawn) = true := dr_words hts _
  refine lv_aload_n hx hb dX4_accuracy_0 rfl (lv_at hl 0 rfl) ?_
  refine g_0_14 hx hb hts hiX4 hown hK hw kC_0 (hts (.fieldLink RX4 171 "BranchPredictor" "committed" "J") (by decide +kernel)) dX4_accuracy_1 ?_
  refine lv_lconst (v := 0) hx hb dX4_accuracy_4 (by decide) ?_
  refine W.lcmp hx hb dX4_accuracy_5 ?_
  refine lv_if_ne (tgt := 11) hx hb dX4_accuracy_6 (by decide) (fun h1 => ?_) (fun h1 => ?_)
  · have hn : ¬ S.2.1 0 0 14 = 0 := fun q => h1 ((lg_cmp_eq _ _).mpr q)
    refine lv_aload_n hx hb dX4_accuracy_11 rfl (lv_at hl 0 rfl) ?_
    refine g_0_14 hx hb hts hiX4 hown hK hw kC_0 (hts (.fieldLink RX4 171 "BranchPredictor" "committed" "J") (by decide +kernel)) dX4_accuracy_12 ?_
    refine lv_aload_n hx hb dX4_accuracy_15 rfl (lv_at hl 0 rfl) ?_
    refine g_0_7 hx hb hts hiX4 hown hK hw kC_0 (hts (.fieldLink RX4 44 "BranchPredictor" "missed" "[J") (by decide +kernel)) dX4_accuracy_16 ?_
    refine lv_iconst (v := 3) hx hb dX4_accuracy_19 (by decide) ?_
    refine ld_7_0 hx hb hK hw kC_7 (show vp_in (nI 3) 4 from vp_in_nI (by decide) (by decide)) dX4_accuracy_20 ?_
    refine lv_lsub hx hb dX4_accuracy_21 ?_
    refine lv_lstore_n (lv' := [(1, .long (S.2.1 0 0 14 - S.2.1 7 0 3)), (0, .ref (G.2.2 (0, 0)))]) hx hb dX4_accuracy_22 rfl hl (by decide) rfl (fun ls hl => ?_)
    refine lv_lload_n hx hb dX4_accuracy_23 rfl (lv_at hl 0 rfl) ?_
    refine lv_l2d hx hb dX4_accuracy_24 ?_
    refine lv_aload_n hx hb dX4_accuracy_25 rfl (lv_at hl 1 rfl) ?_
    refine g_0_14 hx hb hts hiX4 hown hK hw kC_0 (hts (.fieldLink RX4 171 "BranchPredictor" "committed" "J") (by decide +kernel)) dX4_accuracy_26 ?_
    refine lv_l2d hx hb dX4_accuracy_29 ?_
    refine lv_ddiv_any hd0 lw_bits hx hb dX4_accuracy_30 (fun r d1 hal hd1 => ?_)
    exact k_dret hd1 hx hb hr hlocks hK hw (Or.inr ⟨hn, hal⟩) rfl dX4_accuracy_31
  · have hn : S.2.1 0 0 14 = 0 := (lg_cmp_eq _ _).mp h1
    refine lv_dconst1 hx hb dX4_accuracy_9 ?_
    exact k_dret hd0 hx hb hr hlocks hK hw (Or.inl ⟨hn, rfl⟩) rfl dX4_accuracy_10
abbrev rmX5_accuracy : Room := { frames := 0, cells := 0, slots := 0, locals := 0 }
set_option maxHeartbeats 4000000 in
set_option maxRecDepth 100000 in
theorem cX5c_accuracy (l : Launch) (G : gG) (Z : va_W) (S : uS) : kMetD l yX5_accuracy wsX5_accuracy rmX5_accuracy G kM Z S [.ref (G.2.2 (10, 0))] (accD (S.2.1 10 0 18) (S.2.1 13 0 3)) (uI S 10 0 0 (0 : Int32)) := by
  refine kMetD_of (cc := cX5_accuracy) (maxL := 1) (ret := (some .double)) (by decide) rfl (Nat.le_of_ble_eq_true rfl) ?_
  intro p e s m below meth c hx hb hr hml hlocks hts hown hK A H locs hw hd0 ls hl
  have hl : lv_has ls 1 [(0, .ref (G.2.2 (10, 0)))] := hl
  have hiX5 : ∀ w ∈ wsX50, w ∈ wsX5_accuracy := by decide +kernel
  have hts : ∀ w ∈ wsX5_accuracy, w.before _ (s.setDrawn s.drawn) = true := dr_words hts _
  refine lv_aload_n hx hb dX5_accuracy_0 rfl (lv_at hl 0 rfl) ?_
  refine lv_iconst (v := 0) hx hb dX5_accuracy_1 (by decide) ?_
  refine p_10_0 (v := (0 : Int32)) hx hb hts hiX5 hown hK hw kM_10 (hts (.fieldLink RX5 58 "BranchPredictorModel" "thrown" "I") (by decide +kernel)) dX5_accuracy_2 (fun H locs hw => ?_)
  refine lv_aload_n hx hb dX5_accuracy_5 rfl (lv_at hl 0 rfl) ?_
  refine g_10_18 hx hb hts hiX5 hown hK hw kM_10 (hts (.fieldLink RX5 77 "BranchPredictorModel" "commits" "J") (by decide +kernel)) dX5_accuracy_6 ?_
  refine k_topl (z := S.2.1 10 0 18) rfl ?_
  refine lv_lconst (v := 0) hx hb dX5_accuracy_9 (by decide) ?_
  refine W.lcmp hx hb dX5_accuracy_10 ?_
  refine lv_if_ne (tgt := 18) hx hb dX5_accuracy_11 (by decide) (fun h1 => ?_) (fun h1 => ?_)
  · have hn : ¬ S.2.1 10 0 18 = 0 := fun q => h1 ((lg_cmp_eq _ _).mpr q)
    refine lv_aload_n hx hb dX5_accuracy_18 rfl (lv_at hl 0 rfl) ?_
    refine g_10_18 hx hb hts hiX5 hown hK hw kM_10 (hts (.fieldLink RX5 77 "BranchPredictorModel" "commits" "J") (by decide +kernel)) dX5_accuracy_19 ?_
    refine k_topl (z := S.2.1 10 0 18) rfl ?_
    refine lv_aload_n hx hb dX5_accuracy_22 rfl (lv_at hl 0 rfl) ?_
    refine g_10_20 hx hb hts hiX5 hown hK hw kM_10 (hts (.fieldLink RX5 47 "BranchPredictorModel" "misses" "[J") (by decide +kernel)) dX5_accuracy_23 ?_
    refine lv_iconst (v := 3) hx hb dX5_accuracy_26 (by decide) ?_
    refine ld_13_0 hx hb hK hw kM_13_0 (show vp_in (nI 3) 4 from vp_in_nI (by decide) (by decide)) dX5_accuracy_27 ?_
    refine k_topl (z := S.2.1 13 0 3) rfl ?_
    refine lv_lsub hx hb dX5_accuracy_28 ?_
    refine lv_l2d hx hb dX5_accuracy_29 ?_
    refine lv_aload_n hx hb dX5_accuracy_30 rfl (lv_at hl 0 rfl) ?_
    refine g_10_18 hx hb hts hiX5 hown hK hw kM_10 (hts (.fieldLink RX5 77 "BranchPredictorModel" "commits" "J") (by decide +kernel)) dX5_accuracy_31 ?_
    refine k_topl (z := S.2.1 10 0 18) rfl ?_
    refine lv_l2d hx hb dX5_accuracy_34 ?_
    refine lv_ddiv_any hd0 lw_bits hx hb dX5_accuracy_35 (fun r d1 hal hd1 => ?_)
    exact k_dret hd1 hx hb hr hlocks hK hw (Or.inr ⟨hn, hal⟩) rfl dX5_accuracy_36
  · have hn : S.2.1 10 0 18 = 0 := (lg_cmp_eq _ _).mp h1
    refine lv_dconst1 hx hb dX5_accuracy_14 ?_
    refine lv_goto (tgt := 36) hx hb dX5_accuracy_15 (by decide) ?_
    exact k_dret hd0 hx hb hr hlocks hK hw (Or.inl ⟨hn, rfl⟩) rfl dX5_accuracy_36
/-- a NaN isn't equal to itself -/
theorem nan_dec {x : UInt64} (h : isNaN64 x = true) : FP.Core.decode FP.Core.b64 x.toNat = .nan := by
  rw [isNaN64_iff] at h
  have e : x.toNat &&& 0x7fffffffffffffff = x.toNat % 2 ^ 63 := Nat.and_two_pow_sub_one_eq_mod x.toNat 63
  rw [e] at h
  unfold FP.Core.decode FP.Core.fieldE FP.Core.fieldT FP.Core.Fmt.tails FP.Core.Fmt.exps FP.Core.b64
  have h1 : x.toNat / 2 ^ (53 - 1) % 2 ^ 11 = 2 ^ 11 - 1 := by omega
  have h2 : ¬ x.toNat % 2 ^ (53 - 1) = 0 := by omega
  show (if x.toNat / 2 ^ (53 - 1) % 2 ^ 11 = 2 ^ 11 - 1 then (if x.toNat % 2 ^ (53 - 1) = 0 then _ else _) else _) = _
  rw [if_pos h1, if_neg h2]
theorem nan_cmp {x y : UInt64} (h : isNaN64 x = true) : Op.cmpValue (FP.dcmp x y) CmpOp.l = -1 := by
  unfold FP.dcmp FP.Core.dcmp FP.Core.cmp
  rw [nan_dec h]
  rfl
theorem acc_alike {n f : Int64} {r q : UInt64} (h1 : accD n f r) (h2 : accD n f q) : r = q ∨ (isNaN64 r = true ∧ isNaN64 q = true) := by
  rcases h1 with ⟨a1, a2⟩ | ⟨a1, a2⟩
  · rcases h2 with ⟨b1, b2⟩ | ⟨b1, b2⟩
    · exact .inl (a2.trans b2.symm)
    · exact absurd a1 b1
  · rcases h2 with ⟨b1, b2⟩ | ⟨b1, b2⟩
    · exact absurd b1 a1
    · generalize FP.ddiv (FP.l2d (n - f)) (FP.l2d n) = z at *
      simp only [alike64, Bool.or_eq_true, decide_eq_true_eq, Bool.and_eq_true] at a2 b2
      rcases a2 with a2 | a2
      · rcases b2 with b2 | b2
        · exact .inl (a2.trans b2.symm)
        · exact .inr ⟨by rw [a2]; exact b2.2, b2.1⟩
      · rcases b2 with b2 | b2
        · exact .inr ⟨a2.1, by rw [b2]; exact a2.2⟩
        · exact .inr ⟨a2.1, b2.1⟩
