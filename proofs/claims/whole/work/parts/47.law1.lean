/-! THE LAW'S LOOP: what its cases share -/
theorem kS_flip {G : gG} {S M : uS} {f : Nat → Int64} {A : Nat → Prop} {H0 H : Heap} {locs : List Loc} (h : kS G kC S (kO G f :: kw kM G.2.2 (eU G M)) A H0 H locs) : kS G kM M (kw kC G.2.2 (eU G S) ++ [kO G f]) A H0 H locs := by
  have q : (kw kC G.2.2 (eU G S) ++ kO G f :: kw kM G.2.2 (eU G M)).Perm (kw kM G.2.2 (eU G M) ++ (kw kC G.2.2 (eU G S) ++ [kO G f])) := by
    rw [show kw kC G.2.2 (eU G S) ++ kO G f :: kw kM G.2.2 (eU G M) = (kw kC G.2.2 (eU G S) ++ [kO G f]) ++ kw kM G.2.2 (eU G M) by rw [List.append_assoc]; rfl]
    exact List.perm_append_comm
  exact ⟨va_P_perm q h.1, va_D_perm q h.2.1, h.2.2⟩
theorem kS_flop {G : gG} {S M : uS} {f : Nat → Int64} {A : Nat → Prop} {H0 H : Heap} {locs : List Loc} (h : kS G kM M (kw kC G.2.2 (eU G S) ++ [kO G f]) A H0 H locs) : kS G kC S (kO G f :: kw kM G.2.2 (eU G M)) A H0 H locs := by
  have q : (kw kM G.2.2 (eU G M) ++ (kw kC G.2.2 (eU G S) ++ [kO G f])).Perm (kw kC G.2.2 (eU G S) ++ kO G f :: kw kM G.2.2 (eU G M)) := by
    rw [show kw kC G.2.2 (eU G S) ++ kO G f :: kw kM G.2.2 (eU G M) = (kw kC G.2.2 (eU G S) ++ [kO G f]) ++ kw kM G.2.2 (eU G M) by rw [List.append_assoc]; rfl]
    exact List.perm_append_comm
  exact ⟨va_P_perm q h.1, va_D_perm q h.2.1, h.2.2⟩
theorem Agree_K {cd : String → Int32} {r : kR} {S M' : uS} {v : Value} (f : Nat → Int64) (h : Agree cd r S M' v) : M'.1 10 0 0 = wK cd r ∧ RelE (wS r S) M' ∧ (wK cd r = 0 → wF r f 0 = v64 (some v)) := by
  cases r with
  | inl q =>
    obtain ⟨h1, h2, h3⟩ := h
    refine ⟨h2, h3, fun _ => ?_⟩
    show vp_updL f 0 (v64 q.1) 0 = _
    rw [h1]
    simp [vp_updL]
  | inr E =>
    obtain ⟨h1, h2, h3⟩ := h
    exact ⟨h1, h3, fun q => absurd q h2⟩
/-- the reference's places and histories, as numbers -/
def Xf (M : uS) (j : Nat) : Nat := (M.1 11 2 j).toNatClampNeg
def Wf (M : uS) (j : Nat) : Nat := (M.1 11 3 j).toNatClampNeg
theorem hXf {M : uS} (h : rJ M) : ∀ j, j < 16 → M.1 11 2 j = nI (Xf M j) ∧ Xf M j < 65536 := by
  intro j hj
  obtain ⟨⟨x, hx, e⟩, -⟩ := h j hj
  unfold Xf
  rw [e, nI_clamp (by omega)]
  exact ⟨rfl, hx⟩
theorem hWf {M : uS} (h : rJ M) : ∀ j, j < 16 → M.1 11 3 j = nI (Wf M j) ∧ Wf M j < 256 := by
  intro j hj
  obtain ⟨-, ⟨x, hx, e⟩⟩ := h j hj
  unfold Wf
  rw [e, nI_clamp (by omega)]
  exact ⟨rfl, hx⟩
section KL
variable {p : Program} {l : Launch} {e : Env} {R : Room} {s : State} {m : MethodId} {args : Array Value} {below : List Frame} {meth : Method} {c : Code} {H : Heap} {locs : List Loc} {cells slots : Nat} {Q : State → Prop}
variable {cc : ByteArray} {pc : Nat} {ls : Array Slot} {rest : List Value} {G : gG} {S M : uS} {Z : va_W} {A : Nat → Prop} {H0 : Heap} {Ts : List Cond} {own : String} {index : Nat} {f : Nat → Int64} {cd : String → Int32} {mc0 ms0 : Nat} {r0 : kR}
variable {y : MethodName} {bytes : ByteArray} {maxL nL n : Nat} {ret : Option FieldType} {ws : List Cond} {rm : Room} {hh : List (Nat × Nat × Nat × Nat)} {As : List Value}
theorem ko_run {st0 : List Value} {a : Array Value} (hr : vx_Run p l e R s m args below meth c H locs cells slots mc0 ms0 (F0 m pc ls st0) rest (kQo G Z (kA G kC (kO G f :: Z) H.size) cd r0 S f a) (fun _ _ _ => False) (kA G kC (kO G f :: Z) H.size)) (hw : kS G kC S (kO G f :: Z) A s.heap H locs) (hA : ∀ q, s.heap.size ≤ q → A q)
    (kk : ∀ (H1 : Heap) (locs1 : List Loc), kS G kC (wS r0 S) (kO G (wF r0 f) :: Z) A s.heap H1 locs1 → W p l e R s m args below meth c H1 locs1 (cells + mc0) (slots + ms0) Q (F0 m (pc + 3) ls (.int (wK cd r0) :: rest))) : W p l e R s m args below meth c H locs cells slots Q (F0 m pc ls st0) := by
  have hin := kA_in hw hA
  have hS := hw.2.2
  intro T hT X
  rcases hr T hT X with ⟨v', st₀, t, T', L, h0, X', hL, e1, e2, hq, st⟩ | ⟨q, st₀, t, T', L, E, ce, h0, X', hL, e1, e2, hq, hce, hcv, hcl, st⟩
  · obtain ⟨⟨hv, hP1, hK1, hD1⟩, hF⟩ := hq
    cases hv
    obtain ⟨k1, k2, k3⟩ := vx_keep h0 e1 hS (fun q _ h => hin q h) hin hL hF
    obtain ⟨t2, a1, b1⟩ := kk T'.heap (locs ++ L) ⟨by rw [e1]; exact hP1, hD1.weaken (fun _ q _ h => hin q.1 h), k3⟩ T' rfl X'
    exact ⟨t2, st t2 a1, b1⟩
  · exact hq.elim
theorem ko_callS {st0 : List Value} (hF : CallFix p m c cc nL s args Ts own) (hM : kMetO l y ws rm G Z S f As cd r0 mc0 ms0) (cw : vx_CSW R s args own index y bytes maxL ret hh ws rm mc0 ms0 n)
    (hK : va_K G.1 vwCl (gTy G) s) (hN : kN G s) (hZ : kZ A s s.heap) (hA : ∀ q, s.heap.size ≤ q → A q) (hw : kS G kC S (kO G f :: Z) A s.heap H locs) (hc0 : cells + mc0 ≤ R.cells) (hs0 : slots + ms0 ≤ R.slots) (hn : As.length = n) (hsize : ls.size = nL) (hst : st0 = As.reverse ++ rest) (hR : (rest.map fun v => v.category).sum ≤ 8) (hdg : decode cc pc = .ok (.invokestatic index, 3))
    (kk : ∀ (H1 : Heap) (locs1 : List Loc), kS G kC (wS r0 S) (kO G (wF r0 f) :: Z) A s.heap H1 locs1 → W p l e R s m args below meth c H1 locs1 (cells + mc0) (slots + ms0) Q (F0 m (pc + 3) ls (.int (wK cd r0) :: rest))) : W p l e R s m args below meth c H locs cells slots Q (F0 m pc ls st0) :=
  ko_run (vx_runSX (As := As) (rest := rest) hF (hM H.size) cw ⟨kPc.blind, k_pre hK hN hZ hw hA⟩ rfl hn hsize hst (lv_room hR) hdg ⟨hc0, hs0⟩) hw hA kk
/-- the law's locals, at the loop's head -/
abbrev lwL (G : gG) (b : Nat) (i : Int32) : List (Nat × Value) := [(4, .int i), (3, .ref (G.2.2 (14, 0))), (2, .ref (G.2.2 (10, 0))), (1, .ref (G.2.2 (0, 0))), (0, .ref b)]
/-- behind a call that may throw: what both threw, then what both answered -/
theorem tail_t {b : Nat} {i k : Int32} {lx : List (Nat × Value)} (t : Nat) {hts : ∀ w ∈ wsL_law, w.before args s = true} (hx : p.tables.exec = Jvm.exec) (hb : c.code = cL_law) (hml : c.maxLocals = 9) (hown : s.vm.findClass RL = some m.cls) (hK : va_K G.1 vwCl (gTy G) s) (hN : kN G s) (hZ : kZ A s s.heap) (hA : ∀ q, s.heap.size ≤ q → A q) (hw : kS G kM M (kw kC G.2.2 (eU G S) ++ [kO G f]) A s.heap H locs) (hc : cells ≤ room_1.cells) (hs : slots ≤ room_1.slots)
    (hl : lv_has ls 9 (lx ++ (5, .int k) :: lwL G b i)) (hk : M.1 10 0 0 = k)
    (d0 : decode cL_law t = .ok (.aload_n 2, 1)) (d1 : decode cL_law (t + 1) = .ok (.invokevirtual 74, 3)) (d4 : decode cL_law (t + 4) = .ok (.iload 5, 2)) (d6 : decode cL_law (t + 6) = .ok (.if_icmp .eq 5, 3)) (d11 : decode cL_law (t + 11) = .ok (.iload 5, 2)) {o : Int} {tg : Nat} (d13 : decode cL_law (t + 13) = .ok (.ifCond .ne o, 3)) (htg : ((t + 13 : Nat) : Int) + o = (tg : Int))
    (ke : ∀ (H1 : Heap) (locs1 : List Loc), kS G kM M (kw kC G.2.2 (eU G S) ++ [kO G f]) A s.heap H1 locs1 → W p l e room_1 s m args below meth c H1 locs1 cells slots Q (F0 m tg ls []))
    (kv : k = 0 → ∀ (H1 : Heap) (locs1 : List Loc), kS G kM M (kw kC G.2.2 (eU G S) ++ [kO G f]) A s.heap H1 locs1 → W p l e room_1 s m args below meth c H1 locs1 cells slots Q (F0 m (t + 16) ls [])) : W p l e room_1 s m args below meth c H locs cells slots Q (F0 m t ls []) := by
  have a2 : ls[2]? = some (.val (.ref (G.2.2 (10, 0)))) := lv_at (k := lx.length + 3) hl (by rw [List.getElem?_append_right (Nat.le_add_right _ _), Nat.add_sub_cancel_left]; rfl)
  have a5 : ls[5]? = some (.val (.int k)) := lv_at (k := lx.length) hl (by rw [List.getElem?_append_right (Nat.le_refl _), Nat.sub_self]; rfl)
  refine lv_aload_n hx hb d0 rfl a2 ?_
  refine k_callV (C := RX5) (n := 0) (rest := []) ⟨hx, hb, hml, hown, hts⟩ (cX5c_thrown l G (kw kC G.2.2 (eU G S) ++ [kO G f]) M) (cwV 0 hts gL_law_X5_thrown rfl rfl rfl (by decide +kernel) ⟨Nat.le_of_ble_eq_true rfl, Nat.le_of_ble_eq_true rfl⟩) (k_recv hK hw kM_10 rfl rfl) hK hN hZ hA hw hc hs rfl hl.1 rfl (Nat.le_of_ble_eq_true rfl) d1 (fun H locs hw => ?_)
  refine W.eq (g2 := F0 m (t + 4) ls [.int (M.1 10 0 0)]) rfl ?_
  refine lv_iload hx hb d4 a5 ?_
  refine lv_icmp_eq (tgt := t + 11) hx hb d6 (by omega) (fun _ => ?_) (fun h => absurd hk h)
  refine lv_iload hx hb d11 a5 ?_
  refine lv_if_ne (tgt := tg) hx hb d13 htg (fun _ => ke H locs hw) (fun h => ?_)
  exact W.eq (g2 := F0 m (t + 16) ls []) rfl (kv h H locs hw)
end KL
