/-! THE LAW'S LOOP: the ends of its cases, and how they read the script -/
theorem and31 (x : Int32) : ∃ t, t < 32 ∧ x &&& 31 = nI t := by
  refine ⟨x.toBitVec.toNat % 32, Nat.mod_lt _ (by decide), ?_⟩
  apply Int32.toBitVec_inj.mp
  apply BitVec.eq_of_toNat_eq
  have e : (31 : Int32).toBitVec = 31#32 := rfl
  rw [Int32.toBitVec_and, BitVec.toNat_and, e]
  have e2 : (31#32).toNat = 2 ^ 5 - 1 := rfl
  rw [e2, Nat.and_two_pow_sub_one_eq_mod]
  show x.toBitVec.toNat % 2 ^ 5 = (BitVec.ofNat 32 (x.toBitVec.toNat % 32)).toNat
  rw [BitVec.toNat_ofNat]
  have h := Nat.mod_lt x.toBitVec.toNat (show 0 < 32 by decide)
  omega
section KL2
variable {p : Program} {l : Launch} {e : Env} {s : State} {m : MethodId} {args : Array Value} {below : List Frame} {meth : Method} {c : Code} {H : Heap} {locs : List Loc} {cells slots : Nat} {Q : State → Prop}
variable {pc : Nat} {ls : Array Slot} {rest : List Value} {G : gG} {S M : uS} {A : Nat → Prop} {f : Nat → Int64} {R : Room}
theorem push_i {b L k j : Nat} {xs : Nat → Int32} {lx : List (Nat × Value)} (hx : p.tables.exec = Jvm.exec) (hb : c.code = cL_law) (hX : va_X b L xs s s.heap) (hbl : b < s.heap.size) (hbA : ¬ A b) (hS : va_S A s.heap H locs) (hl : lv_has ls 9 (lx ++ lwL G b (nI (4 * k)))) (hL : L ≤ 2048) (hk : 4 * k + 4 ≤ L) (hj : j < 4)
    (d0 : decode cL_law pc = .ok (.aload_n 0, 1)) (d1 : decode cL_law (pc + 1) = .ok (.iload 4, 2)) {jj : Int} (d3 : decode cL_law (pc + 3) = .ok (.iconst jj, 1)) (hjj : Int32.ofInt jj = nI j) (d4 : decode cL_law (pc + 4) = .ok (.iadd, 1)) (d5 : decode cL_law (pc + 5) = .ok (.iaload, 1))
    (kk : W p l e R s m args below meth c H locs cells slots Q (F0 m (pc + 6) ls (.int (xs (4 * k + j)) :: rest))) : W p l e R s m args below meth c H locs cells slots Q (F0 m pc ls rest) := by
  have a0 : ls[0]? = some (.val (.ref b)) := lv_at (k := lx.length + 4) hl (by rw [List.getElem?_append_right (Nat.le_add_right _ _), Nat.add_sub_cancel_left]; rfl)
  have a4 : ls[4]? = some (.val (.int (nI (4 * k)))) := lv_at (k := lx.length) hl (by rw [List.getElem?_append_right (Nat.le_refl _), Nat.sub_self]; rfl)
  refine lv_aload_n hx hb d0 rfl a0 ?_
  refine lv_iload hx hb d1 a4 ?_
  refine lv_iconst (v := nI j) hx hb d3 hjj ?_
  refine lv_iadd hx hb d4 ?_
  refine k_topi (z := nI (4 * k + j)) (nI_add _ _) ?_
  refine va_sld hx hb hX hbl hbA hS (vp_in_nI (show 4 * k + j < L by omega) (by omega)) d5 ?_
  rw [nI_clamp (by omega)]
  exact kk
theorem push_b {v : Int32} (hx : p.tables.exec = Jvm.exec) (hb : c.code = cL_law) (d0 : decode cL_law pc = .ok (.ifCond .eq 7, 3)) (d3 : decode cL_law (pc + 3) = .ok (.iconst 1, 1)) (d4 : decode cL_law (pc + 4) = .ok (.goto 4, 3)) (d7 : decode cL_law (pc + 7) = .ok (.iconst 0, 1))
    (kk : W p l e R s m args below meth c H locs cells slots Q (F0 m (pc + 8) ls (.int (bI (decide (v ≠ 0))) :: rest))) : W p l e R s m args below meth c H locs cells slots Q (F0 m pc ls (.int v :: rest)) := by
  refine lv_if_eq (tgt := pc + 7) hx hb d0 (by omega) (fun h => ?_) (fun h => ?_)
  · refine lv_iconst (v := 0) hx hb d7 (by decide) ?_
    rw [show decide (v ≠ 0) = false by simp [h]] at kk
    exact kk
  · refine lv_iconst (v := 1) hx hb d3 (by decide) ?_
    refine lv_goto (tgt := pc + 8) hx hb d4 (by omega) ?_
    rw [show decide (v ≠ 0) = true by simp [h]] at kk
    exact kk
theorem tail_Z {b : Nat} {i k : Int32} {v : Bool} (t : Nat) {hts : ∀ w ∈ wsL_law, w.before args s = true} (hx : p.tables.exec = Jvm.exec) (hb : c.code = cL_law) (hml : c.maxLocals = 9) (hown : s.vm.findClass RL = some m.cls) (hK : va_K G.1 vwCl (gTy G) s) (hN : kN G s) (hZ : kZ A s s.heap) (hA : ∀ q, s.heap.size ≤ q → A q) (hw : kS G kM M (kw kC G.2.2 (eU G S) ++ [kO G f]) A s.heap H locs) (hc : cells ≤ room_1.cells) (hs : slots ≤ room_1.slots)
    (hl : lv_has ls 9 ((6, .int (bI v)) :: (5, .int k) :: lwL G b i)) (hk : M.1 10 0 0 = k) (hv : k = 0 → f 0 = (bI v).toInt64)
    (d0 : decode cL_law t = .ok (.aload_n 2, 1)) (d1 : decode cL_law (t + 1) = .ok (.invokevirtual 74, 3)) (d4 : decode cL_law (t + 4) = .ok (.iload 5, 2)) (d6 : decode cL_law (t + 6) = .ok (.if_icmp .eq 5, 3)) (d11 : decode cL_law (t + 11) = .ok (.iload 5, 2)) (d13 : decode cL_law (t + 13) = .ok (.ifCond .ne 22, 3))
    (d16 : decode cL_law (t + 16) = .ok (.aload_n 3, 1)) (d17 : decode cL_law (t + 17) = .ok (.iconst 0, 1)) (d18 : decode cL_law (t + 18) = .ok (.laload, 1)) (d19 : decode cL_law (t + 19) = .ok (.iload 6, 2)) (d21 : decode cL_law (t + 21) = .ok (.ifCond .eq 7, 3)) (d24 : decode cL_law (t + 24) = .ok (.lconst 1, 1)) (d25 : decode cL_law (t + 25) = .ok (.goto 4, 3)) (d28 : decode cL_law (t + 28) = .ok (.lconst 0, 1)) (d29 : decode cL_law (t + 29) = .ok (.lcmp, 1)) (d30 : decode cL_law (t + 30) = .ok (.ifCond .eq 5, 3)) {o : Int} (d35 : decode cL_law (t + 35) = .ok (.goto o, 3)) (ho : ((t + 35 : Nat) : Int) + o = (1130 : Int))
    (kk : ∀ (H1 : Heap) (locs1 : List Loc) (ls1 : Array Slot), kS G kC S (kO G f :: kw kM G.2.2 (eU G M)) A s.heap H1 locs1 → lv_has ls1 9 (lwL G b i) → W p l e room_1 s m args below meth c H1 locs1 cells slots Q (F0 m 1130 ls1 [])) : W p l e room_1 s m args below meth c H locs cells slots Q (F0 m t ls []) := by
  have hend : ∀ (H1 : Heap) (locs1 : List Loc), kS G kM M (kw kC G.2.2 (eU G S) ++ [kO G f]) A s.heap H1 locs1 → W p l e room_1 s m args below meth c H1 locs1 cells slots Q (F0 m (t + 35) ls []) := fun H1 locs1 hw => by
    refine lv_goto (tgt := 1130) hx hb d35 ho ?_
    exact kk H1 locs1 ls (kS_flop hw) (lv_sub hl [2, 3, 4, 5, 6] rfl)
  refine tail_t (lx := [(6, .int (bI v))]) (hts := hts) t hx hb hml hown hK hN hZ hA hw hc hs hl hk d0 d1 d4 d6 d11 d13 (tg := t + 35) (by omega) hend (fun h0 H locs hw => ?_)
  have hf := hv h0
  refine lv_aload_n hx hb d16 rfl (lv_at hl 3 rfl) ?_
  refine lv_iconst (v := 0) hx hb d17 (by decide) ?_
  refine ko_ld hx hb hK (kS_flop hw) d18 ?_
  refine lv_iload hx hb d19 (lv_at hl 0 rfl) ?_
  refine k_if_eq (b := v) (tgt := t + 28) hx hb d21 (by omega) (fun h1 => ?_) (fun h1 => ?_)
  · cases h1
    refine lv_lconst (v := 0) hx hb d28 (by decide) ?_
    refine W.lcmp hx hb d29 ?_
    refine lv_if_eq (tgt := t + 35) hx hb d30 (by omega) (fun _ => hend H locs hw) (fun h => absurd ((lg_cmp_eq _ _).mpr hf) h)
  · cases (Bool.not_eq_false _).mp h1
    refine lv_lconst (v := 1) hx hb d24 (by decide) ?_
    refine lv_goto (tgt := t + 29) hx hb d25 (by omega) ?_
    refine W.lcmp hx hb d29 ?_
    refine lv_if_eq (tgt := t + 35) hx hb d30 (by omega) (fun _ => hend H locs hw) (fun h => absurd ((lg_cmp_eq _ _).mpr hf) h)
theorem tail_I {b : Nat} {i k : Int32} {v : Int32} (t : Nat) {hts : ∀ w ∈ wsL_law, w.before args s = true} (hx : p.tables.exec = Jvm.exec) (hb : c.code = cL_law) (hml : c.maxLocals = 9) (hown : s.vm.findClass RL = some m.cls) (hK : va_K G.1 vwCl (gTy G) s) (hN : kN G s) (hZ : kZ A s s.heap) (hA : ∀ q, s.heap.size ≤ q → A q) (hw : kS G kM M (kw kC G.2.2 (eU G S) ++ [kO G f]) A s.heap H locs) (hc : cells ≤ room_1.cells) (hs : slots ≤ room_1.slots)
    (hl : lv_has ls 9 ((6, .int v) :: (5, .int k) :: lwL G b i)) (hk : M.1 10 0 0 = k) (hv : k = 0 → f 0 = v.toInt64)
    (d0 : decode cL_law t = .ok (.aload_n 2, 1)) (d1 : decode cL_law (t + 1) = .ok (.invokevirtual 74, 3)) (d4 : decode cL_law (t + 4) = .ok (.iload 5, 2)) (d6 : decode cL_law (t + 6) = .ok (.if_icmp .eq 5, 3)) (d11 : decode cL_law (t + 11) = .ok (.iload 5, 2)) (d13 : decode cL_law (t + 13) = .ok (.ifCond .ne 15, 3))
    (d16 : decode cL_law (t + 16) = .ok (.aload_n 3, 1)) (d17 : decode cL_law (t + 17) = .ok (.iconst 0, 1)) (d18 : decode cL_law (t + 18) = .ok (.laload, 1)) (d19 : decode cL_law (t + 19) = .ok (.iload 6, 2)) (d21 : decode cL_law (t + 21) = .ok (.i2l, 1)) (d22 : decode cL_law (t + 22) = .ok (.lcmp, 1)) (d23 : decode cL_law (t + 23) = .ok (.ifCond .eq 5, 3)) {o : Int} (d28 : decode cL_law (t + 28) = .ok (.goto o, 3)) (ho : ((t + 28 : Nat) : Int) + o = (1130 : Int))
    (kk : ∀ (H1 : Heap) (locs1 : List Loc) (ls1 : Array Slot), kS G kC S (kO G f :: kw kM G.2.2 (eU G M)) A s.heap H1 locs1 → lv_has ls1 9 (lwL G b i) → W p l e room_1 s m args below meth c H1 locs1 cells slots Q (F0 m 1130 ls1 [])) : W p l e room_1 s m args below meth c H locs cells slots Q (F0 m t ls []) := by
  have hend : ∀ (H1 : Heap) (locs1 : List Loc), kS G kM M (kw kC G.2.2 (eU G S) ++ [kO G f]) A s.heap H1 locs1 → W p l e room_1 s m args below meth c H1 locs1 cells slots Q (F0 m (t + 28) ls []) := fun H1 locs1 hw => by
    refine lv_goto (tgt := 1130) hx hb d28 ho ?_
    exact kk H1 locs1 ls (kS_flop hw) (lv_sub hl [2, 3, 4, 5, 6] rfl)
  refine tail_t (lx := [(6, .int v)]) (hts := hts) t hx hb hml hown hK hN hZ hA hw hc hs hl hk d0 d1 d4 d6 d11 d13 (tg := t + 28) (by omega) hend (fun h0 H locs hw => ?_)
  have hf := hv h0
  refine lv_aload_n hx hb d16 rfl (lv_at hl 3 rfl) ?_
  refine lv_iconst (v := 0) hx hb d17 (by decide) ?_
  refine ko_ld hx hb hK (kS_flop hw) d18 ?_
  refine lv_iload hx hb d19 (lv_at hl 0 rfl) ?_
  refine lv_i2l (v := v.toInt64) hx hb d21 rfl ?_
  refine W.lcmp hx hb d22 ?_
  refine lv_if_eq (tgt := t + 28) hx hb d23 (by omega) (fun _ => hend H locs hw) (fun h => absurd ((lg_cmp_eq _ _).mpr hf) h)
theorem tail_J {b : Nat} {i k : Int32} {v : Int64} (t : Nat) {hts : ∀ w ∈ wsL_law, w.before args s = true} (hx : p.tables.exec = Jvm.exec) (hb : c.code = cL_law) (hml : c.maxLocals = 9) (hown : s.vm.findClass RL = some m.cls) (hK : va_K G.1 vwCl (gTy G) s) (hN : kN G s) (hZ : kZ A s s.heap) (hA : ∀ q, s.heap.size ≤ q → A q) (hw : kS G kM M (kw kC G.2.2 (eU G S) ++ [kO G f]) A s.heap H locs) (hc : cells ≤ room_1.cells) (hs : slots ≤ room_1.slots)
    (hl : lv_has ls 9 ((6, .long v) :: (5, .int k) :: lwL G b i)) (hk : M.1 10 0 0 = k) (hv : k = 0 → f 0 = v)
    (d0 : decode cL_law t = .ok (.aload_n 2, 1)) (d1 : decode cL_law (t + 1) = .ok (.invokevirtual 74, 3)) (d4 : decode cL_law (t + 4) = .ok (.iload 5, 2)) (d6 : decode cL_law (t + 6) = .ok (.if_icmp .eq 5, 3)) (d11 : decode cL_law (t + 11) = .ok (.iload 5, 2)) (d13 : decode cL_law (t + 13) = .ok (.ifCond .ne 14, 3))
    (d16 : decode cL_law (t + 16) = .ok (.aload_n 3, 1)) (d17 : decode cL_law (t + 17) = .ok (.iconst 0, 1)) (d18 : decode cL_law (t + 18) = .ok (.laload, 1)) (d19 : decode cL_law (t + 19) = .ok (.lload 6, 2)) (d21 : decode cL_law (t + 21) = .ok (.lcmp, 1)) (d22 : decode cL_law (t + 22) = .ok (.ifCond .eq 5, 3)) {o : Int} (d27 : decode cL_law (t + 27) = .ok (.goto o, 3)) (ho : ((t + 27 : Nat) : Int) + o = (1130 : Int))
    (kk : ∀ (H1 : Heap) (locs1 : List Loc) (ls1 : Array Slot), kS G kC S (kO G f :: kw kM G.2.2 (eU G M)) A s.heap H1 locs1 → lv_has ls1 9 (lwL G b i) → W p l e room_1 s m args below meth c H1 locs1 cells slots Q (F0 m 1130 ls1 [])) : W p l e room_1 s m args below meth c H locs cells slots Q (F0 m t ls []) := by
  have hend : ∀ (H1 : Heap) (locs1 : List Loc), kS G kM M (kw kC G.2.2 (eU G S) ++ [kO G f]) A s.heap H1 locs1 → W p l e room_1 s m args below meth c H1 locs1 cells slots Q (F0 m (t + 27) ls []) := fun H1 locs1 hw => by
    refine lv_goto (tgt := 1130) hx hb d27 ho ?_
    exact kk H1 locs1 ls (kS_flop hw) (lv_sub hl [2, 3, 4, 5, 6] rfl)
  refine tail_t (lx := [(6, .long v)]) (hts := hts) t hx hb hml hown hK hN hZ hA hw hc hs hl hk d0 d1 d4 d6 d11 d13 (tg := t + 27) (by omega) hend (fun h0 H locs hw => ?_)
  have hf := hv h0
  refine lv_aload_n hx hb d16 rfl (lv_at hl 3 rfl) ?_
  refine lv_iconst (v := 0) hx hb d17 (by decide) ?_
  refine ko_ld hx hb hK (kS_flop hw) d18 ?_
  refine lv_lload hx hb d19 (lv_at hl 0 rfl) ?_
  refine W.lcmp hx hb d21 ?_
  refine lv_if_eq (tgt := t + 27) hx hb d22 (by omega) (fun _ => hend H locs hw) (fun h => absurd ((lg_cmp_eq _ _).mpr hf) h)
end KL2
