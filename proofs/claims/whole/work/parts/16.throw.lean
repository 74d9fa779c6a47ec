/-! CONTRACTS of methods that may throw: the answer is a value and a new state, or the name of an exception, the state as it was -/
abbrev kR : Type := (Option Value × uS) ⊕ String
def kQx (G : gG) (ks : List kK) (Z : va_W) (A : Nat → Prop) (r : kR) : Array Value → State → Outcome → State → Prop := Sum.elim (fun q => kQ G ks Z A q.1 q.2) (fun _ => fun _ _ _ _ => False) r
def kXx (G : gG) (ks : List kK) (Z : va_W) (A : Nat → Prop) (S : uS) (r : kR) : String → State → State → Prop := Sum.elim (fun _ => fun _ _ _ => False) (fun E => fun E' st t => E' = E ∧ kB G ks Z A S t ∧ va_F A st t) r
def kMetX (l : Launch) (y : MethodName) (ws : List Cond) (rm : Room) (G : gG) (ks : List kK) (Z : va_W) (S : uS) (av : List Value) (r : kR) (mc ms : Nat) : Prop := ∀ sz : Nat, vx_Met l y ws rm (kPc G ks S Z sz av) (kQx G ks Z (kA G ks Z sz) r) (kXx G ks Z (kA G ks Z sz) S r) mc ms (kA G ks Z sz)
theorem vx_in_72 : ∀ w ∈ (vx_atS RX4 72 "java/lang/IllegalArgumentException" ["java/lang/RuntimeException", "java/lang/Exception"]).filter (fun w => !goodWord w), w ∈ [Cond.castable "java/lang/IllegalArgumentException" "java/lang/IllegalArgumentException", Cond.declares (Bundle.initS "java/lang/RuntimeException"), Cond.declares (Bundle.initS "java/lang/Exception"), Cond.declares (Bundle.initS Bundle.tN)] := by decide +kernel
theorem vx_in_86 : ∀ w ∈ (vx_atS RX4 86 "java/lang/IllegalStateException" ["java/lang/RuntimeException", "java/lang/Exception"]).filter (fun w => !goodWord w), w ∈ [Cond.castable "java/lang/IllegalStateException" "java/lang/IllegalStateException", Cond.declares (Bundle.initS "java/lang/RuntimeException"), Cond.declares (Bundle.initS "java/lang/Exception"), Cond.declares (Bundle.initS Bundle.tN)] := by decide +kernel
theorem vx_in_139 : ∀ w ∈ (vx_atS RX4 139 "java/lang/IndexOutOfBoundsException" ["java/lang/RuntimeException", "java/lang/Exception"]).filter (fun w => !goodWord w), w ∈ [Cond.castable "java/lang/IndexOutOfBoundsException" "java/lang/IndexOutOfBoundsException", Cond.declares (Bundle.initS "java/lang/RuntimeException"), Cond.declares (Bundle.initS "java/lang/Exception"), Cond.declares (Bundle.initS Bundle.tN)] := by decide +kernel
theorem vx_ok_72 : ∀ w ∈ Cond.classLink RX4 68 "java/lang/IllegalArgumentException" :: Cond.initialized "java/lang/IllegalArgumentException" :: vx_atS RX4 72 "java/lang/IllegalArgumentException" ["java/lang/RuntimeException", "java/lang/Exception"], vx_ot w = true := by decide +kernel
theorem vx_ok_86 : ∀ w ∈ Cond.classLink RX4 82 "java/lang/IllegalStateException" :: Cond.initialized "java/lang/IllegalStateException" :: vx_atS RX4 86 "java/lang/IllegalStateException" ["java/lang/RuntimeException", "java/lang/Exception"], vx_ot w = true := by decide +kernel
theorem vx_ok_139 : ∀ w ∈ Cond.classLink RX4 135 "java/lang/IndexOutOfBoundsException" :: Cond.initialized "java/lang/IndexOutOfBoundsException" :: vx_atS RX4 139 "java/lang/IndexOutOfBoundsException" ["java/lang/RuntimeException", "java/lang/Exception"], vx_ot w = true := by decide +kernel
theorem kx_at_72 {G : gG} {args : Array Value} {s : State} (hN : kN G s) (h : ∀ w ∈ (vx_atS RX4 72 "java/lang/IllegalArgumentException" ["java/lang/RuntimeException", "java/lang/Exception"]).filter goodWord, w.before args s = true) : ∀ w ∈ vx_atS RX4 72 "java/lang/IllegalArgumentException" ["java/lang/RuntimeException", "java/lang/Exception"], w.before args s = true := by
  obtain ⟨h0, h1, h2, h3, h4, h5, h6, h7, h8, g1, g2, g3, d1, d2, d3⟩ := hN
  exact vx_hat h vx_in_72 (vx_c (g1.use rfl) (vx_c (d1.use rfl) (vx_c (d2.use rfl) (vx_c (d3.use rfl) vx_n))))
theorem kx_at_86 {G : gG} {args : Array Value} {s : State} (hN : kN G s) (h : ∀ w ∈ (vx_atS RX4 86 "java/lang/IllegalStateException" ["java/lang/RuntimeException", "java/lang/Exception"]).filter goodWord, w.before args s = true) : ∀ w ∈ vx_atS RX4 86 "java/lang/IllegalStateException" ["java/lang/RuntimeException", "java/lang/Exception"], w.before args s = true := by
  obtain ⟨h0, h1, h2, h3, h4, h5, h6, h7, h8, g1, g2, g3, d1, d2, d3⟩ := hN
  exact vx_hat h vx_in_86 (vx_c (g2.use rfl) (vx_c (d1.use rfl) (vx_c (d2.use rfl) (vx_c (d3.use rfl) vx_n))))
theorem kx_at_139 {G : gG} {args : Array Value} {s : State} (hN : kN G s) (h : ∀ w ∈ (vx_atS RX4 139 "java/lang/IndexOutOfBoundsException" ["java/lang/RuntimeException", "java/lang/Exception"]).filter goodWord, w.before args s = true) : ∀ w ∈ vx_atS RX4 139 "java/lang/IndexOutOfBoundsException" ["java/lang/RuntimeException", "java/lang/Exception"], w.before args s = true := by
  obtain ⟨h0, h1, h2, h3, h4, h5, h6, h7, h8, g1, g2, g3, d1, d2, d3⟩ := hN
  exact vx_hat h vx_in_139 (vx_c (g3.use rfl) (vx_c (d1.use rfl) (vx_c (d2.use rfl) (vx_c (d3.use rfl) vx_n))))
section KX
variable {p : Program} {l : Launch} {e : Env} {R : Room} {s : State} {m : MethodId} {args : Array Value} {below : List Frame} {meth : Method} {c : Code} {H : Heap} {locs : List Loc} {cells slots : Nat} {Q : State → Prop}
variable {cc : ByteArray} {pc : Nat} {ls : Array Slot} {rest : List Value} {G : gG} {ks : List kK} {S : uS} {Z : va_W} {A : Nat → Prop} {H0 : Heap} {Ts : List Cond} {own : String} {index : Nat} {r : kR} {mc ms : Nat}
theorem kMetX_of {y : MethodName} {ws ws' : List Cond} {rm : Room} {av : List Value} {maxL : Nat} {ret : Option FieldType} (hy : plainName y.cls = true) (hw : ws = Cond.code y cc maxL ret :: ws') (hav : (lg_sl av).length ≤ maxL)
    (body : ∀ (p : Program) (e : Env) (s : State) (m : MethodId) (below : List Frame) (meth : Method) (c : Code), p.tables.exec = Jvm.exec → c.code = cc → meth.sig.returnType = ret → c.maxLocals = maxL → meth.locks = false → (∀ x ∈ c.exceptionTable.toList, False) → (∀ w ∈ ws, w.before av.toArray s = true) → s.vm.findClass y.cls = some m.cls → va_K G.1 vwCl (gTy G) s → kN G s → ∀ A : Nat → Prop, kZ A s s.heap → (∀ q, s.heap.size ≤ q → A q) → ∀ (H : Heap) (locs : List Loc), kS G ks S Z A s.heap H locs → ∀ ls : Array Slot, lv_has ls maxL (lv_args 0 av) →
      W p l e rm s m av.toArray below meth c H locs 0 0 (vx_MQ below (kQx G ks Z A r) (kXx G ks Z A S r) av.toArray s mc ms A) (F0 m 0 ls [])) : kMetX l y ws rm G ks Z S av r mc ms := by
  intro sz
  refine vx_ofW (cc := cc) (maxL := maxL) (ret := ret) hy hw ?_
  intro p e s m args below meth c s₁ B hml hno hv
  obtain ⟨rfl, hsz, hP, hK, hD0, hN, hZ⟩ := hv
  have hts := atoms_spec (ws := ws) B.pre
  have hown : s.vm.findClass y.cls = some m.cls := findClass_of_methodNamed B.named
  subst hsz
  have hl := lv_entry av (n := maxL) hav
  rw [lg_entry_eq]
  exact body p e s m below meth c B.exec B.bytes B.returns hml B.notSynchronized hno hts hown hK hN (kA G ks Z s.heap.size) hZ (fun q h => Or.inr (Or.inr h)) s.heap [] ⟨hP, kA_D hD0, va_S.rf⟩ _ hl
theorem kx_ret {g : JFrame} {v : Option Value} {u : uS} (hr : r = .inl (v, u)) (hc : cells ≤ mc) (hs : slots ≤ ms) (k : W p l e R s m args below meth c H locs mc ms (MQ below (kQ G ks Z A v u) args s mc ms A) g) : W p l e R s m args below meth c H locs cells slots (vx_MQ below (kQx G ks Z A r) (kXx G ks Z A S r) args s mc ms A) g := by
  subst hr
  exact W.widen hc hs (vx_ret k)
theorem kx_world {t : State} (hK : va_K G.1 vwCl (gTy G) s) (hw : kS G ks S Z A s.heap H locs) (ha : s.vm.Alike t.vm) (hz : H.size ≤ t.heap.size) (hk : ∀ q : Nat, q < H.size → t.heap[q]? = H[q]?) : kB G ks Z A S t ∧ va_F A s t := by
  refine ⟨⟨hw.1.kept (fun k q hq => hk q.1 (hw.1 k q hq).lt), va_K.moved ha hK, hw.2.1⟩, Nat.le_trans hw.2.2.1 hz, fun q h1 h2 => ?_⟩
  rw [hk q (Nat.lt_of_lt_of_le h1 hw.2.2.1)]
  exact hw.2.2.2.1 q h1 h2
theorem kx_throw {cls : String} {ik is ic : Nat} (hexec : p.tables.exec = Jvm.exec) (hb : c.code = cc) (hl : l.stackTraces = false) (hown : s.vm.findClass RX4 = some m.cls) (hcls : Bundle.fit cls = true)
    (hk : (Cond.classLink RX4 ik cls).before args s = true) (hini : (Cond.initialized cls).before args s = true) (hN : kN G s) (his : is ∈ kTk) (hat : ∀ w ∈ vx_atS RX4 ic cls ["java/lang/RuntimeException", "java/lang/Exception"], w.before args s = true)
    (hgood : ∀ w ∈ Cond.classLink RX4 ik cls :: Cond.initialized cls :: vx_atS RX4 ic cls ["java/lang/RuntimeException", "java/lang/Exception"], vx_ot w = true)
    (hK : va_K G.1 vwCl (gTy G) s) (hZ : kZ A s s.heap) (hw : kS G ks S Z A s.heap H locs) (hsize : ls.size = c.maxLocals) (hno : ∀ x ∈ c.exceptionTable.toList, False)
    (d0 : decode cc pc = .ok (.new ik, 3)) (d3 : decode cc (pc + 3) = .ok (.dup, 1)) (d4 : decode cc (pc + 4) = .ok (.ldc is, 2)) (d6 : decode cc (pc + 6) = .ok (.invokespecial ic, 3)) (d9 : decode cc (pc + 9) = .ok (.athrow, 1))
    (hRf : 5 < R.frames) (hRl : (rest.map fun v => v.category).sum + 82 ≤ R.locals) (hRc : cells + 1 ≤ R.cells) (hRs : slots + 6 ≤ R.slots) (hlocks : meth.locks = false) (hr : r = .inr cls) (hc : cells + 1 ≤ mc) (hs : slots + 6 ≤ ms) :
    W p l e R s m args below meth c H locs cells slots (vx_MQ below (kQx G ks Z A r) (kXx G ks Z A S r) args s mc ms A) (F0 m pc ls rest) := by
  subst hr
  exact vx_throwS hexec hb hl hown hcls (by decide) hk hini (hN.1 is his) hat hgood hZ.1 hZ.2 hw.2.2 hsize d0 d3 d4 d6 d9 (fun x hx => (hno x hx).elim) hRf hRl hRc hRs hlocks (fun t ha hz hq => ⟨rfl, kx_world hK hw ha hz hq⟩) hw.2.2.2.2 hc hs
/-- what is thrown below goes on upwards -/
theorem kx_prop {E : String} {ce : Cell} {q9 : Addr} (hK : va_K G.1 vwCl (gTy G) s) (hw : kS G ks S Z A s.heap H locs) (hno : ∀ x ∈ c.exceptionTable.toList, False) (hlocks : meth.locks = false) (hcell : H[q9]? = some ce) (hv : ce.vm = .none) (hcl : s.vm.findClass E = some ce.cls) (hr : r = .inr E) (hc : cells ≤ mc) (hs : slots ≤ ms) :
    vx_W p l e R s m args below meth c H locs cells slots (vx_MQ below (kQx G ks Z A r) (kXx G ks Z A S r) args s mc ms A) (F0 m pc ls rest) q9 := by
  subst hr
  exact vx_out (fun x hx => (hno x hx).elim) hlocks hcell hv hcl (fun t ht ha => ⟨rfl, kx_world hK hw ha (by rw [ht]; exact Nat.le_refl _) (fun q _ => by rw [ht])⟩) hw.2.2.2.2 hc hs
theorem kx_run {st0 : List Value} {a : Array Value} {mc0 ms0 : Nat} {r0 : kR} (hr : vx_Run p l e R s m args below meth c H locs cells slots mc0 ms0 (F0 m pc ls st0) rest (kQx G ks Z (kA G ks Z H.size) r0 a) (kXx G ks Z (kA G ks Z H.size) S r0) (kA G ks Z H.size)) (hw : kS G ks S Z A s.heap H locs) (hA : ∀ q, s.heap.size ≤ q → A q)
    (kx : ∀ E : String, r0 = .inr E → ∀ (q9 : Addr) (ce : Cell) (H1 : Heap) (locs1 : List Loc), kS G ks S Z A s.heap H1 locs1 → H1[q9]? = some ce → ce.vm = .none → s.vm.findClass E = some ce.cls → vx_W p l e R s m args below meth c H1 locs1 (cells + mc0) (slots + ms0) Q (F0 m pc ls rest) q9)
    (kk : ∀ (v : Option Value) (u : uS), r0 = .inl (v, u) → ∀ (H1 : Heap) (locs1 : List Loc), kS G ks u Z A s.heap H1 locs1 → W p l e R s m args below meth c H1 locs1 (cells + mc0) (slots + ms0) Q (F0 m (pc + 3) ls (v.toList ++ rest))) : W p l e R s m args below meth c H locs cells slots Q (F0 m pc ls st0) := by
  have hin := kA_in hw hA
  have hS := hw.2.2
  intro T hT X
  rcases hr T hT X with ⟨v', st₀, t, T', L, h0, X', hL, e1, e2, hq, st⟩ | ⟨q, st₀, t, T', L, E, ce, h0, X', hL, e1, e2, hq, hce, hcv, hcl, st⟩
  · cases h9 : r0 with
    | inr E => rw [h9] at hq; exact hq.elim
    | inl x =>
      obtain ⟨v, u⟩ := x
      rw [h9] at hq
      obtain ⟨⟨hv, hP1, hK1, hD1⟩, hF⟩ := hq
      cases hv
      obtain ⟨k1, k2, k3⟩ := vx_keep h0 e1 hS (fun q _ h => hin q h) hin hL hF
      obtain ⟨t2, a1, b1⟩ := kk v u h9 T'.heap (locs ++ L) ⟨by rw [e1]; exact hP1, hD1.weaken (fun _ q _ h => hin q.1 h), k3⟩ T' rfl X'
      exact ⟨t2, st t2 a1, b1⟩
  · cases h9 : r0 with
    | inl x => rw [h9] at hq; exact hq.elim
    | inr E0 =>
      rw [h9] at hq
      obtain ⟨rfl, ⟨hP1, hK1, hD1⟩, hF⟩ := hq
      obtain ⟨k1, k2, k3⟩ := vx_keep h0 e1 hS (fun q _ h => hin q h) hin hL hF
      obtain ⟨t2, a1, b1⟩ := kx E h9 q ce T'.heap (locs ++ L) ⟨by rw [e1]; exact hP1, hD1.weaken (fun _ q _ h => hin q.1 h), k3⟩ (by rw [e1]; exact hce) hcv hcl T' rfl X'
      exact ⟨t2, st.trans a1, b1⟩
section
variable {y : MethodName} {bytes : ByteArray} {maxL nL n : Nat} {ret : Option FieldType} {ws : List Cond} {rm : Room} {C : String} {As : List Value} {b : Nat} {mc0 ms0 : Nat} {r0 : kR}
theorem kx_callV {st0 : List Value} (hF : CallFix p m c cc nL s args Ts own) (hM : kMetX l y ws rm G ks Z S (.ref b :: As) r0 mc0 ms0) (cw : CallW R s args own C index y bytes maxL ret ws rm mc0 ms0 n) (hrec : ∃ cell : Cell, H[b]? = some cell ∧ cell.vm.isStatics = false ∧ s.vm.findClass C = some cell.cls)
    (hK : va_K G.1 vwCl (gTy G) s) (hN : kN G s) (hZ : kZ A s s.heap) (hA : ∀ q, s.heap.size ≤ q → A q) (hw : kS G ks S Z A s.heap H locs) (hc0 : cells + mc0 ≤ R.cells) (hs0 : slots + ms0 ≤ R.slots) (hn : As.length = n) (hsize : ls.size = nL) (hst : st0 = As.reverse ++ .ref b :: rest) (hR : (rest.map fun v => v.category).sum ≤ 8) (hdg : decode cc pc = .ok (.invokevirtual index, 3))
    (kx : ∀ E : String, r0 = .inr E → ∀ (q9 : Addr) (ce : Cell) (H1 : Heap) (locs1 : List Loc), kS G ks S Z A s.heap H1 locs1 → H1[q9]? = some ce → ce.vm = .none → s.vm.findClass E = some ce.cls → vx_W p l e R s m args below meth c H1 locs1 (cells + mc0) (slots + ms0) Q (F0 m pc ls rest) q9)
    (kk : ∀ (v : Option Value) (u : uS), r0 = .inl (v, u) → ∀ (H1 : Heap) (locs1 : List Loc), kS G ks u Z A s.heap H1 locs1 → W p l e R s m args below meth c H1 locs1 (cells + mc0) (slots + ms0) Q (F0 m (pc + 3) ls (v.toList ++ rest))) : W p l e R s m args below meth c H locs cells slots Q (F0 m pc ls st0) :=
  kx_run (vx_runV (As := As) (rest := rest) hF (hM H.size) cw ⟨kPc.blind, hrec, k_pre hK hN hZ hw hA⟩ rfl hn hsize hst (lv_room hR) hdg ⟨hc0, hs0⟩) hw hA kx kk
theorem kx_callS {st0 : List Value} (hF : CallFix p m c cc nL s args Ts own) (hM : kMetX l y ws rm G ks Z S As r0 mc0 ms0) (cw : CallB R s args own index y bytes maxL ret ws rm mc0 ms0 n ∧ (Cond.static y).before args s = true)
    (hK : va_K G.1 vwCl (gTy G) s) (hN : kN G s) (hZ : kZ A s s.heap) (hA : ∀ q, s.heap.size ≤ q → A q) (hw : kS G ks S Z A s.heap H locs) (hc0 : cells + mc0 ≤ R.cells) (hs0 : slots + ms0 ≤ R.slots) (hn : As.length = n) (hsize : ls.size = nL) (hst : st0 = As.reverse ++ rest) (hR : (rest.map fun v => v.category).sum ≤ 8) (hdg : decode cc pc = .ok (.invokestatic index, 3))
    (kx : ∀ E : String, r0 = .inr E → ∀ (q9 : Addr) (ce : Cell) (H1 : Heap) (locs1 : List Loc), kS G ks S Z A s.heap H1 locs1 → H1[q9]? = some ce → ce.vm = .none → s.vm.findClass E = some ce.cls → vx_W p l e R s m args below meth c H1 locs1 (cells + mc0) (slots + ms0) Q (F0 m pc ls rest) q9)
    (kk : ∀ (v : Option Value) (u : uS), r0 = .inl (v, u) → ∀ (H1 : Heap) (locs1 : List Loc), kS G ks u Z A s.heap H1 locs1 → W p l e R s m args below meth c H1 locs1 (cells + mc0) (slots + ms0) Q (F0 m (pc + 3) ls (v.toList ++ rest))) : W p l e R s m args below meth c H locs cells slots Q (F0 m pc ls st0) :=
  kx_run (vx_runS (As := As) (rest := rest) hF (hM H.size) cw ⟨kPc.blind, k_pre hK hN hZ hw hA⟩ rfl hn hsize hst (lv_room hR) hdg ⟨hc0, hs0⟩) hw hA kx kk
end
end KX
