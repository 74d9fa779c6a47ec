/-! THE LAW'S WRAPPERS: each calls one method of the predictor and puts its answer into the law's row, or answers with a number for what was thrown -/
theorem va_P_perm {D : va_G} {cl : List vw_C} {ws ws' : va_W} {H : Heap} (p : ws.Perm ws') (h : va_P D cl ws H) : va_P D cl ws' H := by
  intro k q hk
  obtain ⟨i, hi⟩ := List.getElem?_of_mem (p.mem_iff.mpr (List.mem_of_getElem? hk))
  exact h i q hi
theorem va_D_iff {A : Nat → Prop} {ws : va_W} : va_D A ws ↔ (ws.map Prod.fst).Nodup ∧ ∀ q ∈ ws, A q.1 := by
  constructor
  · intro h
    refine ⟨?_, fun q hq => ?_⟩
    · rw [List.Nodup, List.pairwise_iff_getElem]
      intro i j hi hj hij he
      rw [List.length_map] at hi hj
      rw [List.getElem_map, List.getElem_map] at he
      have := h.1 i j ws[i] ws[j] (List.getElem?_eq_getElem hi) (List.getElem?_eq_getElem hj) he
      omega
    · obtain ⟨i, hi⟩ := List.getElem?_of_mem hq
      exact h.2 i q hi
  · intro h
    refine ⟨fun i j a b hi hj he => ?_, fun k q hk => h.2 q (List.mem_of_getElem? hk)⟩
    obtain ⟨hi', hi2⟩ := List.getElem?_eq_some_iff.mp hi
    obtain ⟨hj', hj2⟩ := List.getElem?_eq_some_iff.mp hj
    have h1 := h.1
    rw [List.Nodup, List.pairwise_iff_getElem] at h1
    rcases Nat.lt_trichotomy i j with c | c | c
    · refine absurd ?_ (h1 i j (by rw [List.length_map]; exact hi') (by rw [List.length_map]; exact hj') c)
      rw [List.getElem_map, List.getElem_map, hi2, hj2, he]
    · exact c
    · refine absurd ?_ (h1 j i (by rw [List.length_map]; exact hj') (by rw [List.length_map]; exact hi') c)
      rw [List.getElem_map, List.getElem_map, hi2, hj2, he]
theorem va_D_perm {A : Nat → Prop} {ws ws' : va_W} (p : ws.Perm ws') (h : va_D A ws) : va_D A ws' := by
  rw [va_D_iff] at h ⊢
  exact ⟨(p.map Prod.fst).nodup_iff.mp h.1, fun q hq => h.2 q (p.mem_iff.mpr hq)⟩
/-- the law's row of one long -/
def kO (G : gG) (f : Nat → Int64) : Nat × va_E := (G.2.2 (14, 0), .inl (G.2.1 1, 1, .inr (.inl f)))
def v64 : Option Value → Int64
  | some (.int i) => i.toInt64
  | some (.long x) => x
  | _ => 0
def wK (cd : String → Int32) (r : kR) : Int32 := Sum.elim (fun _ => 0) cd r
def wS (r : kR) (S : uS) : uS := Sum.elim (fun q : Option Value × uS => q.2) (fun _ => S) r
def wF (r : kR) (f : Nat → Int64) : Nat → Int64 := Sum.elim (fun q : Option Value × uS => vp_updL f 0 (v64 q.1)) (fun _ => f) r
def kQo (G : gG) (Z : va_W) (A : Nat → Prop) (cd : String → Int32) (r : kR) (S : uS) (f : Nat → Int64) : Array Value → State → Outcome → State → Prop := fun _ st oc t => (oc = .returned (some (.int (wK cd r))) ∧ kB G kC (kO G (wF r f) :: Z) A (wS r S) t) ∧ va_F A st t
def kMetO (l : Launch) (y : MethodName) (ws : List Cond) (rm : Room) (G : gG) (Z : va_W) (S : uS) (f : Nat → Int64) (av : List Value) (cd : String → Int32) (r : kR) (mc ms : Nat) : Prop := ∀ sz : Nat, vx_Met l y ws rm (kPc G kC S (kO G f :: Z) sz av) (kQo G Z (kA G kC (kO G f :: Z) sz) cd r S f) (fun _ _ _ => False) mc ms (kA G kC (kO G f :: Z) sz)
theorem ko_get {a : va_W} {x : Nat × va_E} {b : va_W} : (a ++ x :: b)[a.length]? = some x := by
  rw [List.getElem?_append_right (Nat.le_refl _), Nat.sub_self]
  rfl
theorem ko_set {a : va_W} {x y : Nat × va_E} {b : va_W} : (a ++ x :: b).set a.length y = a ++ y :: b := by
  rw [List.set_append_right _ _ (Nat.le_refl _), Nat.sub_self]
  rfl
section KO
variable {p : Program} {l : Launch} {e : Env} {R : Room} {s : State} {m : MethodId} {args : Array Value} {below : List Frame} {meth : Method} {c : Code} {H : Heap} {locs : List Loc} {cells slots : Nat} {Q : State → Prop}
variable {cc : ByteArray} {pc : Nat} {ls : Array Slot} {rest : List Value} {G : gG} {ks : List kK} {S : uS} {Z : va_W} {A : Nat → Prop} {H0 : Heap} {Ts : List Cond} {own : String} {index : Nat} {f : Nat → Int64} {cd : String → Int32} {r : kR} {mc ms : Nat}
theorem kMetO_of {y : MethodName} {ws ws' : List Cond} {rm : Room} {av : List Value} {maxL : Nat} {hh : List (Nat × Nat × Nat × Nat)} (hy : plainName y.cls = true) (hw : ws = Cond.codeWith y cc maxL (some .int) hh :: ws') (hav : (lg_sl av).length ≤ maxL)
    (body : ∀ (p : Program) (e : Env) (s : State) (m : MethodId) (below : List Frame) (meth : Method) (c : Code), p.tables.exec = Jvm.exec → c.code = cc → meth.sig.returnType = some .int → c.maxLocals = maxL → meth.locks = false → c.exceptionTable.toList = tableOf hh → (∀ w ∈ ws, w.before av.toArray s = true) → s.vm.findClass y.cls = some m.cls → va_K G.1 vwCl (gTy G) s → kN G s → ∀ A : Nat → Prop, kZ A s s.heap → (∀ q, s.heap.size ≤ q → A q) → ∀ (H : Heap) (locs : List Loc), kS G kC S (kO G f :: Z) A s.heap H locs → ∀ ls : Array Slot, lv_has ls maxL (lv_args 0 av) →
      W p l e rm s m av.toArray below meth c H locs 0 0 (vx_MQ below (kQo G Z A cd r S f) (fun _ _ _ => False) av.toArray s mc ms A) (F0 m 0 ls [])) : kMetO l y ws rm G Z S f av cd r mc ms := by
  intro sz
  refine vx_ofWH (cc := cc) (maxL := maxL) (ret := some .int) (hh := hh) hy hw ?_
  intro p e s m args below meth c s₁ B hml hv
  obtain ⟨rfl, hsz, hP, hK, hD0, hN, hZ⟩ := hv
  have hts := atoms_spec (ws := ws) B.pre
  have hown : s.vm.findClass y.cls = some m.cls := findClass_of_methodNamed B.named
  have htab := vx_table (x := y) B (hts _ (by rw [hw]; exact List.mem_cons_self))
  subst hsz
  have hl := lv_entry av (n := maxL) hav
  rw [lg_entry_eq]
  exact body p e s m below meth c B.exec B.bytes B.returns hml B.notSynchronized htab hts hown hK hN (kA G kC (kO G f :: Z) s.heap.size) hZ (fun q h => Or.inr (Or.inr h)) s.heap [] ⟨hP, kA_D hD0, va_S.rf⟩ _ hl
theorem ko_ret {u' : uS} {f' : Nat → Int64} {k : Int32} (hx : p.tables.exec = Jvm.exec) (hb : c.code = cc) (hr : meth.sig.returnType = some .int) (hlocks : meth.locks = false) (hK : va_K G.1 vwCl (gTy G) s) (hw : kS G kC u' (kO G f' :: Z) A s.heap H locs) (h1 : wK cd r = k) (h2 : wS r S = u') (h3 : wF r f = f') (hc : cells ≤ mc) (hs : slots ≤ ms) (hdg : decode cc pc = .ok (.ireturn, 1)) : W p l e R s m args below meth c H locs cells slots (vx_MQ below (kQo G Z A cd r S f) (fun _ _ _ => False) args s mc ms A) (F0 m pc ls [.int k]) := by
  subst h1 h2 h3
  exact W.widen hc hs (vx_ret (W.iret hx hb hr (fun t ht hW => ⟨⟨rfl, by rw [ht]; exact hw.1, va_K.moved hW.alike hK, hw.2.1⟩, hw.2.2.F ht⟩) hw.2.2.2.2 hdg hlocks))
theorem ko_st {u : uS} (hx : p.tables.exec = Jvm.exec) (hb : c.code = cc) (hK : va_K G.1 vwCl (gTy G) s) (hw : kS G ks u (kO G f :: Z) A H0 H locs) {x : Int64} (hdg : decode cc pc = .ok (.lastore, 1)) (kk : ∀ (H1 : Heap) (locs1 : List Loc), kS G ks u (kO G (vp_updL f 0 x) :: Z) A H0 H1 locs1 → W p l e R s m args below meth c H1 locs1 cells slots Q (F0 m (pc + 1) ls rest)) : W p l e R s m args below meth c H locs cells slots Q (F0 m pc ls (.long x :: .int 0 :: .ref (G.2.2 (14, 0)) :: rest)) := by
  refine va_last (D := G.1) hx hb hK hw.1 hw.2.1 hw.2.2 (kw ks G.2.2 (eU G u)).length 1 (a := G.2.2 (14, 0)) (cA := G.2.1 1) (n := 1) (f := f) ko_get rfl (show vp_in (nI 0) 1 from vp_in_nI (by decide) (by decide)) hdg (fun H1 locs1 hP hD hS => ?_)
  rw [ko_set] at hP hD
  exact kk H1 locs1 ⟨hP, hD, hS⟩
theorem ko_ld {u : uS} (hx : p.tables.exec = Jvm.exec) (hb : c.code = cc) (hK : va_K G.1 vwCl (gTy G) s) (hw : kS G ks u (kO G f :: Z) A H0 H locs) (hdg : decode cc pc = .ok (.laload, 1)) (kk : W p l e R s m args below meth c H locs cells slots Q (F0 m (pc + 1) ls (.long (f 0) :: rest))) : W p l e R s m args below meth c H locs cells slots Q (F0 m pc ls (.int 0 :: .ref (G.2.2 (14, 0)) :: rest)) :=
  va_lald (D := G.1) hx hb hK hw.1 (kw ks G.2.2 (eU G u)).length 1 (a := G.2.2 (14, 0)) (cA := G.2.1 1) (n := 1) (f := f) ko_get rfl (show vp_in (nI 0) 1 from vp_in_nI (by decide) (by decide)) hdg kk
end KO
