/-! CONSTRUCTORS, over explicit worlds -/
/-- a callee's part of the world, b, is put back beside the rest, a -/
theorem fr_app {A0 : Nat → Prop} {D : va_G} {cl : List vw_C} {a b b1 : va_W} {H H1 : Heap} (hP : va_P D cl (a ++ b) H) (hD : va_D A0 (a ++ b)) (hk : ∀ q : Nat, q < H.size → ¬ va_A b H.size q → H1[q]? = H[q]?) (hF : ∀ q, va_A b H.size q → A0 q) (hP1 : va_P D cl b1 H1) (hD1 : va_D (va_A b H.size) b1) : va_P D cl (a ++ b1) H1 ∧ va_D A0 (a ++ b1) := by
  have at1 : ∀ (k : Nat) (q : Nat × va_E), a[k]? = some q → (a ++ b)[k]? = some q := by
    intro k q hq
    rw [List.getElem?_append_left (List.getElem?_eq_some_iff.mp hq).1]
    exact hq
  have at2 : ∀ (k : Nat) (q : Nat × va_E), b[k]? = some q → (a ++ b)[a.length + k]? = some q := by
    intro k q hq
    rw [List.getElem?_append_right (Nat.le_add_right _ _), Nat.add_sub_cancel_left]
    exact hq
  have apart : ∀ (k : Nat) (q : Nat × va_E), a[k]? = some q → q.1 < H.size ∧ ¬ va_A b H.size q.1 := by
    intro k q hq
    have hl := (hP k q (at1 k q hq)).lt
    refine ⟨hl, fun h => ?_⟩
    rcases h with ⟨k2, e, h⟩ | h
    · have hij := hD.1 k (a.length + k2) q (q.1, e) (at1 k q hq) (at2 k2 _ h) rfl
      have := (List.getElem?_eq_some_iff.mp hq).1
      omega
    · omega
  have hDa : va_D A0 a := ⟨fun i j x y hi hj hxy => hD.1 i j x y (at1 i x hi) (at1 j y hj) hxy, fun k q hk => hD.2 k q (at1 k q hk)⟩
  refine ⟨va_P.app (fun k q hq => ?_) hP1, va_D.app hDa (hD1.weaken (fun k q _ h => hF q.1 h)) (fun i j x y hx hy hxy => ?_)⟩
  · obtain ⟨g1, g2⟩ := apart k q hq
    exact (hP k q (at1 k q hq)).kept (hk q.1 g1 g2)
  · exact (apart i x hx).2 (by rw [hxy]; exact hD1.2 j y hy)
theorem fr_b {D : va_G} {cl : List vw_C} {a b : va_W} {H : Heap} (hP : va_P D cl (a ++ b) H) : va_P D cl b H := fun k q hq => hP (a.length + k) q (by rw [List.getElem?_append_right (Nat.le_add_right _ _), Nat.add_sub_cancel_left]; exact hq)
theorem fr_bD {A0 : Nat → Prop} {a b : va_W} (hD : va_D A0 (a ++ b)) : va_D A0 b := by
  have at2 : ∀ (k : Nat) (q : Nat × va_E), b[k]? = some q → (a ++ b)[a.length + k]? = some q := by
    intro k q hq
    rw [List.getElem?_append_right (Nat.le_add_right _ _), Nat.add_sub_cancel_left]
    exact hq
  refine ⟨fun i j x y hi hj hxy => ?_, fun k q hk => hD.2 _ q (at2 k q hk)⟩
  have := hD.1 _ _ x y (at2 i x hi) (at2 j y hj) hxy
  omega
theorem fr_F {A0 : Nat → Prop} {b : va_W} {H0 H : Heap} {locs : List Loc} (hD : va_D A0 b) (hS : va_S A0 H0 H locs) (hA : ∀ q, H0.size ≤ q → A0 q) : ∀ q, va_A b H.size q → A0 q := by
  intro q h
  rcases h with ⟨k, e, h⟩ | h
  · exact hD.2 k (q, e) h
  · exact hA q (Nat.le_trans hS.1 h)
theorem ty_int {D : va_G} {cl : List vw_C} {G : gG} {cA : ClassId} {s : State} (h : va_K D cl (gTy G ++ [(cA, .int)]) s) : cA = G.2.1 0 := by
  have h1 : s.vm.findClass _ = some cA := (h.2 5 (cA, .int) rfl).2
  have h2 : s.vm.findClass _ = some (G.2.1 0) := (h.2 0 (G.2.1 0, .int) rfl).2
  exact Option.some.inj (h1.symm.trans h2)
theorem ty_long {D : va_G} {cl : List vw_C} {G : gG} {cA : ClassId} {s : State} (h : va_K D cl (gTy G ++ [(cA, .long)]) s) : cA = G.2.1 1 := by
  have h1 : s.vm.findClass _ = some cA := (h.2 5 (cA, .long) rfl).2
  have h2 : s.vm.findClass _ = some (G.2.1 1) := (h.2 1 (G.2.1 1, .long) rfl).2
  exact Option.some.inj (h1.symm.trans h2)
theorem ty_bool {D : va_G} {cl : List vw_C} {G : gG} {cA : ClassId} {s : State} (h : va_K D cl (gTy G ++ [(cA, .boolean)]) s) : cA = G.2.1 2 := by
  have h1 : s.vm.findClass _ = some cA := (h.2 5 (cA, .boolean) rfl).2
  have h2 : s.vm.findClass _ = some (G.2.1 2) := (h.2 2 (G.2.1 2, .boolean) rfl).2
  exact Option.some.inj (h1.symm.trans h2)
theorem ty_br {D : va_G} {cl : List vw_C} {G : gG} {cA : ClassId} {s : State} (h : va_K D cl (gTy G ++ [(cA, .object "BranchPredictor$Branch")]) s) : cA = G.2.1 3 := by
  obtain ⟨k1, c1, -, -, -, h1⟩ := (h.2 5 (cA, .object "BranchPredictor$Branch") rfl).2
  obtain ⟨k2, c2, -, -, -, h2⟩ := (h.2 3 (G.2.1 3, .object "BranchPredictor$Branch") rfl).2
  exact Option.some.inj (h1.symm.trans h2)
theorem ty_lp {D : va_G} {cl : List vw_C} {G : gG} {cA : ClassId} {s : State} (h : va_K D cl (gTy G ++ [(cA, .object "BranchPredictor$Loop")]) s) : cA = G.2.1 4 := by
  obtain ⟨k1, c1, -, -, -, h1⟩ := (h.2 5 (cA, .object "BranchPredictor$Loop") rfl).2
  obtain ⟨k2, c2, -, -, -, h2⟩ := (h.2 4 (G.2.1 4, .object "BranchPredictor$Loop") rfl).2
  exact Option.some.inj (h1.symm.trans h2)
set_option maxHeartbeats 4000000 in
set_option maxRecDepth 100000 in
theorem iX2 (l : Launch) (G : gG) (h sz : Nat) : Met l yX2_init wsX2_init ({ frames := 1, cells := 1, slots := 256, locals := 16 }) (va_Pc [.ref h] (fun U => U.heap.size = sz ∧ va_P G.1 vwCl [(h, .inr (2, [.null, .int 0]))] U.heap ∧ va_K G.1 vwCl (gTy G) U ∧ va_D (fun _ => True) [(h, .inr (2, [.null, .int 0]))])) (va_Qv (S := Nat) (fun _ => True) (fun q t => va_P G.1 vwCl [(h, .inr (2, [.ref q, .int 1])), (q, .inl (G.2.1 0, 256, .inl (fun _ => 0)))] t.heap ∧ va_K G.1 vwCl (gTy G) t ∧ va_D (va_A [(h, .inr (2, [.null, .int 0]))] sz) [(h, .inr (2, [.ref q, .int 1])), (q, .inl (G.2.1 0, 256, .inl (fun _ => 0)))]) (va_A [(h, .inr (2, [.null, .int 0]))] sz)) 1 256 (va_A [(h, .inr (2, [.null, .int 0]))] sz) := by
  refine Met.ofW (cc := cX2_init) (maxL := 1) (ret := none) (by decide) rfl ?_
  intro p e s m args below meth c s₁ B hml hv
  obtain ⟨rfl, hsz, hP, hK, hD0⟩ := hv
  have hx := B.exec
  have hb := B.bytes
  have hr := B.returns
  have hts := atoms_spec (ws := wsX2_init) B.pre
  have hown : s.vm.findClass RX2 = some m.cls := findClass_of_methodNamed B.named
  have hlocks := B.notSynchronized
  have hin : meth.name = "<init>" := (name_of_methodNamed B.named B.method).1
  subst hsz
  have hD := hD0.self (sz := s.heap.size)
  generalize hAe : va_A [(h, .inr (2, [.null, .int 0]))] s.heap.size = A at hD ⊢
  have hA : ∀ q : Nat, s.heap.size ≤ q → A q := fun q h => by rw [← hAe]; exact Or.inr h
  have hS : va_S A s.heap s.heap [] := va_S.rf
  have hl := lv_entry ([.ref h]) (n := 1) (Nat.le_of_ble_eq_true rfl)
  rw [lg_entry_eq]
  generalize (lg_sl ([.ref h]) ++ List.replicate (1 - (lg_sl ([.ref h])).length) Slot.unset).toArray = ls at hl ⊢
  have hl : lv_has ls 1 [(0, .ref h)] := hl
  have hP : va_P G.1 vwCl [(h, .inr (2, [.null, .int 0]))] s.heap := hP
  have hiX2 : ∀ w ∈ wsX20, w ∈ wsX2_init := by decide +kernel
  refine lv_aload_n hx hb dX2_init_0 rfl (lv_at hl 0 rfl) ?_
  refine W.objInit hx hb hown (hts (.methodLink RX2 3 objectInit) (by decide +kernel)) (hts (.instanceMethod objectInit) (by decide +kernel)) (hts (.code objectInit ⟨#[0xb1]⟩ 1 none) (by decide +kernel)) rfl (by rw [hml]; exact hl.1) rfl dX2_init_1 (Nat.le_of_ble_eq_true rfl) (Nat.le_of_ble_eq_true rfl) ?_
  refine W.eq (g2 := F0 m 4 ls []) rfl ?_
  refine lv_aload_n hx hb dX2_init_4 rfl (lv_at hl 0 rfl) ?_
  refine lv_sipush (v := 256) hx hb dX2_init_5 (by decide) ?_
  refine va_newa (atype := .int) (ty := .int) (N' := 256) (a0 := (256, .inl (fun _ => 0))) hx hb (hts (.arrayClass .int) (by decide +kernel)) rfl hK hP hD hS hA (fun _ => rfl) (by decide) rfl (by decide) (Nat.le_of_ble_eq_true rfl) (Nat.le_of_ble_eq_true rfl) dX2_init_8 (fun q8 cA H hK9 hP hD hS => ?_)
  obtain rfl := ty_int hK9
  have hP : va_P G.1 vwCl ([(h, .inr (2, [.null, .int 0])), (q8, .inl (G.2.1 0, 256, .inl (fun _ => 0)))]) H := hP
  have hD : va_D A ([(h, .inr (2, [.null, .int 0])), (q8, .inl (G.2.1 0, 256, .inl (fun _ => 0)))]) := hD
  refine W.widen (k := 1) (n := 256) (by omega) (by omega) ?_
  refine va_putF (D := G.1) (ci := 2) (v := .ref q8) (ty := .array .int) (C := RX2) (T := TX2) (N := 2) hx hb hts hiX2 tyX2 tyX2_ok nmX2 hown hK hP hD hS 0 rfl rfl 0 (by decide) (hts (.fieldLink RX2 9 "BranchPredictor$CounterTable" "values" "[I") (by decide +kernel)) (fun _ h9 => h9) rfl hin rfl (by decide +kernel) rfl rfl (Nat.le_of_ble_eq_true rfl) dX2_init_10 (fun H locs hP hD hS => ?_)
  have hP : va_P G.1 vwCl ([(h, .inr (2, [.ref q8, .int 0])), (q8, .inl (G.2.1 0, 256, .inl (fun _ => 0)))]) H := hP
  have hD : va_D A ([(h, .inr (2, [.ref q8, .int 0])), (q8, .inl (G.2.1 0, 256, .inl (fun _ => 0)))]) := hD
  refine lv_aload_n hx hb dX2_init_13 rfl (lv_at hl 0 rfl) ?_
  refine lv_iconst (v := 1) hx hb dX2_init_14 (by decide) ?_
  refine va_put (D := G.1) (ci := 2) (v := .int 1) (ty := .int) (C := RX2) (T := TX2) (N := 2) hx hb hts hiX2 tyX2 tyX2_ok nmX2 hown hK hP hD hS 0 rfl rfl 1 (by decide) (hts (.fieldLink RX2 15 "BranchPredictor$CounterTable" "size" "I") (by decide +kernel)) (fun _ h9 => h9) rfl (by decide +kernel) rfl rfl (Nat.le_of_ble_eq_true rfl) dX2_init_15 (fun H locs hP hD hS => ?_)
  have hP : va_P G.1 vwCl ([(h, .inr (2, [.ref q8, .int 1])), (q8, .inl (G.2.1 0, 256, .inl (fun _ => 0)))]) H := hP
  have hD : va_D A ([(h, .inr (2, [.ref q8, .int 1])), (q8, .inl (G.2.1 0, 256, .inl (fun _ => 0)))]) := hD
  exact W.vret hx hb hr (fun t ht hW => ⟨⟨q8, rfl, trivial, by rw [ht]; exact hP, va_K.moved hW.alike hK, hD⟩, hS.F ht⟩) hS.2.2 dX2_init_18
set_option maxHeartbeats 4000000 in
set_option maxRecDepth 100000 in
theorem iX0 (l : Launch) (G : gG) (h sz : Nat) : Met l yX0_init wsX0_init ({ frames := 1, cells := 1, slots := 256, locals := 16 }) (va_Pc [.ref h] (fun U => U.heap.size = sz ∧ va_P G.1 vwCl [(h, .inr (0, [.null, .long 0, .long 0]))] U.heap ∧ va_K G.1 vwCl (gTy G) U ∧ va_D (fun _ => True) [(h, .inr (0, [.null, .long 0, .long 0]))])) (va_Qv (S := Nat) (fun _ => True) (fun q t => va_P G.1 vwCl [(h, .inr (0, [.ref q, .long 0, .long 0])), (q, .inl (G.2.1 0, 256, .inl (fun _ => 0)))] t.heap ∧ va_K G.1 vwCl (gTy G) t ∧ va_D (va_A [(h, .inr (0, [.null, .long 0, .long 0]))] sz) [(h, .inr (0, [.ref q, .long 0, .long 0])), (q, .inl (G.2.1 0, 256, .inl (fun _ => 0)))]) (va_A [(h, .inr (0, [.null, .long 0, .long 0]))] sz)) 1 256 (va_A [(h, .inr (0, [.null, .long 0, .long 0]))] sz) := by
  refine Met.ofW (cc := cX0_init) (maxL := 1) (ret := none) (by decide) rfl ?_
  intro p e s m args below meth c s₁ B hml hv
  obtain ⟨rfl, hsz, hP, hK, hD0⟩ := hv
  have hx := B.exec
  have hb := B.bytes
  have hr := B.returns
  have hts := atoms_spec (ws := wsX0_init) B.pre
  have hown : s.vm.findClass RX0 = some m.cls := findClass_of_methodNamed B.named
  have hlocks := B.notSynchronized
  have hin : meth.name = "<init>" := (name_of_methodNamed B.named B.method).1
  subst hsz
  have hD := hD0.self (sz := s.heap.size)
  generalize hAe : va_A [(h, .inr (0, [.null, .long 0, .long 0]))] s.heap.size = A at hD ⊢
  have hA : ∀ q : Nat, s.heap.size ≤ q → A q := fun q h => by rw [← hAe]; exact Or.inr h
  have hS : va_S A s.heap s.heap [] := va_S.rf
  have hl := lv_entry ([.ref h]) (n := 1) (Nat.le_of_ble_eq_true rfl)
  rw [lg_entry_eq]
  generalize (lg_sl ([.ref h]) ++ List.replicate (1 - (lg_sl ([.ref h])).length) Slot.unset).toArray = ls at hl ⊢
  have hl : lv_has ls 1 [(0, .ref h)] := hl
  have hP : va_P G.1 vwCl [(h, .inr (0, [.null, .long 0, .long 0]))] s.heap := hP
  have hiX0 : ∀ w ∈ wsX00, w ∈ wsX0_init := by decide +kernel
  refine lv_aload_n hx hb dX0_init_0 rfl (lv_at hl 0 rfl) ?_
  refine W.objInit hx hb hown (hts (.methodLink RX0 3 objectInit) (by decide +kernel)) (hts (.instanceMethod objectInit) (by decide +kernel)) (hts (.code objectInit ⟨#[0xb1]⟩ 1 none) (by decide +kernel)) rfl (by rw [hml]; exact hl.1) rfl dX0_init_1 (Nat.le_of_ble_eq_true rfl) (Nat.le_of_ble_eq_true rfl) ?_
  refine W.eq (g2 := F0 m 4 ls []) rfl ?_
  refine lv_aload_n hx hb dX0_init_4 rfl (lv_at hl 0 rfl) ?_
  refine lv_sipush (v := 256) hx hb dX0_init_5 (by decide) ?_
  refine va_newa (atype := .int) (ty := .int) (N' := 256) (a0 := (256, .inl (fun _ => 0))) hx hb (hts (.arrayClass .int) (by decide +kernel)) rfl hK hP hD hS hA (fun _ => rfl) (by decide) rfl (by decide) (Nat.le_of_ble_eq_true rfl) (Nat.le_of_ble_eq_true rfl) dX0_init_8 (fun q8 cA H hK9 hP hD hS => ?_)
  obtain rfl := ty_int hK9
  have hP : va_P G.1 vwCl ([(h, .inr (0, [.null, .long 0, .long 0])), (q8, .inl (G.2.1 0, 256, .inl (fun _ => 0)))]) H := hP
  have hD : va_D A ([(h, .inr (0, [.null, .long 0, .long 0])), (q8, .inl (G.2.1 0, 256, .inl (fun _ => 0)))]) := hD
  refine W.widen (k := 1) (n := 256) (by omega) (by omega) ?_
  refine va_putF (D := G.1) (ci := 0) (v := .ref q8) (ty := .array .int) (C := RX0) (T := TX0) (N := 3) hx hb hts hiX0 tyX0 tyX0_ok nmX0 hown hK hP hD hS 0 rfl rfl 0 (by decide) (hts (.fieldLink RX0 9 "BranchPredictor$Audit" "latestPlaces" "[I") (by decide +kernel)) (fun _ h9 => h9) rfl hin rfl (by decide +kernel) rfl rfl (Nat.le_of_ble_eq_true rfl) dX0_init_10 (fun H locs hP hD hS => ?_)
  have hP : va_P G.1 vwCl ([(h, .inr (0, [.ref q8, .long 0, .long 0])), (q8, .inl (G.2.1 0, 256, .inl (fun _ => 0)))]) H := hP
  have hD : va_D A ([(h, .inr (0, [.ref q8, .long 0, .long 0])), (q8, .inl (G.2.1 0, 256, .inl (fun _ => 0)))]) := hD
  exact W.vret hx hb hr (fun t ht hW => ⟨⟨q8, rfl, trivial, by rw [ht]; exact hP, va_K.moved hW.alike hK, hD⟩, hS.F ht⟩) hS.2.2 dX0_init_13
set_option maxHeartbeats 4000000 in
set_option maxRecDepth 100000 in
theorem iX1 (l : Launch) (G : gG) (h sz : Nat) : Met l yX1_init wsX1_init ({ frames := 1, cells := 0, slots := 0, locals := 16 }) (va_Pc [.ref h] (fun U => U.heap.size = sz ∧ va_P G.1 vwCl [(h, .inr (1, [.int 0, .int 0, .int 0, .int 0, .int 0, .int 0, .int 0, .int 0, .int 0]))] U.heap ∧ va_K G.1 vwCl (gTy G) U ∧ va_D (fun _ => True) [(h, .inr (1, [.int 0, .int 0, .int 0, .int 0, .int 0, .int 0, .int 0, .int 0, .int 0]))])) (va_Qv (S := Nat) (fun _ => True) (fun q t => va_P G.1 vwCl [(h, .inr (1, [.int 0, .int 0, .int 0, .int 0, .int 0, .int 0, .int 0, .int 0, .int 0]))] t.heap ∧ va_K G.1 vwCl (gTy G) t ∧ va_D (va_A [(h, .inr (1, [.int 0, .int 0, .int 0, .int 0, .int 0, .int 0, .int 0, .int 0, .int 0]))] sz) [(h, .inr (1, [.int 0, .int 0, .int 0, .int 0, .int 0, .int 0, .int 0, .int 0, .int 0]))]) (va_A [(h, .inr (1, [.int 0, .int 0, .int 0, .int 0, .int 0, .int 0, .int 0, .int 0, .int 0]))] sz)) 0 0 (va_A [(h, .inr (1, [.int 0, .int 0, .int 0, .int 0, .int 0, .int 0, .int 0, .int 0, .int 0]))] sz) := by
  refine Met.ofW (cc := cX1_init) (maxL := 1) (ret := none) (by decide) rfl ?_
  intro p e s m args below meth c s₁ B hml hv
  obtain ⟨rfl, hsz, hP, hK, hD0⟩ := hv
  have hx := B.exec
  have hb := B.bytes
  have hr := B.returns
  have hts := atoms_spec (ws := wsX1_init) B.pre
  have hown : s.vm.findClass RX1 = some m.cls := findClass_of_methodNamed B.named
  have hlocks := B.notSynchronized
  have hin : meth.name = "<init>" := (name_of_methodNamed B.named B.method).1
  subst hsz
  have hD := hD0.self (sz := s.heap.size)
  generalize hAe : va_A [(h, .inr (1, [.int 0, .int 0, .int 0, .int 0, .int 0, .int 0, .int 0, .int 0, .int 0]))] s.heap.size = A at hD ⊢
  have hA : ∀ q : Nat, s.heap.size ≤ q → A q := fun q h => by rw [← hAe]; exact Or.inr h
  have hS : va_S A s.heap s.heap [] := va_S.rf
  have hl := lv_entry ([.ref h]) (n := 1) (Nat.le_of_ble_eq_true rfl)
  rw [lg_entry_eq]
  generalize (lg_sl ([.ref h]) ++ List.replicate (1 - (lg_sl ([.ref h])).length) Slot.unset).toArray = ls at hl ⊢
  have hl : lv_has ls 1 [(0, .ref h)] := hl
  have hP : va_P G.1 vwCl [(h, .inr (1, [.int 0, .int 0, .int 0, .int 0, .int 0, .int 0, .int 0, .int 0, .int 0]))] s.heap := hP
  refine lv_aload_n hx hb dX1_init_0 rfl (lv_at hl 0 rfl) ?_
  refine W.objInit hx hb hown (hts (.methodLink RX1 3 objectInit) (by decide +kernel)) (hts (.instanceMethod objectInit) (by decide +kernel)) (hts (.code objectInit ⟨#[0xb1]⟩ 1 none) (by decide +kernel)) rfl (by rw [hml]; exact hl.1) rfl dX1_init_1 (Nat.le_of_ble_eq_true rfl) (Nat.le_of_ble_eq_true rfl) ?_
  refine W.eq (g2 := F0 m 4 ls []) rfl ?_
  exact W.vret hx hb hr (fun t ht hW => ⟨⟨0, rfl, trivial, by rw [ht]; exact hP, va_K.moved hW.alike hK, hD⟩, hS.F ht⟩) hS.2.2 dX1_init_4
set_option maxHeartbeats 4000000 in
set_option maxRecDepth 100000 in
theorem iX3 (l : Launch) (G : gG) (h sz : Nat) : Met l yX3_init wsX3_init ({ frames := 1, cells := 0, slots := 0, locals := 16 }) (va_Pc [.ref h] (fun U => U.heap.size = sz ∧ va_P G.1 vwCl [(h, .inr (3, [.int 0, .int 0, .int 0, .int 0]))] U.heap ∧ va_K G.1 vwCl (gTy G) U ∧ va_D (fun _ => True) [(h, .inr (3, [.int 0, .int 0, .int 0, .int 0]))])) (va_Qv (S := Nat) (fun _ => True) (fun q t => va_P G.1 vwCl [(h, .inr (3, [.int (-1), .int 0, .int 0, .int 0]))] t.heap ∧ va_K G.1 vwCl (gTy G) t ∧ va_D (va_A [(h, .inr (3, [.int 0, .int 0, .int 0, .int 0]))] sz) [(h, .inr (3, [.int (-1), .int 0, .int 0, .int 0]))]) (va_A [(h, .inr (3, [.int 0, .int 0, .int 0, .int 0]))] sz)) 0 0 (va_A [(h, .inr (3, [.int 0, .int 0, .int 0, .int 0]))] sz) := by
  refine Met.ofW (cc := cX3_init) (maxL := 1) (ret := none) (by decide) rfl ?_
  intro p e s m args below meth c s₁ B hml hv
  obtain ⟨rfl, hsz, hP, hK, hD0⟩ := hv
  have hx := B.exec
  have hb := B.bytes
  have hr := B.returns
  have hts := atoms_spec (ws := wsX3_init) B.pre
  have hown : s.vm.findClass RX3 = some m.cls := findClass_of_methodNamed B.named
  have hlocks := B.notSynchronized
  have hin : meth.name = "<init>" := (name_of_methodNamed B.named B.method).1
  subst hsz
  have hD := hD0.self (sz := s.heap.size)
  generalize hAe : va_A [(h, .inr (3, [.int 0, .int 0, .int 0, .int 0]))] s.heap.size = A at hD ⊢
  have hA : ∀ q : Nat, s.heap.size ≤ q → A q := fun q h => by rw [← hAe]; exact Or.inr h
  have hS : va_S A s.heap s.heap [] := va_S.rf
  have hl := lv_entry ([.ref h]) (n := 1) (Nat.le_of_ble_eq_true rfl)
  rw [lg_entry_eq]
  generalize (lg_sl ([.ref h]) ++ List.replicate (1 - (lg_sl ([.ref h])).length) Slot.unset).toArray = ls at hl ⊢
  have hl : lv_has ls 1 [(0, .ref h)] := hl
  have hP : va_P G.1 vwCl [(h, .inr (3, [.int 0, .int 0, .int 0, .int 0]))] s.heap := hP
  have hiX3 : ∀ w ∈ wsX30, w ∈ wsX3_init := by decide +kernel
  refine lv_aload_n hx hb dX3_init_0 rfl (lv_at hl 0 rfl) ?_
  refine W.objInit hx hb hown (hts (.methodLink RX3 3 objectInit) (by decide +kernel)) (hts (.instanceMethod objectInit) (by decide +kernel)) (hts (.code objectInit ⟨#[0xb1]⟩ 1 none) (by decide +kernel)) rfl (by rw [hml]; exact hl.1) rfl dX3_init_1 (Nat.le_of_ble_eq_true rfl) (Nat.le_of_ble_eq_true rfl) ?_
  refine W.eq (g2 := F0 m 4 ls []) rfl ?_
  refine lv_aload_n hx hb dX3_init_4 rfl (lv_at hl 0 rfl) ?_
  refine lv_iconst (v := -1) hx hb dX3_init_5 (by decide) ?_
  refine va_put (D := G.1) (ci := 3) (v := .int (-1)) (ty := .int) (C := RX3) (T := TX3) (N := 4) hx hb hts hiX3 tyX3 tyX3_ok nmX3 hown hK hP hD hS 0 rfl rfl 0 (by decide) (hts (.fieldLink RX3 9 "BranchPredictor$Loop" "place" "I") (by decide +kernel)) (fun _ h9 => h9) rfl (by decide +kernel) rfl rfl (Nat.le_of_ble_eq_true rfl) dX3_init_6 (fun H locs hP hD hS => ?_)
  have hP : va_P G.1 vwCl ([(h, .inr (3, [.int (-1), .int 0, .int 0, .int 0]))]) H := hP
  have hD : va_D A ([(h, .inr (3, [.int (-1), .int 0, .int 0, .int 0]))]) := hD
  exact W.vret hx hb hr (fun t ht hW => ⟨⟨0, rfl, trivial, by rw [ht]; exact hP, va_K.moved hW.alike hK, hD⟩, hS.F ht⟩) hS.2.2 dX3_init_9
/-- what a new predictor holds just before it starts anew -/
def SA : uS := (fun a _ c => if a = 0 ∧ (c = 8 ∨ c = 9 ∨ c = 10) then 4 else if a = 1 ∧ c = 1 then 1 else if a = 9 ∧ c = 0 then -1 else 0, fun _ _ _ => 0, fun _ _ _ => false)
def SM : uS := (fun _ _ _ => 0, fun _ _ _ => 0, fun _ _ _ => false)
abbrev z9 : List Value := [.int 0, .int 0, .int 0, .int 0, .int 0, .int 0, .int 0, .int 0, .int 0]
abbrev z4 : List Value := [.int (-1), .int 0, .int 0, .int 0]
def pl8 (ad : Nat → Nat) (i : Nat) : va_W := (List.range i).map (fun k => (ad k, .inr (1, z9)))
def pl9 (ad : Nat → Nat) (i : Nat) : va_W := (List.range i).map (fun k => (ad k, .inr (3, z4)))
def rc (ad : Nat → Nat) (i : Nat) : Nat → Option Nat := fun j => if j < i then some (ad j) else none
theorem rc_up (ad : Nat → Nat) (i q : Nat) : va_up (rc ad i) i (some q) = rc (va_up ad i q) (i + 1) := by
  funext j
  by_cases h : j = i
  · subst h; simp [va_up, rc]
  · by_cases h2 : j < i
    · simp [va_up, rc, h, h2, Nat.lt_succ_of_lt h2]
    · have h3 : ¬ j < i + 1 := by omega
      simp [va_up, rc, h, h2, h3]
theorem pl8_up (ad : Nat → Nat) (i q : Nat) : pl8 ad i ++ [(q, .inr (1, z9))] = pl8 (va_up ad i q) (i + 1) := by
  unfold pl8
  rw [List.range_succ, List.map_append]
  congr 1
  · apply List.map_congr_left
    intro k hk
    have hk2 : k ≠ i := Nat.ne_of_lt (List.mem_range.mp hk)
    simp [va_up, hk2]
  · simp [va_up]
theorem pl9_up (ad : Nat → Nat) (i q : Nat) : pl9 ad i ++ [(q, .inr (3, z4))] = pl9 (va_up ad i q) (i + 1) := by
  unfold pl9
  rw [List.range_succ, List.map_append]
  congr 1
  · apply List.map_congr_left
    intro k hk
    have hk2 : k ≠ i := Nat.ne_of_lt (List.mem_range.mp hk)
    simp [va_up, hk2]
  · simp [va_up]
theorem rc_full (ad : Nat → Nat) (n : Nat) (cA : ClassId) : vp_cell cA (n, .inr (.inr (.inr (.inr (rc ad n))))) = vp_cell cA (n, .inr (.inr (.inr (.inr (fun j => some (ad j)))))) := by
  show arrV cA n (fun j => va_rf (rc ad n j)) = arrV cA n (fun j => va_rf (some (ad j)))
  unfold arrV
  congr 1
  congr 1
  funext j
  simp [rc, j.isLt]
abbrev wX4 (G : gG) (h q5 u9 q16 u20 q27 u31 q38 u42 q49 u53 q62 q71 q79 : Nat) (f5 f6 : Nat → Option Nat) : va_W := [(h, .inr (4, [.ref q5, .ref q16, .ref q27, .ref q38, .ref q49, .ref q62, .ref q71, .ref q79, .int 4, .int 4, .int 4, .int 0, .int 0, .int 0, .long 0, .long 0])), (q5, .inr (2, [.ref u9, .int 1])), (u9, .inl (G.2.1 0, 256, .inl (fun _ => 0))), (q16, .inr (2, [.ref u20, .int 1])), (u20, .inl (G.2.1 0, 256, .inl (fun _ => 0))), (q27, .inr (2, [.ref u31, .int 1])), (u31, .inl (G.2.1 0, 256, .inl (fun _ => 0))), (q38, .inr (0, [.ref u42, .long 0, .long 0])), (u42, .inl (G.2.1 0, 256, .inl (fun _ => 0))), (q49, .inr (0, [.ref u53, .long 0, .long 0])), (u53, .inl (G.2.1 0, 256, .inl (fun _ => 0))), (q62, .inl (G.2.1 3, 16, .inr (.inr (.inr (.inr f5))))), (q71, .inl (G.2.1 4, 8, .inr (.inr (.inr (.inr f6))))), (q79, .inl (G.2.1 1, 4, .inr (.inl (fun _ => 0))))]
abbrev rmX4i : Room := { frames := 3, cells := 37, slots := 1496, locals := 64 }
set_option maxHeartbeats 4000000 in
set_option maxRecDepth 100000 in
theorem iX4 (l : Launch) (G : gG) (h sz : Nat) : Met l yX4_init wsX4_init (rmX4i) (va_Pc [.ref h] (fun U => U.heap.size = sz ∧ va_P G.1 vwCl [(h, .inr (4, [.null, .null, .null, .null, .null, .null, .null, .null, .int 0, .int 0, .int 0, .int 0, .int 0, .int 0, .long 0, .long 0]))] U.heap ∧ va_K G.1 vwCl (gTy G) U ∧ va_D (fun _ => True) [(h, .inr (4, [.null, .null, .null, .null, .null, .null, .null, .null, .int 0, .int 0, .int 0, .int 0, .int 0, .int 0, .long 0, .long 0]))] ∧ kN G U ∧ kZ (va_A [(h, .inr (4, [.null, .null, .null, .null, .null, .null, .null, .null, .int 0, .int 0, .int 0, .int 0, .int 0, .int 0, .long 0, .long 0]))] sz) U U.heap ∧ va_AO RX1 U ∧ va_AO RX3 U)) (va_Qv (S := kK → Nat) (fun g => g (0, 0) = h ∧ ∀ k, g (20, k) = G.2.2 (20, k)) (fun g t => va_P G.1 vwCl (kw kC g (eU (G.1, G.2.1, g) (fX4_startAnew SA 4 4 4)) ++ []) t.heap ∧ va_K G.1 vwCl (gTy G) t ∧ va_D (va_A [(h, .inr (4, [.null, .null, .null, .null, .null, .null, .null, .null, .int 0, .int 0, .int 0, .int 0, .int 0, .int 0, .long 0, .long 0]))] sz) (kw kC g (eU (G.1, G.2.1, g) (fX4_startAnew SA 4 4 4)) ++ [])) (va_A [(h, .inr (4, [.null, .null, .null, .null, .null, .null, .null, .null, .int 0, .int 0, .int 0, .int 0, .int 0, .int 0, .long 0, .long 0]))] sz)) 37 1496 (va_A [(h, .inr (4, [.null, .null, .null, .null, .null, .null, .null, .null, .int 0, .int 0, .int 0, .int 0, .int 0, .int 0, .long 0, .long 0]))] sz) := by
  refine Met.ofW (cc := cX4_init) (maxL := 2) (ret := none) (by decide) rfl ?_
  intro p e s m args below meth c s₁ B hml hv
  obtain ⟨rfl, hsz, hP, hK, hD0, hN, hZ, hO1, hO3⟩ := hv
  have hx := B.exec
  have hb := B.bytes
  have hr := B.returns
  have hts := atoms_spec (ws := wsX4_init) B.pre
  have hown : s.vm.findClass RX4 = some m.cls := findClass_of_methodNamed B.named
  have hlocks := B.notSynchronized
  have hin : meth.name = "<init>" := (name_of_methodNamed B.named B.method).1
  subst hsz
  have hD := hD0.self (sz := s.heap.size)
  generalize hAe : va_A [(h, .inr (4, [.null, .null, .null, .null, .null, .null, .null, .null, .int 0, .int 0, .int 0, .int 0, .int 0, .int 0, .long 0, .long 0]))] s.heap.size = A at hD hZ ⊢
  have hA : ∀ q : Nat, s.heap.size ≤ q → A q := fun q h => by rw [← hAe]; exact Or.inr h
  have hS : va_S A s.heap s.heap [] := va_S.rf
  have hl := lv_entry ([.ref h]) (n := 2) (Nat.le_of_ble_eq_true rfl)
  rw [lg_entry_eq]
  generalize (lg_sl ([.ref h]) ++ List.replicate (2 - (lg_sl ([.ref h])).length) Slot.unset).toArray = ls at hl ⊢
  have hl : lv_has ls 2 [(0, .ref h)] := hl
  have hP : va_P G.1 vwCl [(h, .inr (4, [.null, .null, .null, .null, .null, .null, .null, .null, .int 0, .int 0, .int 0, .int 0, .int 0, .int 0, .long 0, .long 0]))] s.heap := hP
  have hiX0 : ∀ w ∈ wsX00, w ∈ wsX4_init := by decide +kernel
  have hiX1 : ∀ w ∈ wsX10, w ∈ wsX4_init := by decide +kernel
  have hiX2 : ∀ w ∈ wsX20, w ∈ wsX4_init := by decide +kernel
  have hiX3 : ∀ w ∈ wsX30, w ∈ wsX4_init := by decide +kernel
  have hiX4 : ∀ w ∈ wsX40, w ∈ wsX4_init := by decide +kernel
  refine lv_aload_n hx hb dX4_init_0 rfl (lv_at hl 0 rfl) ?_
  refine W.objInit hx hb hown (hts (.methodLink RX4 3 objectInit) (by decide +kernel)) (hts (.instanceMethod objectInit) (by decide +kernel)) (hts (.code objectInit ⟨#[0xb1]⟩ 1 none) (by decide +kernel)) rfl (by rw [hml]; exact hl.1) rfl dX4_init_1 (Nat.le_of_ble_eq_true rfl) (Nat.le_of_ble_eq_true rfl) ?_
  refine W.eq (g2 := F0 m 4 ls []) rfl ?_
  refine lv_aload_n hx hb dX4_init_4 rfl (lv_at hl 0 rfl) ?_
  refine va_new (ci := 2) (fs := [.null, .int 0]) (C := RX2) (T := TX2) (N := 2) hx hb hts hiX2 tyX2 tyX2_ok hown (hts (.classLink RX4 9 RX2) (by decide +kernel)) (hts (.instantiable RX2 2) (by decide +kernel)) (hts (.initialized RX2) (by decide +kernel)) hK hP hD hS hA rfl (fun j hj => by rcases (show j = 0 ∨ j = 1 by omega) with rfl | rfl <;> rfl) (Nat.le_of_ble_eq_true rfl) (Nat.le_of_ble_eq_true rfl) dX4_init_5 (fun q5 H hP hD hS => ?_)
  have hP : va_P G.1 vwCl ([(h, .inr (4, [.null, .null, .null, .null, .null, .null, .null, .null, .int 0, .int 0, .int 0, .int 0, .int 0, .int 0, .long 0, .long 0])), (q5, .inr (2, [.null, .int 0]))]) H := hP
  have hD : va_D A ([(h, .inr (4, [.null, .null, .null, .null, .null, .null, .null, .null, .int 0, .int 0, .int 0, .int 0, .int 0, .int 0, .long 0, .long 0])), (q5, .inr (2, [.null, .int 0]))]) := hD
  refine W.widen (k := 1) (n := 2) (by omega) (by omega) ?_
  refine lv_dup hx hb dX4_init_8 rfl ?_
  have hPc := hP.sub (ws' := [(q5, .inr (2, [.null, .int 0]))]) [1] rfl
  have hDc := hD.sub (ws' := [(q5, .inr (2, [.null, .int 0]))]) [1] (by decide) rfl
  have hFc := va_free (wc := [(q5, .inr (2, [.null, .int 0]))]) hD hS hA [1] rfl
  refine va_callv (va_runIN (host := "BranchPredictor") (As := []) (rest := [.ref q5, .ref h]) ⟨hx, hb, hml, hown, hts⟩ (iX2 l G q5 H.size) ⟨va_cnB 0 hts gX4_init_X2_init_n11 rfl rfl rfl hN.2.2.2.1 (hts (.initialized RX2) (by decide +kernel)) (by decide +kernel) ⟨Nat.le_of_ble_eq_true rfl, Nat.le_of_ble_eq_true rfl⟩, rfl, (hts (.instanceMethod yX2_init) (by decide +kernel))⟩ ⟨fun a U g mk q => by obtain ⟨q0, q1, qP, qK, qD⟩ := q; exact ⟨q0, q1, qP, va_K.moved (u := U) (U := U.calling g mk a) (Vm.Alike.refl U.vm) qK, qD⟩, fun U hU hW => ⟨rfl, by rw [hU], by rw [hU]; exact hPc, va_K.moved hW.alike hK, hDc.weaken (fun _ _ _ _ => trivial)⟩⟩ rfl rfl hl.1 rfl (lv_room (Nat.le_of_ble_eq_true rfl)) dX4_init_9 ⟨Nat.le_of_ble_eq_true rfl, Nat.le_of_ble_eq_true rfl⟩) hS (fun q _ h => hFc q h) hFc (fun u9 t H1 locs ht hvm hw9 hB hz1 hk1 hS => ?_)
  obtain ⟨hP1, hK1, hD1⟩ := hB
  rw [ht] at hP1
  obtain ⟨hP, hD⟩ := va_join (wr := [(h, .inr (4, [.null, .null, .null, .null, .null, .null, .null, .null, .int 0, .int 0, .int 0, .int 0, .int 0, .int 0, .long 0, .long 0]))]) (w1 := [(q5, .inr (2, [.ref u9, .int 1])), (u9, .inl (G.2.1 0, 256, .inl (fun _ => 0)))]) hP hD [1] [0] rfl rfl (by decide) (by decide) hk1 hFc hP1 hD1
  generalize H1 = H at hP hS ⊢
  have hP : va_P G.1 vwCl ([(h, .inr (4, [.null, .null, .null, .null, .null, .null, .null, .null, .int 0, .int 0, .int 0, .int 0, .int 0, .int 0, .long 0, .long 0])), (q5, .inr (2, [.ref u9, .int 1])), (u9, .inl (G.2.1 0, 256, .inl (fun _ => 0)))]) H := hP
  have hD : va_D A ([(h, .inr (4, [.null, .null, .null, .null, .null, .null, .null, .null, .int 0, .int 0, .int 0, .int 0, .int 0, .int 0, .long 0, .long 0])), (q5, .inr (2, [.ref u9, .int 1])), (u9, .inl (G.2.1 0, 256, .inl (fun _ => 0)))]) := hD
  refine W.widen (k := 2) (n := 258) (by omega) (by omega) ?_
  refine va_putF (D := G.1) (ci := 4) (v := .ref q5) (ty := .object "BranchPredictor$CounterTable") (C := RX4) (T := TX4) (N := 16) hx hb hts hiX4 tyX4 tyX4_ok nmX4 hown hK hP hD hS 0 rfl rfl 0 (by decide) (hts (.fieldLink RX4 12 "BranchPredictor" "plainTable" "LBranchPredictor$CounterTable;") (by decide +kernel)) (fun _ h9 => h9) rfl hin rfl (by decide +kernel) rfl rfl (Nat.le_of_ble_eq_true rfl) dX4_init_12 (fun H locs hP hD hS => ?_)
  have hP : va_P G.1 vwCl ([(h, .inr (4, [.ref q5, .null, .null, .null, .null, .null, .null, .null, .int 0, .int 0, .int 0, .int 0, .int 0, .int 0, .long 0, .long 0])), (q5, .inr (2, [.ref u9, .int 1])), (u9, .inl (G.2.1 0, 256, .inl (fun _ => 0)))]) H := hP
  have hD : va_D A ([(h, .inr (4, [.ref q5, .null, .null, .null, .null, .null, .null, .null, .int 0, .int 0, .int 0, .int 0, .int 0, .int 0, .long 0, .long 0])), (q5, .inr (2, [.ref u9, .int 1])), (u9, .inl (G.2.1 0, 256, .inl (fun _ => 0)))]) := hD
  refine lv_aload_n hx hb dX4_init_15 rfl (lv_at hl 0 rfl) ?_
  refine va_new (ci := 2) (fs := [.null, .int 0]) (C := RX2) (T := TX2) (N := 2) hx hb hts hiX2 tyX2 tyX2_ok hown (hts (.classLink RX4 9 RX2) (by decide +kernel)) (hts (.instantiable RX2 2) (by decide +kernel)) (hts (.initialized RX2) (by decide +kernel)) hK hP hD hS hA rfl (fun j hj => by rcases (show j = 0 ∨ j = 1 by omega) with rfl | rfl <;> rfl) (Nat.le_of_ble_eq_true rfl) (Nat.le_of_ble_eq_true rfl) dX4_init_16 (fun q16 H hP hD hS => ?_)
  have hP : va_P G.1 vwCl ([(h, .inr (4, [.ref q5, .null, .null, .null, .null, .null, .null, .null, .int 0, .int 0, .int 0, .int 0, .int 0, .int 0, .long 0, .long 0])), (q5, .inr (2, [.ref u9, .int 1])), (u9, .inl (G.2.1 0, 256, .inl (fun _ => 0))), (q16, .inr (2, [.null, .int 0]))]) H := hP
  have hD : va_D A ([(h, .inr (4, [.ref q5, .null, .null, .null, .null, .null, .null, .null, .int 0, .int 0, .int 0, .int 0, .int 0, .int 0, .long 0, .long 0])), (q5, .inr (2, [.ref u9, .int 1])), (u9, .inl (G.2.1 0, 256, .inl (fun _ => 0))), (q16, .inr (2, [.null, .int 0]))]) := hD
  refine W.widen (k := 3) (n := 260) (by omega) (by omega) ?_
  refine lv_dup hx hb dX4_init_19 rfl ?_
  have hPc := hP.sub (ws' := [(q16, .inr (2, [.null, .int 0]))]) [3] rfl
  have hDc := hD.sub (ws' := [(q16, .inr (2, [.null, .int 0]))]) [3] (by decide) rfl
  have hFc := va_free (wc := [(q16, .inr (2, [.null, .int 0]))]) hD hS hA [3] rfl
  refine va_callv (va_runIN (host := "BranchPredictor") (As := []) (rest := [.ref q16, .ref h]) ⟨hx, hb, hml, hown, hts⟩ (iX2 l G q16 H.size) ⟨va_cnB 0 hts gX4_init_X2_init_n11 rfl rfl rfl hN.2.2.2.1 (hts (.initialized RX2) (by decide +kernel)) (by decide +kernel) ⟨Nat.le_of_ble_eq_true rfl, Nat.le_of_ble_eq_true rfl⟩, rfl, (hts (.instanceMethod yX2_init) (by decide +kernel))⟩ ⟨fun a U g mk q => by obtain ⟨q0, q1, qP, qK, qD⟩ := q; exact ⟨q0, q1, qP, va_K.moved (u := U) (U := U.calling g mk a) (Vm.Alike.refl U.vm) qK, qD⟩, fun U hU hW => ⟨rfl, by rw [hU], by rw [hU]; exact hPc, va_K.moved hW.alike hK, hDc.weaken (fun _ _ _ _ => trivial)⟩⟩ rfl rfl hl.1 rfl (lv_room (Nat.le_of_ble_eq_true rfl)) dX4_init_20 ⟨Nat.le_of_ble_eq_true rfl, Nat.le_of_ble_eq_true rfl⟩) hS (fun q _ h => hFc q h) hFc (fun u20 t H1 locs ht hvm hw9 hB hz1 hk1 hS => ?_)
  obtain ⟨hP1, hK1, hD1⟩ := hB
  rw [ht] at hP1
  obtain ⟨hP, hD⟩ := va_join (wr := [(h, .inr (4, [.ref q5, .null, .null, .null, .null, .null, .null, .null, .int 0, .int 0, .int 0, .int 0, .int 0, .int 0, .long 0, .long 0])), (q5, .inr (2, [.ref u9, .int 1])), (u9, .inl (G.2.1 0, 256, .inl (fun _ => 0)))]) (w1 := [(q16, .inr (2, [.ref u20, .int 1])), (u20, .inl (G.2.1 0, 256, .inl (fun _ => 0)))]) hP hD [3] [0, 1, 2] rfl rfl (by decide) (by decide) hk1 hFc hP1 hD1
  generalize H1 = H at hP hS ⊢
  have hP : va_P G.1 vwCl ([(h, .inr (4, [.ref q5, .null, .null, .null, .null, .null, .null, .null, .int 0, .int 0, .int 0, .int 0, .int 0, .int 0, .long 0, .long 0])), (q5, .inr (2, [.ref u9, .int 1])), (u9, .inl (G.2.1 0, 256, .inl (fun _ => 0))), (q16, .inr (2, [.ref u20, .int 1])), (u20, .inl (G.2.1 0, 256, .inl (fun _ => 0)))]) H := hP
  have hD : va_D A ([(h, .inr (4, [.ref q5, .null, .null, .null, .null, .null, .null, .null, .int 0, .int 0, .int 0, .int 0, .int 0, .int 0, .long 0, .long 0])), (q5, .inr (2, [.ref u9, .int 1])), (u9, .inl (G.2.1 0, 256, .inl (fun _ => 0))), (q16, .inr (2, [.ref u20, .int 1])), (u20, .inl (G.2.1 0, 256, .inl (fun _ => 0)))]) := hD
  refine W.widen (k := 4) (n := 516) (by omega) (by omega) ?_
  refine va_putF (D := G.1) (ci := 4) (v := .ref q16) (ty := .object "BranchPredictor$CounterTable") (C := RX4) (T := TX4) (N := 16) hx hb hts hiX4 tyX4 tyX4_ok nmX4 hown hK hP hD hS 0 rfl rfl 1 (by decide) (hts (.fieldLink RX4 16 "BranchPredictor" "globalTable" "LBranchPredictor$CounterTable;") (by decide +kernel)) (fun _ h9 => h9) rfl hin rfl (by decide +kernel) rfl rfl (Nat.le_of_ble_eq_true rfl) dX4_init_23 (fun H locs hP hD hS => ?_)
  have hP : va_P G.1 vwCl ([(h, .inr (4, [.ref q5, .ref q16, .null, .null, .null, .null, .null, .null, .int 0, .int 0, .int 0, .int 0, .int 0, .int 0, .long 0, .long 0])), (q5, .inr (2, [.ref u9, .int 1])), (u9, .inl (G.2.1 0, 256, .inl (fun _ => 0))), (q16, .inr (2, [.ref u20, .int 1])), (u20, .inl (G.2.1 0, 256, .inl (fun _ => 0)))]) H := hP
  have hD : va_D A ([(h, .inr (4, [.ref q5, .ref q16, .null, .null, .null, .null, .null, .null, .int 0, .int 0, .int 0, .int 0, .int 0, .int 0, .long 0, .long 0])), (q5, .inr (2, [.ref u9, .int 1])), (u9, .inl (G.2.1 0, 256, .inl (fun _ => 0))), (q16, .inr (2, [.ref u20, .int 1])), (u20, .inl (G.2.1 0, 256, .inl (fun _ => 0)))]) := hD
  refine lv_aload_n hx hb dX4_init_26 rfl (lv_at hl 0 rfl) ?_
  refine va_new (ci := 2) (fs := [.null, .int 0]) (C := RX2) (T := TX2) (N := 2) hx hb hts hiX2 tyX2 tyX2_ok hown (hts (.classLink RX4 9 RX2) (by decide +kernel)) (hts (.instantiable RX2 2) (by decide +kernel)) (hts (.initialized RX2) (by decide +kernel)) hK hP hD hS hA rfl (fun j hj => by rcases (show j = 0 ∨ j = 1 by omega) with rfl | rfl <;> rfl) (Nat.le_of_ble_eq_true rfl) (Nat.le_of_ble_eq_true rfl) dX4_init_27 (fun q27 H hP hD hS => ?_)
  have hP : va_P G.1 vwCl ([(h, .inr (4, [.ref q5, .ref q16, .null, .null, .null, .null, .null, .null, .int 0, .int 0, .int 0, .int 0, .int 0, .int 0, .long 0, .long 0])), (q5, .inr (2, [.ref u9, .int 1])), (u9, .inl (G.2.1 0, 256, .inl (fun _ => 0))), (q16, .inr (2, [.ref u20, .int 1])), (u20, .inl (G.2.1 0, 256, .inl (fun _ => 0))), (q27, .inr (2, [.null, .int 0]))]) H := hP
  have hD : va_D A ([(h, .inr (4, [.ref q5, .ref q16, .null, .null, .null, .null, .null, .null, .int 0, .int 0, .int 0, .int 0, .int 0, .int 0, .long 0, .long 0])), (q5, .inr (2, [.ref u9, .int 1])), (u9, .inl (G.2.1 0, 256, .inl (fun _ => 0))), (q16, .inr (2, [.ref u20, .int 1])), (u20, .inl (G.2.1 0, 256, .inl (fun _ => 0))), (q27, .inr (2, [.null, .int 0]))]) := hD
  refine W.widen (k := 5) (n := 518) (by omega) (by omega) ?_
  refine lv_dup hx hb dX4_init_30 rfl ?_
  have hPc := hP.sub (ws' := [(q27, .inr (2, [.null, .int 0]))]) [5] rfl
  have hDc := hD.sub (ws' := [(q27, .inr (2, [.null, .int 0]))]) [5] (by decide) rfl
  have hFc := va_free (wc := [(q27, .inr (2, [.null, .int 0]))]) hD hS hA [5] rfl
  refine va_callv (va_runIN (host := "BranchPredictor") (As := []) (rest := [.ref q27, .ref h]) ⟨hx, hb, hml, hown, hts⟩ (iX2 l G q27 H.size) ⟨va_cnB 0 hts gX4_init_X2_init_n11 rfl rfl rfl hN.2.2.2.1 (hts (.initialized RX2) (by decide +kernel)) (by decide +kernel) ⟨Nat.le_of_ble_eq_true rfl, Nat.le_of_ble_eq_true rfl⟩, rfl, (hts (.instanceMethod yX2_init) (by decide +kernel))⟩ ⟨fun a U g mk q => by obtain ⟨q0, q1, qP, qK, qD⟩ := q; exact ⟨q0, q1, qP, va_K.moved (u := U) (U := U.calling g mk a) (Vm.Alike.refl U.vm) qK, qD⟩, fun U hU hW => ⟨rfl, by rw [hU], by rw [hU]; exact hPc, va_K.moved hW.alike hK, hDc.weaken (fun _ _ _ _ => trivial)⟩⟩ rfl rfl hl.1 rfl (lv_room (Nat.le_of_ble_eq_true rfl)) dX4_init_31 ⟨Nat.le_of_ble_eq_true rfl, Nat.le_of_ble_eq_true rfl⟩) hS (fun q _ h => hFc q h) hFc (fun u31 t H1 locs ht hvm hw9 hB hz1 hk1 hS => ?_)
  obtain ⟨hP1, hK1, hD1⟩ := hB
  rw [ht] at hP1
  obtain ⟨hP, hD⟩ := va_join (wr := [(h, .inr (4, [.ref q5, .ref q16, .null, .null, .null, .null, .null, .null, .int 0, .int 0, .int 0, .int 0, .int 0, .int 0, .long 0, .long 0])), (q5, .inr (2, [.ref u9, .int 1])), (u9, .inl (G.2.1 0, 256, .inl (fun _ => 0))), (q16, .inr (2, [.ref u20, .int 1])), (u20, .inl (G.2.1 0, 256, .inl (fun _ => 0)))]) (w1 := [(q27, .inr (2, [.ref u31, .int 1])), (u31, .inl (G.2.1 0, 256, .inl (fun _ => 0)))]) hP hD [5] [0, 1, 2, 3, 4] rfl rfl (by decide) (by decide) hk1 hFc hP1 hD1
  generalize H1 = H at hP hS ⊢
  have hP : va_P G.1 vwCl ([(h, .inr (4, [.ref q5, .ref q16, .null, .null, .null, .null, .null, .null, .int 0, .int 0, .int 0, .int 0, .int 0, .int 0, .long 0, .long 0])), (q5, .inr (2, [.ref u9, .int 1])), (u9, .inl (G.2.1 0, 256, .inl (fun _ => 0))), (q16, .inr (2, [.ref u20, .int 1])), (u20, .inl (G.2.1 0, 256, .inl (fun _ => 0))), (q27, .inr (2, [.ref u31, .int 1])), (u31, .inl (G.2.1 0, 256, .inl (fun _ => 0)))]) H := hP
  have hD : va_D A ([(h, .inr (4, [.ref q5, .ref q16, .null, .null, .null, .null, .null, .null, .int 0, .int 0, .int 0, .int 0, .int 0, .int 0, .long 0, .long 0])), (q5, .inr (2, [.ref u9, .int 1])), (u9, .inl (G.2.1 0, 256, .inl (fun _ => 0))), (q16, .inr (2, [.ref u20, .int 1])), (u20, .inl (G.2.1 0, 256, .inl (fun _ => 0))), (q27, .inr (2, [.ref u31, .int 1])), (u31, .inl (G.2.1 0, 256, .inl (fun _ => 0)))]) := hD
  refine W.widen (k := 6) (n := 774) (by omega) (by omega) ?_
  refine va_putF (D := G.1) (ci := 4) (v := .ref q27) (ty := .object "BranchPredictor$CounterTable") (C := RX4) (T := TX4) (N := 16) hx hb hts hiX4 tyX4 tyX4_ok nmX4 hown hK hP hD hS 0 rfl rfl 2 (by decide) (hts (.fieldLink RX4 19 "BranchPredictor" "choiceTable" "LBranchPredictor$CounterTable;") (by decide +kernel)) (fun _ h9 => h9) rfl hin rfl (by decide +kernel) rfl rfl (Nat.le_of_ble_eq_true rfl) dX4_init_34 (fun H locs hP hD hS => ?_)
  have hP : va_P G.1 vwCl ([(h, .inr (4, [.ref q5, .ref q16, .ref q27, .null, .null, .null, .null, .null, .int 0, .int 0, .int 0, .int 0, .int 0, .int 0, .long 0, .long 0])), (q5, .inr (2, [.ref u9, .int 1])), (u9, .inl (G.2.1 0, 256, .inl (fun _ => 0))), (q16, .inr (2, [.ref u20, .int 1])), (u20, .inl (G.2.1 0, 256, .inl (fun _ => 0))), (q27, .inr (2, [.ref u31, .int 1])), (u31, .inl (G.2.1 0, 256, .inl (fun _ => 0)))]) H := hP
  have hD : va_D A ([(h, .inr (4, [.ref q5, .ref q16, .ref q27, .null, .null, .null, .null, .null, .int 0, .int 0, .int 0, .int 0, .int 0, .int 0, .long 0, .long 0])), (q5, .inr (2, [.ref u9, .int 1])), (u9, .inl (G.2.1 0, 256, .inl (fun _ => 0))), (q16, .inr (2, [.ref u20, .int 1])), (u20, .inl (G.2.1 0, 256, .inl (fun _ => 0))), (q27, .inr (2, [.ref u31, .int 1])), (u31, .inl (G.2.1 0, 256, .inl (fun _ => 0)))]) := hD
  refine lv_aload_n hx hb dX4_init_37 rfl (lv_at hl 0 rfl) ?_
  refine va_new (ci := 0) (fs := [.null, .long 0, .long 0]) (C := RX0) (T := TX0) (N := 3) hx hb hts hiX0 tyX0 tyX0_ok hown (hts (.classLink RX4 22 RX0) (by decide +kernel)) (hts (.instantiable RX0 3) (by decide +kernel)) (hts (.initialized RX0) (by decide +kernel)) hK hP hD hS hA rfl (fun j hj => by rcases (show j = 0 ∨ j = 1 ∨ j = 2 by omega) with rfl | rfl | rfl <;> rfl) (Nat.le_of_ble_eq_true rfl) (Nat.le_of_ble_eq_true rfl) dX4_init_38 (fun q38 H hP hD hS => ?_)
  have hP : va_P G.1 vwCl ([(h, .inr (4, [.ref q5, .ref q16, .ref q27, .null, .null, .null, .null, .null, .int 0, .int 0, .int 0, .int 0, .int 0, .int 0, .long 0, .long 0])), (q5, .inr (2, [.ref u9, .int 1])), (u9, .inl (G.2.1 0, 256, .inl (fun _ => 0))), (q16, .inr (2, [.ref u20, .int 1])), (u20, .inl (G.2.1 0, 256, .inl (fun _ => 0))), (q27, .inr (2, [.ref u31, .int 1])), (u31, .inl (G.2.1 0, 256, .inl (fun _ => 0))), (q38, .inr (0, [.null, .long 0, .long 0]))]) H := hP
  have hD : va_D A ([(h, .inr (4, [.ref q5, .ref q16, .ref q27, .null, .null, .null, .null, .null, .int 0, .int 0, .int 0, .int 0, .int 0, .int 0, .long 0, .long 0])), (q5, .inr (2, [.ref u9, .int 1])), (u9, .inl (G.2.1 0, 256, .inl (fun _ => 0))), (q16, .inr (2, [.ref u20, .int 1])), (u20, .inl (G.2.1 0, 256, .inl (fun _ => 0))), (q27, .inr (2, [.ref u31, .int 1])), (u31, .inl (G.2.1 0, 256, .inl (fun _ => 0))), (q38, .inr (0, [.null, .long 0, .long 0]))]) := hD
  refine W.widen (k := 7) (n := 777) (by omega) (by omega) ?_
  refine lv_dup hx hb dX4_init_41 rfl ?_
  have hPc := hP.sub (ws' := [(q38, .inr (0, [.null, .long 0, .long 0]))]) [7] rfl
  have hDc := hD.sub (ws' := [(q38, .inr (0, [.null, .long 0, .long 0]))]) [7] (by decide) rfl
  have hFc := va_free (wc := [(q38, .inr (0, [.null, .long 0, .long 0]))]) hD hS hA [7] rfl
  refine va_callv (va_runIN (host := "BranchPredictor") (As := []) (rest := [.ref q38, .ref h]) ⟨hx, hb, hml, hown, hts⟩ (iX0 l G q38 H.size) ⟨va_cnB 0 hts gX4_init_X0_init_n24 rfl rfl rfl hN.2.2.2.2.1 (hts (.initialized RX0) (by decide +kernel)) (by decide +kernel) ⟨Nat.le_of_ble_eq_true rfl, Nat.le_of_ble_eq_true rfl⟩, rfl, (hts (.instanceMethod yX0_init) (by decide +kernel))⟩ ⟨fun a U g mk q => by obtain ⟨q0, q1, qP, qK, qD⟩ := q; exact ⟨q0, q1, qP, va_K.moved (u := U) (U := U.calling g mk a) (Vm.Alike.refl U.vm) qK, qD⟩, fun U hU hW => ⟨rfl, by rw [hU], by rw [hU]; exact hPc, va_K.moved hW.alike hK, hDc.weaken (fun _ _ _ _ => trivial)⟩⟩ rfl rfl hl.1 rfl (lv_room (Nat.le_of_ble_eq_true rfl)) dX4_init_42 ⟨Nat.le_of_ble_eq_true rfl, Nat.le_of_ble_eq_true rfl⟩) hS (fun q _ h => hFc q h) hFc (fun u42 t H1 locs ht hvm hw9 hB hz1 hk1 hS => ?_)
  obtain ⟨hP1, hK1, hD1⟩ := hB
  rw [ht] at hP1
  obtain ⟨hP, hD⟩ := va_join (wr := [(h, .inr (4, [.ref q5, .ref q16, .ref q27, .null, .null, .null, .null, .null, .int 0, .int 0, .int 0, .int 0, .int 0, .int 0, .long 0, .long 0])), (q5, .inr (2, [.ref u9, .int 1])), (u9, .inl (G.2.1 0, 256, .inl (fun _ => 0))), (q16, .inr (2, [.ref u20, .int 1])), (u20, .inl (G.2.1 0, 256, .inl (fun _ => 0))), (q27, .inr (2, [.ref u31, .int 1])), (u31, .inl (G.2.1 0, 256, .inl (fun _ => 0)))]) (w1 := [(q38, .inr (0, [.ref u42, .long 0, .long 0])), (u42, .inl (G.2.1 0, 256, .inl (fun _ => 0)))]) hP hD [7] [0, 1, 2, 3, 4, 5, 6] rfl rfl (by decide) (by decide) hk1 hFc hP1 hD1
  generalize H1 = H at hP hS ⊢
  have hP : va_P G.1 vwCl ([(h, .inr (4, [.ref q5, .ref q16, .ref q27, .null, .null, .null, .null, .null, .int 0, .int 0, .int 0, .int 0, .int 0, .int 0, .long 0, .long 0])), (q5, .inr (2, [.ref u9, .int 1])), (u9, .inl (G.2.1 0, 256, .inl (fun _ => 0))), (q16, .inr (2, [.ref u20, .int 1])), (u20, .inl (G.2.1 0, 256, .inl (fun _ => 0))), (q27, .inr (2, [.ref u31, .int 1])), (u31, .inl (G.2.1 0, 256, .inl (fun _ => 0))), (q38, .inr (0, [.ref u42, .long 0, .long 0])), (u42, .inl (G.2.1 0, 256, .inl (fun _ => 0)))]) H := hP
  have hD : va_D A ([(h, .inr (4, [.ref q5, .ref q16, .ref q27, .null, .null, .null, .null, .null, .int 0, .int 0, .int 0, .int 0, .int 0, .int 0, .long 0, .long 0])), (q5, .inr (2, [.ref u9, .int 1])), (u9, .inl (G.2.1 0, 256, .inl (fun _ => 0))), (q16, .inr (2, [.ref u20, .int 1])), (u20, .inl (G.2.1 0, 256, .inl (fun _ => 0))), (q27, .inr (2, [.ref u31, .int 1])), (u31, .inl (G.2.1 0, 256, .inl (fun _ => 0))), (q38, .inr (0, [.ref u42, .long 0, .long 0])), (u42, .inl (G.2.1 0, 256, .inl (fun _ => 0)))]) := hD
  refine W.widen (k := 8) (n := 1033) (by omega) (by omega) ?_
  refine va_putF (D := G.1) (ci := 4) (v := .ref q38) (ty := .object "BranchPredictor$Audit") (C := RX4) (T := TX4) (N := 16) hx hb hts hiX4 tyX4 tyX4_ok nmX4 hown hK hP hD hS 0 rfl rfl 3 (by decide) (hts (.fieldLink RX4 25 "BranchPredictor" "plainAudit" "LBranchPredictor$Audit;") (by decide +kernel)) (fun _ h9 => h9) rfl hin rfl (by decide +kernel) rfl rfl (Nat.le_of_ble_eq_true rfl) dX4_init_45 (fun H locs hP hD hS => ?_)
  have hP : va_P G.1 vwCl ([(h, .inr (4, [.ref q5, .ref q16, .ref q27, .ref q38, .null, .null, .null, .null, .int 0, .int 0, .int 0, .int 0, .int 0, .int 0, .long 0, .long 0])), (q5, .inr (2, [.ref u9, .int 1])), (u9, .inl (G.2.1 0, 256, .inl (fun _ => 0))), (q16, .inr (2, [.ref u20, .int 1])), (u20, .inl (G.2.1 0, 256, .inl (fun _ => 0))), (q27, .inr (2, [.ref u31, .int 1])), (u31, .inl (G.2.1 0, 256, .inl (fun _ => 0))), (q38, .inr (0, [.ref u42, .long 0, .long 0])), (u42, .inl (G.2.1 0, 256, .inl (fun _ => 0)))]) H := hP
  have hD : va_D A ([(h, .inr (4, [.ref q5, .ref q16, .ref q27, .ref q38, .null, .null, .null, .null, .int 0, .int 0, .int 0, .int 0, .int 0, .int 0, .long 0, .long 0])), (q5, .inr (2, [.ref u9, .int 1])), (u9, .inl (G.2.1 0, 256, .inl (fun _ => 0))), (q16, .inr (2, [.ref u20, .int 1])), (u20, .inl (G.2.1 0, 256, .inl (fun _ => 0))), (q27, .inr (2, [.ref u31, .int 1])), (u31, .inl (G.2.1 0, 256, .inl (fun _ => 0))), (q38, .inr (0, [.ref u42, .long 0, .long 0])), (u42, .inl (G.2.1 0, 256, .inl (fun _ => 0)))]) := hD
  refine lv_aload_n hx hb dX4_init_48 rfl (lv_at hl 0 rfl) ?_
  refine va_new (ci := 0) (fs := [.null, .long 0, .long 0]) (C := RX0) (T := TX0) (N := 3) hx hb hts hiX0 tyX0 tyX0_ok hown (hts (.classLink RX4 22 RX0) (by decide +kernel)) (hts (.instantiable RX0 3) (by decide +kernel)) (hts (.initialized RX0) (by decide +kernel)) hK hP hD hS hA rfl (fun j hj => by rcases (show j = 0 ∨ j = 1 ∨ j = 2 by omega) with rfl | rfl | rfl <;> rfl) (Nat.le_of_ble_eq_true rfl) (Nat.le_of_ble_eq_true rfl) dX4_init_49 (fun q49 H hP hD hS => ?_)
  have hP : va_P G.1 vwCl ([(h, .inr (4, [.ref q5, .ref q16, .ref q27, .ref q38, .null, .null, .null, .null, .int 0, .int 0, .int 0, .int 0, .int 0, .int 0, .long 0, .long 0])), (q5, .inr (2, [.ref u9, .int 1])), (u9, .inl (G.2.1 0, 256, .inl (fun _ => 0))), (q16, .inr (2, [.ref u20, .int 1])), (u20, .inl (G.2.1 0, 256, .inl (fun _ => 0))), (q27, .inr (2, [.ref u31, .int 1])), (u31, .inl (G.2.1 0, 256, .inl (fun _ => 0))), (q38, .inr (0, [.ref u42, .long 0, .long 0])), (u42, .inl (G.2.1 0, 256, .inl (fun _ => 0))), (q49, .inr (0, [.null, .long 0, .long 0]))]) H := hP
  have hD : va_D A ([(h, .inr (4, [.ref q5, .ref q16, .ref q27, .ref q38, .null, .null, .null, .null, .int 0, .int 0, .int 0, .int 0, .int 0, .int 0, .long 0, .long 0])), (q5, .inr (2, [.ref u9, .int 1])), (u9, .inl (G.2.1 0, 256, .inl (fun _ => 0))), (q16, .inr (2, [.ref u20, .int 1])), (u20, .inl (G.2.1 0, 256, .inl (fun _ => 0))), (q27, .inr (2, [.ref u31, .int 1])), (u31, .inl (G.2.1 0, 256, .inl (fun _ => 0))), (q38, .inr (0, [.ref u42, .long 0, .long 0])), (u42, .inl (G.2.1 0, 256, .inl (fun _ => 0))), (q49, .inr (0, [.null, .long 0, .long 0]))]) := hD
  refine W.widen (k := 9) (n := 1036) (by omega) (by omega) ?_
  refine lv_dup hx hb dX4_init_52 rfl ?_
  have hPc := hP.sub (ws' := [(q49, .inr (0, [.null, .long 0, .long 0]))]) [9] rfl
  have hDc := hD.sub (ws' := [(q49, .inr (0, [.null, .long 0, .long 0]))]) [9] (by decide) rfl
  have hFc := va_free (wc := [(q49, .inr (0, [.null, .long 0, .long 0]))]) hD hS hA [9] rfl
  refine va_callv (va_runIN (host := "BranchPredictor") (As := []) (rest := [.ref q49, .ref h]) ⟨hx, hb, hml, hown, hts⟩ (iX0 l G q49 H.size) ⟨va_cnB 0 hts gX4_init_X0_init_n24 rfl rfl rfl hN.2.2.2.2.1 (hts (.initialized RX0) (by decide +kernel)) (by decide +kernel) ⟨Nat.le_of_ble_eq_true rfl, Nat.le_of_ble_eq_true rfl⟩, rfl, (hts (.instanceMethod yX0_init) (by decide +kernel))⟩ ⟨fun a U g mk q => by obtain ⟨q0, q1, qP, qK, qD⟩ := q; exact ⟨q0, q1, qP, va_K.moved (u := U) (U := U.calling g mk a) (Vm.Alike.refl U.vm) qK, qD⟩, fun U hU hW => ⟨rfl, by rw [hU], by rw [hU]; exact hPc, va_K.moved hW.alike hK, hDc.weaken (fun _ _ _ _ => trivial)⟩⟩ rfl rfl hl.1 rfl (lv_room (Nat.le_of_ble_eq_true rfl)) dX4_init_53 ⟨Nat.le_of_ble_eq_true rfl, Nat.le_of_ble_eq_true rfl⟩) hS (fun q _ h => hFc q h) hFc (fun u53 t H1 locs ht hvm hw9 hB hz1 hk1 hS => ?_)
  obtain ⟨hP1, hK1, hD1⟩ := hB
  rw [ht] at hP1
  obtain ⟨hP, hD⟩ := va_join (wr := [(h, .inr (4, [.ref q5, .ref q16, .ref q27, .ref q38, .null, .null, .null, .null, .int 0, .int 0, .int 0, .int 0, .int 0, .int 0, .long 0, .long 0])), (q5, .inr (2, [.ref u9, .int 1])), (u9, .inl (G.2.1 0, 256, .inl (fun _ => 0))), (q16, .inr (2, [.ref u20, .int 1])), (u20, .inl (G.2.1 0, 256, .inl (fun _ => 0))), (q27, .inr (2, [.ref u31, .int 1])), (u31, .inl (G.2.1 0, 256, .inl (fun _ => 0))), (q38, .inr (0, [.ref u42, .long 0, .long 0])), (u42, .inl (G.2.1 0, 256, .inl (fun _ => 0)))]) (w1 := [(q49, .inr (0, [.ref u53, .long 0, .long 0])), (u53, .inl (G.2.1 0, 256, .inl (fun _ => 0)))]) hP hD [9] [0, 1, 2, 3, 4, 5, 6, 7, 8] rfl rfl (by decide) (by decide) hk1 hFc hP1 hD1
  generalize H1 = H at hP hS ⊢
  have hP : va_P G.1 vwCl ([(h, .inr (4, [.ref q5, .ref q16, .ref q27, .ref q38, .null, .null, .null, .null, .int 0, .int 0, .int 0, .int 0, .int 0, .int 0, .long 0, .long 0])), (q5, .inr (2, [.ref u9, .int 1])), (u9, .inl (G.2.1 0, 256, .inl (fun _ => 0))), (q16, .inr (2, [.ref u20, .int 1])), (u20, .inl (G.2.1 0, 256, .inl (fun _ => 0))), (q27, .inr (2, [.ref u31, .int 1])), (u31, .inl (G.2.1 0, 256, .inl (fun _ => 0))), (q38, .inr (0, [.ref u42, .long 0, .long 0])), (u42, .inl (G.2.1 0, 256, .inl (fun _ => 0))), (q49, .inr (0, [.ref u53, .long 0, .long 0])), (u53, .inl (G.2.1 0, 256, .inl (fun _ => 0)))]) H := hP
  have hD : va_D A ([(h, .inr (4, [.ref q5, .ref q16, .ref q27, .ref q38, .null, .null, .null, .null, .int 0, .int 0, .int 0, .int 0, .int 0, .int 0, .long 0, .long 0])), (q5, .inr (2, [.ref u9, .int 1])), (u9, .inl (G.2.1 0, 256, .inl (fun _ => 0))), (q16, .inr (2, [.ref u20, .int 1])), (u20, .inl (G.2.1 0, 256, .inl (fun _ => 0))), (q27, .inr (2, [.ref u31, .int 1])), (u31, .inl (G.2.1 0, 256, .inl (fun _ => 0))), (q38, .inr (0, [.ref u42, .long 0, .long 0])), (u42, .inl (G.2.1 0, 256, .inl (fun _ => 0))), (q49, .inr (0, [.ref u53, .long 0, .long 0])), (u53, .inl (G.2.1 0, 256, .inl (fun _ => 0)))]) := hD
  refine W.widen (k := 10) (n := 1292) (by omega) (by omega) ?_
  refine va_putF (D := G.1) (ci := 4) (v := .ref q49) (ty := .object "BranchPredictor$Audit") (C := RX4) (T := TX4) (N := 16) hx hb hts hiX4 tyX4 tyX4_ok nmX4 hown hK hP hD hS 0 rfl rfl 4 (by decide) (hts (.fieldLink RX4 29 "BranchPredictor" "globalAudit" "LBranchPredictor$Audit;") (by decide +kernel)) (fun _ h9 => h9) rfl hin rfl (by decide +kernel) rfl rfl (Nat.le_of_ble_eq_true rfl) dX4_init_56 (fun H locs hP hD hS => ?_)
  have hP : va_P G.1 vwCl ([(h, .inr (4, [.ref q5, .ref q16, .ref q27, .ref q38, .ref q49, .null, .null, .null, .int 0, .int 0, .int 0, .int 0, .int 0, .int 0, .long 0, .long 0])), (q5, .inr (2, [.ref u9, .int 1])), (u9, .inl (G.2.1 0, 256, .inl (fun _ => 0))), (q16, .inr (2, [.ref u20, .int 1])), (u20, .inl (G.2.1 0, 256, .inl (fun _ => 0))), (q27, .inr (2, [.ref u31, .int 1])), (u31, .inl (G.2.1 0, 256, .inl (fun _ => 0))), (q38, .inr (0, [.ref u42, .long 0, .long 0])), (u42, .inl (G.2.1 0, 256, .inl (fun _ => 0))), (q49, .inr (0, [.ref u53, .long 0, .long 0])), (u53, .inl (G.2.1 0, 256, .inl (fun _ => 0)))]) H := hP
  have hD : va_D A ([(h, .inr (4, [.ref q5, .ref q16, .ref q27, .ref q38, .ref q49, .null, .null, .null, .int 0, .int 0, .int 0, .int 0, .int 0, .int 0, .long 0, .long 0])), (q5, .inr (2, [.ref u9, .int 1])), (u9, .inl (G.2.1 0, 256, .inl (fun _ => 0))), (q16, .inr (2, [.ref u20, .int 1])), (u20, .inl (G.2.1 0, 256, .inl (fun _ => 0))), (q27, .inr (2, [.ref u31, .int 1])), (u31, .inl (G.2.1 0, 256, .inl (fun _ => 0))), (q38, .inr (0, [.ref u42, .long 0, .long 0])), (u42, .inl (G.2.1 0, 256, .inl (fun _ => 0))), (q49, .inr (0, [.ref u53, .long 0, .long 0])), (u53, .inl (G.2.1 0, 256, .inl (fun _ => 0)))]) := hD
  refine lv_aload_n hx hb dX4_init_59 rfl (lv_at hl 0 rfl) ?_
  refine lv_bipush (v := 16) hx hb dX4_init_60 (by decide) ?_
  refine va_newq (C := RX1) (N' := 16) hx hb hown (hts (.classLink RX4 32 RX1) (by decide +kernel)) hO1 hK hP hD hS hA (by decide) rfl (by decide) (Nat.le_of_ble_eq_true rfl) (Nat.le_of_ble_eq_true rfl) dX4_init_62 (fun q62 cA H hK9 hP hD hS => ?_)
  obtain rfl := ty_br hK9
  have hP : va_P G.1 vwCl ([(h, .inr (4, [.ref q5, .ref q16, .ref q27, .ref q38, .ref q49, .null, .null, .null, .int 0, .int 0, .int 0, .int 0, .int 0, .int 0, .long 0, .long 0])), (q5, .inr (2, [.ref u9, .int 1])), (u9, .inl (G.2.1 0, 256, .inl (fun _ => 0))), (q16, .inr (2, [.ref u20, .int 1])), (u20, .inl (G.2.1 0, 256, .inl (fun _ => 0))), (q27, .inr (2, [.ref u31, .int 1])), (u31, .inl (G.2.1 0, 256, .inl (fun _ => 0))), (q38, .inr (0, [.ref u42, .long 0, .long 0])), (u42, .inl (G.2.1 0, 256, .inl (fun _ => 0))), (q49, .inr (0, [.ref u53, .long 0, .long 0])), (u53, .inl (G.2.1 0, 256, .inl (fun _ => 0))), (q62, .inl (G.2.1 3, 16, .inr (.inr (.inr (.inr (fun _ => none))))))]) H := hP
  have hD : va_D A ([(h, .inr (4, [.ref q5, .ref q16, .ref q27, .ref q38, .ref q49, .null, .null, .null, .int 0, .int 0, .int 0, .int 0, .int 0, .int 0, .long 0, .long 0])), (q5, .inr (2, [.ref u9, .int 1])), (u9, .inl (G.2.1 0, 256, .inl (fun _ => 0))), (q16, .inr (2, [.ref u20, .int 1])), (u20, .inl (G.2.1 0, 256, .inl (fun _ => 0))), (q27, .inr (2, [.ref u31, .int 1])), (u31, .inl (G.2.1 0, 256, .inl (fun _ => 0))), (q38, .inr (0, [.ref u42, .long 0, .long 0])), (u42, .inl (G.2.1 0, 256, .inl (fun _ => 0))), (q49, .inr (0, [.ref u53, .long 0, .long 0])), (u53, .inl (G.2.1 0, 256, .inl (fun _ => 0))), (q62, .inl (G.2.1 3, 16, .inr (.inr (.inr (.inr (fun _ => none))))))]) := hD
  refine W.widen (k := 11) (n := 1308) (by omega) (by omega) ?_
  refine va_putF (D := G.1) (ci := 4) (v := .ref q62) (ty := .array (.object "BranchPredictor$Branch")) (C := RX4) (T := TX4) (N := 16) hx hb hts hiX4 tyX4 tyX4_ok nmX4 hown hK hP hD hS 0 rfl rfl 5 (by decide) (hts (.fieldLink RX4 34 "BranchPredictor" "ring" "[LBranchPredictor$Branch;") (by decide +kernel)) (fun _ h9 => h9) rfl hin rfl (by decide +kernel) rfl rfl (Nat.le_of_ble_eq_true rfl) dX4_init_65 (fun H locs hP hD hS => ?_)
  have hP : va_P G.1 vwCl ([(h, .inr (4, [.ref q5, .ref q16, .ref q27, .ref q38, .ref q49, .ref q62, .null, .null, .int 0, .int 0, .int 0, .int 0, .int 0, .int 0, .long 0, .long 0])), (q5, .inr (2, [.ref u9, .int 1])), (u9, .inl (G.2.1 0, 256, .inl (fun _ => 0))), (q16, .inr (2, [.ref u20, .int 1])), (u20, .inl (G.2.1 0, 256, .inl (fun _ => 0))), (q27, .inr (2, [.ref u31, .int 1])), (u31, .inl (G.2.1 0, 256, .inl (fun _ => 0))), (q38, .inr (0, [.ref u42, .long 0, .long 0])), (u42, .inl (G.2.1 0, 256, .inl (fun _ => 0))), (q49, .inr (0, [.ref u53, .long 0, .long 0])), (u53, .inl (G.2.1 0, 256, .inl (fun _ => 0))), (q62, .inl (G.2.1 3, 16, .inr (.inr (.inr (.inr (fun _ => none))))))]) H := hP
  have hD : va_D A ([(h, .inr (4, [.ref q5, .ref q16, .ref q27, .ref q38, .ref q49, .ref q62, .null, .null, .int 0, .int 0, .int 0, .int 0, .int 0, .int 0, .long 0, .long 0])), (q5, .inr (2, [.ref u9, .int 1])), (u9, .inl (G.2.1 0, 256, .inl (fun _ => 0))), (q16, .inr (2, [.ref u20, .int 1])), (u20, .inl (G.2.1 0, 256, .inl (fun _ => 0))), (q27, .inr (2, [.ref u31, .int 1])), (u31, .inl (G.2.1 0, 256, .inl (fun _ => 0))), (q38, .inr (0, [.ref u42, .long 0, .long 0])), (u42, .inl (G.2.1 0, 256, .inl (fun _ => 0))), (q49, .inr (0, [.ref u53, .long 0, .long 0])), (u53, .inl (G.2.1 0, 256, .inl (fun _ => 0))), (q62, .inl (G.2.1 3, 16, .inr (.inr (.inr (.inr (fun _ => none))))))]) := hD
  refine lv_aload_n hx hb dX4_init_68 rfl (lv_at hl 0 rfl) ?_
  refine lv_bipush (v := 8) hx hb dX4_init_69 (by decide) ?_
  refine va_newq (C := RX3) (N' := 8) hx hb hown (hts (.classLink RX4 38 RX3) (by decide +kernel)) hO3 hK hP hD hS hA (by decide) rfl (by decide) (Nat.le_of_ble_eq_true rfl) (Nat.le_of_ble_eq_true rfl) dX4_init_71 (fun q71 cA H hK9 hP hD hS => ?_)
  obtain rfl := ty_lp hK9
  have hP : va_P G.1 vwCl ([(h, .inr (4, [.ref q5, .ref q16, .ref q27, .ref q38, .ref q49, .ref q62, .null, .null, .int 0, .int 0, .int 0, .int 0, .int 0, .int 0, .long 0, .long 0])), (q5, .inr (2, [.ref u9, .int 1])), (u9, .inl (G.2.1 0, 256, .inl (fun _ => 0))), (q16, .inr (2, [.ref u20, .int 1])), (u20, .inl (G.2.1 0, 256, .inl (fun _ => 0))), (q27, .inr (2, [.ref u31, .int 1])), (u31, .inl (G.2.1 0, 256, .inl (fun _ => 0))), (q38, .inr (0, [.ref u42, .long 0, .long 0])), (u42, .inl (G.2.1 0, 256, .inl (fun _ => 0))), (q49, .inr (0, [.ref u53, .long 0, .long 0])), (u53, .inl (G.2.1 0, 256, .inl (fun _ => 0))), (q62, .inl (G.2.1 3, 16, .inr (.inr (.inr (.inr (fun _ => none)))))), (q71, .inl (G.2.1 4, 8, .inr (.inr (.inr (.inr (fun _ => none))))))]) H := hP
  have hD : va_D A ([(h, .inr (4, [.ref q5, .ref q16, .ref q27, .ref q38, .ref q49, .ref q62, .null, .null, .int 0, .int 0, .int 0, .int 0, .int 0, .int 0, .long 0, .long 0])), (q5, .inr (2, [.ref u9, .int 1])), (u9, .inl (G.2.1 0, 256, .inl (fun _ => 0))), (q16, .inr (2, [.ref u20, .int 1])), (u20, .inl (G.2.1 0, 256, .inl (fun _ => 0))), (q27, .inr (2, [.ref u31, .int 1])), (u31, .inl (G.2.1 0, 256, .inl (fun _ => 0))), (q38, .inr (0, [.ref u42, .long 0, .long 0])), (u42, .inl (G.2.1 0, 256, .inl (fun _ => 0))), (q49, .inr (0, [.ref u53, .long 0, .long 0])), (u53, .inl (G.2.1 0, 256, .inl (fun _ => 0))), (q62, .inl (G.2.1 3, 16, .inr (.inr (.inr (.inr (fun _ => none)))))), (q71, .inl (G.2.1 4, 8, .inr (.inr (.inr (.inr (fun _ => none))))))]) := hD
  refine W.widen (k := 12) (n := 1316) (by omega) (by omega) ?_
  refine va_putF (D := G.1) (ci := 4) (v := .ref q71) (ty := .array (.object "BranchPredictor$Loop")) (C := RX4) (T := TX4) (N := 16) hx hb hts hiX4 tyX4 tyX4_ok nmX4 hown hK hP hD hS 0 rfl rfl 6 (by decide) (hts (.fieldLink RX4 40 "BranchPredictor" "loops" "[LBranchPredictor$Loop;") (by decide +kernel)) (fun _ h9 => h9) rfl hin rfl (by decide +kernel) rfl rfl (Nat.le_of_ble_eq_true rfl) dX4_init_74 (fun H locs hP hD hS => ?_)
  have hP : va_P G.1 vwCl ([(h, .inr (4, [.ref q5, .ref q16, .ref q27, .ref q38, .ref q49, .ref q62, .ref q71, .null, .int 0, .int 0, .int 0, .int 0, .int 0, .int 0, .long 0, .long 0])), (q5, .inr (2, [.ref u9, .int 1])), (u9, .inl (G.2.1 0, 256, .inl (fun _ => 0))), (q16, .inr (2, [.ref u20, .int 1])), (u20, .inl (G.2.1 0, 256, .inl (fun _ => 0))), (q27, .inr (2, [.ref u31, .int 1])), (u31, .inl (G.2.1 0, 256, .inl (fun _ => 0))), (q38, .inr (0, [.ref u42, .long 0, .long 0])), (u42, .inl (G.2.1 0, 256, .inl (fun _ => 0))), (q49, .inr (0, [.ref u53, .long 0, .long 0])), (u53, .inl (G.2.1 0, 256, .inl (fun _ => 0))), (q62, .inl (G.2.1 3, 16, .inr (.inr (.inr (.inr (fun _ => none)))))), (q71, .inl (G.2.1 4, 8, .inr (.inr (.inr (.inr (fun _ => none))))))]) H := hP
  have hD : va_D A ([(h, .inr (4, [.ref q5, .ref q16, .ref q27, .ref q38, .ref q49, .ref q62, .ref q71, .null, .int 0, .int 0, .int 0, .int 0, .int 0, .int 0, .long 0, .long 0])), (q5, .inr (2, [.ref u9, .int 1])), (u9, .inl (G.2.1 0, 256, .inl (fun _ => 0))), (q16, .inr (2, [.ref u20, .int 1])), (u20, .inl (G.2.1 0, 256, .inl (fun _ => 0))), (q27, .inr (2, [.ref u31, .int 1])), (u31, .inl (G.2.1 0, 256, .inl (fun _ => 0))), (q38, .inr (0, [.ref u42, .long 0, .long 0])), (u42, .inl (G.2.1 0, 256, .inl (fun _ => 0))), (q49, .inr (0, [.ref u53, .long 0, .long 0])), (u53, .inl (G.2.1 0, 256, .inl (fun _ => 0))), (q62, .inl (G.2.1 3, 16, .inr (.inr (.inr (.inr (fun _ => none)))))), (q71, .inl (G.2.1 4, 8, .inr (.inr (.inr (.inr (fun _ => none))))))]) := hD
  refine lv_aload_n hx hb dX4_init_77 rfl (lv_at hl 0 rfl) ?_
  refine lv_iconst (v := 4) hx hb dX4_init_78 (by decide) ?_
  refine va_newa (atype := .long) (ty := .long) (N' := 4) (a0 := (4, .inr (.inl (fun _ => 0)))) hx hb (hts (.arrayClass .long) (by decide +kernel)) rfl hK hP hD hS hA (fun _ => rfl) (by decide) rfl (by decide) (Nat.le_of_ble_eq_true rfl) (Nat.le_of_ble_eq_true rfl) dX4_init_79 (fun q79 cA H hK9 hP hD hS => ?_)
  obtain rfl := ty_long hK9
  have hP : va_P G.1 vwCl ([(h, .inr (4, [.ref q5, .ref q16, .ref q27, .ref q38, .ref q49, .ref q62, .ref q71, .null, .int 0, .int 0, .int 0, .int 0, .int 0, .int 0, .long 0, .long 0])), (q5, .inr (2, [.ref u9, .int 1])), (u9, .inl (G.2.1 0, 256, .inl (fun _ => 0))), (q16, .inr (2, [.ref u20, .int 1])), (u20, .inl (G.2.1 0, 256, .inl (fun _ => 0))), (q27, .inr (2, [.ref u31, .int 1])), (u31, .inl (G.2.1 0, 256, .inl (fun _ => 0))), (q38, .inr (0, [.ref u42, .long 0, .long 0])), (u42, .inl (G.2.1 0, 256, .inl (fun _ => 0))), (q49, .inr (0, [.ref u53, .long 0, .long 0])), (u53, .inl (G.2.1 0, 256, .inl (fun _ => 0))), (q62, .inl (G.2.1 3, 16, .inr (.inr (.inr (.inr (fun _ => none)))))), (q71, .inl (G.2.1 4, 8, .inr (.inr (.inr (.inr (fun _ => none)))))), (q79, .inl (G.2.1 1, 4, .inr (.inl (fun _ => 0))))]) H := hP
  have hD : va_D A ([(h, .inr (4, [.ref q5, .ref q16, .ref q27, .ref q38, .ref q49, .ref q62, .ref q71, .null, .int 0, .int 0, .int 0, .int 0, .int 0, .int 0, .long 0, .long 0])), (q5, .inr (2, [.ref u9, .int 1])), (u9, .inl (G.2.1 0, 256, .inl (fun _ => 0))), (q16, .inr (2, [.ref u20, .int 1])), (u20, .inl (G.2.1 0, 256, .inl (fun _ => 0))), (q27, .inr (2, [.ref u31, .int 1])), (u31, .inl (G.2.1 0, 256, .inl (fun _ => 0))), (q38, .inr (0, [.ref u42, .long 0, .long 0])), (u42, .inl (G.2.1 0, 256, .inl (fun _ => 0))), (q49, .inr (0, [.ref u53, .long 0, .long 0])), (u53, .inl (G.2.1 0, 256, .inl (fun _ => 0))), (q62, .inl (G.2.1 3, 16, .inr (.inr (.inr (.inr (fun _ => none)))))), (q71, .inl (G.2.1 4, 8, .inr (.inr (.inr (.inr (fun _ => none)))))), (q79, .inl (G.2.1 1, 4, .inr (.inl (fun _ => 0))))]) := hD
  refine W.widen (k := 13) (n := 1320) (by omega) (by omega) ?_
  refine va_putF (D := G.1) (ci := 4) (v := .ref q79) (ty := .array .long) (C := RX4) (T := TX4) (N := 16) hx hb hts hiX4 tyX4 tyX4_ok nmX4 hown hK hP hD hS 0 rfl rfl 7 (by decide) (hts (.fieldLink RX4 44 "BranchPredictor" "missed" "[J") (by decide +kernel)) (fun _ h9 => h9) rfl hin rfl (by decide +kernel) rfl rfl (Nat.le_of_ble_eq_true rfl) dX4_init_81 (fun H locs hP hD hS => ?_)
  have hP : va_P G.1 vwCl ([(h, .inr (4, [.ref q5, .ref q16, .ref q27, .ref q38, .ref q49, .ref q62, .ref q71, .ref q79, .int 0, .int 0, .int 0, .int 0, .int 0, .int 0, .long 0, .long 0])), (q5, .inr (2, [.ref u9, .int 1])), (u9, .inl (G.2.1 0, 256, .inl (fun _ => 0))), (q16, .inr (2, [.ref u20, .int 1])), (u20, .inl (G.2.1 0, 256, .inl (fun _ => 0))), (q27, .inr (2, [.ref u31, .int 1])), (u31, .inl (G.2.1 0, 256, .inl (fun _ => 0))), (q38, .inr (0, [.ref u42, .long 0, .long 0])), (u42, .inl (G.2.1 0, 256, .inl (fun _ => 0))), (q49, .inr (0, [.ref u53, .long 0, .long 0])), (u53, .inl (G.2.1 0, 256, .inl (fun _ => 0))), (q62, .inl (G.2.1 3, 16, .inr (.inr (.inr (.inr (fun _ => none)))))), (q71, .inl (G.2.1 4, 8, .inr (.inr (.inr (.inr (fun _ => none)))))), (q79, .inl (G.2.1 1, 4, .inr (.inl (fun _ => 0))))]) H := hP
  have hD : va_D A ([(h, .inr (4, [.ref q5, .ref q16, .ref q27, .ref q38, .ref q49, .ref q62, .ref q71, .ref q79, .int 0, .int 0, .int 0, .int 0, .int 0, .int 0, .long 0, .long 0])), (q5, .inr (2, [.ref u9, .int 1])), (u9, .inl (G.2.1 0, 256, .inl (fun _ => 0))), (q16, .inr (2, [.ref u20, .int 1])), (u20, .inl (G.2.1 0, 256, .inl (fun _ => 0))), (q27, .inr (2, [.ref u31, .int 1])), (u31, .inl (G.2.1 0, 256, .inl (fun _ => 0))), (q38, .inr (0, [.ref u42, .long 0, .long 0])), (u42, .inl (G.2.1 0, 256, .inl (fun _ => 0))), (q49, .inr (0, [.ref u53, .long 0, .long 0])), (u53, .inl (G.2.1 0, 256, .inl (fun _ => 0))), (q62, .inl (G.2.1 3, 16, .inr (.inr (.inr (.inr (fun _ => none)))))), (q71, .inl (G.2.1 4, 8, .inr (.inr (.inr (.inr (fun _ => none)))))), (q79, .inl (G.2.1 1, 4, .inr (.inl (fun _ => 0))))]) := hD
  refine lv_aload_n hx hb dX4_init_84 rfl (lv_at hl 0 rfl) ?_
  refine lv_iconst (v := 4) hx hb dX4_init_85 (by decide) ?_
  refine va_put (D := G.1) (ci := 4) (v := .int 4) (ty := .int) (C := RX4) (T := TX4) (N := 16) hx hb hts hiX4 tyX4 tyX4_ok nmX4 hown hK hP hD hS 0 rfl rfl 8 (by decide) (hts (.fieldLink RX4 48 "BranchPredictor" "plainBits" "I") (by decide +kernel)) (fun _ h9 => h9) rfl (by decide +kernel) rfl rfl (Nat.le_of_ble_eq_true rfl) dX4_init_86 (fun H locs hP hD hS => ?_)
  have hP : va_P G.1 vwCl ([(h, .inr (4, [.ref q5, .ref q16, .ref q27, .ref q38, .ref q49, .ref q62, .ref q71, .ref q79, .int 4, .int 0, .int 0, .int 0, .int 0, .int 0, .long 0, .long 0])), (q5, .inr (2, [.ref u9, .int 1])), (u9, .inl (G.2.1 0, 256, .inl (fun _ => 0))), (q16, .inr (2, [.ref u20, .int 1])), (u20, .inl (G.2.1 0, 256, .inl (fun _ => 0))), (q27, .inr (2, [.ref u31, .int 1])), (u31, .inl (G.2.1 0, 256, .inl (fun _ => 0))), (q38, .inr (0, [.ref u42, .long 0, .long 0])), (u42, .inl (G.2.1 0, 256, .inl (fun _ => 0))), (q49, .inr (0, [.ref u53, .long 0, .long 0])), (u53, .inl (G.2.1 0, 256, .inl (fun _ => 0))), (q62, .inl (G.2.1 3, 16, .inr (.inr (.inr (.inr (fun _ => none)))))), (q71, .inl (G.2.1 4, 8, .inr (.inr (.inr (.inr (fun _ => none)))))), (q79, .inl (G.2.1 1, 4, .inr (.inl (fun _ => 0))))]) H := hP
  have hD : va_D A ([(h, .inr (4, [.ref q5, .ref q16, .ref q27, .ref q38, .ref q49, .ref q62, .ref q71, .ref q79, .int 4, .int 0, .int 0, .int 0, .int 0, .int 0, .long 0, .long 0])), (q5, .inr (2, [.ref u9, .int 1])), (u9, .inl (G.2.1 0, 256, .inl (fun _ => 0))), (q16, .inr (2, [.ref u20, .int 1])), (u20, .inl (G.2.1 0, 256, .inl (fun _ => 0))), (q27, .inr (2, [.ref u31, .int 1])), (u31, .inl (G.2.1 0, 256, .inl (fun _ => 0))), (q38, .inr (0, [.ref u42, .long 0, .long 0])), (u42, .inl (G.2.1 0, 256, .inl (fun _ => 0))), (q49, .inr (0, [.ref u53, .long 0, .long 0])), (u53, .inl (G.2.1 0, 256, .inl (fun _ => 0))), (q62, .inl (G.2.1 3, 16, .inr (.inr (.inr (.inr (fun _ => none)))))), (q71, .inl (G.2.1 4, 8, .inr (.inr (.inr (.inr (fun _ => none)))))), (q79, .inl (G.2.1 1, 4, .inr (.inl (fun _ => 0))))]) := hD
  refine lv_aload_n hx hb dX4_init_89 rfl (lv_at hl 0 rfl) ?_
  refine lv_iconst (v := 4) hx hb dX4_init_90 (by decide) ?_
  refine va_put (D := G.1) (ci := 4) (v := .int 4) (ty := .int) (C := RX4) (T := TX4) (N := 16) hx hb hts hiX4 tyX4 tyX4_ok nmX4 hown hK hP hD hS 0 rfl rfl 9 (by decide) (hts (.fieldLink RX4 52 "BranchPredictor" "globalBits" "I") (by decide +kernel)) (fun _ h9 => h9) rfl (by decide +kernel) rfl rfl (Nat.le_of_ble_eq_true rfl) dX4_init_91 (fun H locs hP hD hS => ?_)
  have hP : va_P G.1 vwCl ([(h, .inr (4, [.ref q5, .ref q16, .ref q27, .ref q38, .ref q49, .ref q62, .ref q71, .ref q79, .int 4, .int 4, .int 0, .int 0, .int 0, .int 0, .long 0, .long 0])), (q5, .inr (2, [.ref u9, .int 1])), (u9, .inl (G.2.1 0, 256, .inl (fun _ => 0))), (q16, .inr (2, [.ref u20, .int 1])), (u20, .inl (G.2.1 0, 256, .inl (fun _ => 0))), (q27, .inr (2, [.ref u31, .int 1])), (u31, .inl (G.2.1 0, 256, .inl (fun _ => 0))), (q38, .inr (0, [.ref u42, .long 0, .long 0])), (u42, .inl (G.2.1 0, 256, .inl (fun _ => 0))), (q49, .inr (0, [.ref u53, .long 0, .long 0])), (u53, .inl (G.2.1 0, 256, .inl (fun _ => 0))), (q62, .inl (G.2.1 3, 16, .inr (.inr (.inr (.inr (fun _ => none)))))), (q71, .inl (G.2.1 4, 8, .inr (.inr (.inr (.inr (fun _ => none)))))), (q79, .inl (G.2.1 1, 4, .inr (.inl (fun _ => 0))))]) H := hP
  have hD : va_D A ([(h, .inr (4, [.ref q5, .ref q16, .ref q27, .ref q38, .ref q49, .ref q62, .ref q71, .ref q79, .int 4, .int 4, .int 0, .int 0, .int 0, .int 0, .long 0, .long 0])), (q5, .inr (2, [.ref u9, .int 1])), (u9, .inl (G.2.1 0, 256, .inl (fun _ => 0))), (q16, .inr (2, [.ref u20, .int 1])), (u20, .inl (G.2.1 0, 256, .inl (fun _ => 0))), (q27, .inr (2, [.ref u31, .int 1])), (u31, .inl (G.2.1 0, 256, .inl (fun _ => 0))), (q38, .inr (0, [.ref u42, .long 0, .long 0])), (u42, .inl (G.2.1 0, 256, .inl (fun _ => 0))), (q49, .inr (0, [.ref u53, .long 0, .long 0])), (u53, .inl (G.2.1 0, 256, .inl (fun _ => 0))), (q62, .inl (G.2.1 3, 16, .inr (.inr (.inr (.inr (fun _ => none)))))), (q71, .inl (G.2.1 4, 8, .inr (.inr (.inr (.inr (fun _ => none)))))), (q79, .inl (G.2.1 1, 4, .inr (.inl (fun _ => 0))))]) := hD
  refine lv_aload_n hx hb dX4_init_94 rfl (lv_at hl 0 rfl) ?_
  refine lv_iconst (v := 4) hx hb dX4_init_95 (by decide) ?_
  refine va_put (D := G.1) (ci := 4) (v := .int 4) (ty := .int) (C := RX4) (T := TX4) (N := 16) hx hb hts hiX4 tyX4 tyX4_ok nmX4 hown hK hP hD hS 0 rfl rfl 10 (by decide) (hts (.fieldLink RX4 55 "BranchPredictor" "historyBits" "I") (by decide +kernel)) (fun _ h9 => h9) rfl (by decide +kernel) rfl rfl (Nat.le_of_ble_eq_true rfl) dX4_init_96 (fun H locs hP hD hS => ?_)
  have hP : va_P G.1 vwCl ([(h, .inr (4, [.ref q5, .ref q16, .ref q27, .ref q38, .ref q49, .ref q62, .ref q71, .ref q79, .int 4, .int 4, .int 4, .int 0, .int 0, .int 0, .long 0, .long 0])), (q5, .inr (2, [.ref u9, .int 1])), (u9, .inl (G.2.1 0, 256, .inl (fun _ => 0))), (q16, .inr (2, [.ref u20, .int 1])), (u20, .inl (G.2.1 0, 256, .inl (fun _ => 0))), (q27, .inr (2, [.ref u31, .int 1])), (u31, .inl (G.2.1 0, 256, .inl (fun _ => 0))), (q38, .inr (0, [.ref u42, .long 0, .long 0])), (u42, .inl (G.2.1 0, 256, .inl (fun _ => 0))), (q49, .inr (0, [.ref u53, .long 0, .long 0])), (u53, .inl (G.2.1 0, 256, .inl (fun _ => 0))), (q62, .inl (G.2.1 3, 16, .inr (.inr (.inr (.inr (fun _ => none)))))), (q71, .inl (G.2.1 4, 8, .inr (.inr (.inr (.inr (fun _ => none)))))), (q79, .inl (G.2.1 1, 4, .inr (.inl (fun _ => 0))))]) H := hP
  have hD : va_D A ([(h, .inr (4, [.ref q5, .ref q16, .ref q27, .ref q38, .ref q49, .ref q62, .ref q71, .ref q79, .int 4, .int 4, .int 4, .int 0, .int 0, .int 0, .long 0, .long 0])), (q5, .inr (2, [.ref u9, .int 1])), (u9, .inl (G.2.1 0, 256, .inl (fun _ => 0))), (q16, .inr (2, [.ref u20, .int 1])), (u20, .inl (G.2.1 0, 256, .inl (fun _ => 0))), (q27, .inr (2, [.ref u31, .int 1])), (u31, .inl (G.2.1 0, 256, .inl (fun _ => 0))), (q38, .inr (0, [.ref u42, .long 0, .long 0])), (u42, .inl (G.2.1 0, 256, .inl (fun _ => 0))), (q49, .inr (0, [.ref u53, .long 0, .long 0])), (u53, .inl (G.2.1 0, 256, .inl (fun _ => 0))), (q62, .inl (G.2.1 3, 16, .inr (.inr (.inr (.inr (fun _ => none)))))), (q71, .inl (G.2.1 4, 8, .inr (.inr (.inr (.inr (fun _ => none)))))), (q79, .inl (G.2.1 1, 4, .inr (.inl (fun _ => 0))))]) := hD
  have e5 : rc (fun _ => 0) 0 = fun _ => none := by funext j; simp [rc]
  refine lv_iconst (v := 0) hx hb dX4_init_99 (by decide) ?_
  refine lv_istore_n (lv' := [(1, .int 0), (0, .ref h)]) hx hb dX4_init_100 rfl hl (by decide) rfl (fun ls hl => ?_)
  have loop1 : ∀ (Q : State → Prop) (n i : Nat) (ad : Nat → Nat) (H : Heap) (locs : List Loc) (ls : Array Slot), i + n = 16 → va_P G.1 vwCl ((wX4 G h q5 u9 q16 u20 q27 u31 q38 u42 q49 u53 q62 q71 q79 (rc ad i) (fun _ => none)) ++ pl8 ad i) H → va_D A ((wX4 G h q5 u9 q16 u20 q27 u31 q38 u42 q49 u53 q62 q71 q79 (rc ad i) (fun _ => none)) ++ pl8 ad i) → va_S A s.heap H locs → lv_has ls 2 [(0, .ref h), (1, .int (nI i))] → (∀ (ad : Nat → Nat) (H : Heap) (locs : List Loc) (ls : Array Slot), va_P G.1 vwCl ((wX4 G h q5 u9 q16 u20 q27 u31 q38 u42 q49 u53 q62 q71 q79 (rc ad 16) (fun _ => none)) ++ pl8 ad 16) H → va_D A ((wX4 G h q5 u9 q16 u20 q27 u31 q38 u42 q49 u53 q62 q71 q79 (rc ad 16) (fun _ => none)) ++ pl8 ad 16) → va_S A s.heap H locs → lv_has ls 2 [(0, .ref h), (1, .int (nI 16))] → W p l e (headSpec wsX4_init rmX4i).room s m [Value.ref h].toArray below meth c H locs 29 1464 Q (F0 m 126 ls [])) → W p l e (headSpec wsX4_init rmX4i).room s m [Value.ref h].toArray below meth c H locs (13 + i) (1320 + 9 * i) Q (F0 m 101 ls []) := by
    intro Q n
    induction n with
    | zero =>
      intro i ad H locs ls hin hP hD hS hl kx
      have hin : i = 16 := hin
      subst hin
      refine lv_iload_n hx hb dX4_init_101 rfl (lv_at hl 1 rfl) ?_
      refine lv_bipush (v := 16) hx hb dX4_init_102 (by decide) ?_
      refine lv_icmp_ge (tgt := 126) hx hb dX4_init_104 (by decide) (fun _ => ?_) (fun h9 => absurd (by decide) h9)
      exact kx ad H locs ls hP hD hS hl
    | succ n ih =>
      intro i ad H locs ls hin hP hD hS hl kx
      have hi : i < 16 := by omega
      refine lv_iload_n hx hb dX4_init_101 rfl (lv_at hl 1 rfl) ?_
      refine lv_bipush (v := 16) hx hb dX4_init_102 (by decide) ?_
      refine lv_icmp_ge (tgt := 126) hx hb dX4_init_104 (by decide) (fun h9 => absurd h9 (nI_ge (a := i) (b := 16) hi (by decide))) (fun _ => ?_)
      refine lv_aload_n hx hb dX4_init_107 rfl (lv_at hl 0 rfl) ?_
      refine va_get (D := G.1) (ci := 4) (v := .ref q62) (C := RX4) (T := TX4) (N := 16) hx hb hts hiX4 hown hK hP 0 rfl rfl 5 (by decide) (hts (.fieldLink RX4 34 "BranchPredictor" "ring" "[LBranchPredictor$Branch;") (by decide +kernel)) (fun _ h9 => h9) rfl dX4_init_108 ?_
      refine lv_iload_n hx hb dX4_init_111 rfl (lv_at hl 1 rfl) ?_
      refine va_new (ci := 1) (fs := [.int 0, .int 0, .int 0, .int 0, .int 0, .int 0, .int 0, .int 0, .int 0]) (C := RX1) (T := TX1) (N := 9) hx hb hts hiX1 tyX1 tyX1_ok hown (hts (.classLink RX4 32 RX1) (by decide +kernel)) (hts (.instantiable RX1 9) (by decide +kernel)) (hts (.initialized RX1) (by decide +kernel)) hK hP hD hS hA rfl (fun j hj => by rcases (show j = 0 ∨ j = 1 ∨ j = 2 ∨ j = 3 ∨ j = 4 ∨ j = 5 ∨ j = 6 ∨ j = 7 ∨ j = 8 by omega) with rfl | rfl | rfl | rfl | rfl | rfl | rfl | rfl | rfl <;> rfl) (by show _ ≤ 37; omega) (by show _ ≤ 1496; omega) dX4_init_112 (fun qn H hP hD hS => ?_)
      refine lv_dup hx hb dX4_init_115 rfl ?_
      have hFc := fr_F (b := [(qn, .inr (1, [.int 0, .int 0, .int 0, .int 0, .int 0, .int 0, .int 0, .int 0, .int 0]))]) (fr_bD hD) hS hA
      have hPc : va_P G.1 vwCl [(qn, .inr (1, [.int 0, .int 0, .int 0, .int 0, .int 0, .int 0, .int 0, .int 0, .int 0]))] H := fr_b hP
      have hDc : va_D A [(qn, .inr (1, [.int 0, .int 0, .int 0, .int 0, .int 0, .int 0, .int 0, .int 0, .int 0]))] := fr_bD hD
      refine va_callv (va_runIN (host := "BranchPredictor") (As := []) (rest := [.ref qn, .int (nI i), .ref q62]) ⟨hx, hb, hml, hown, hts⟩ (iX1 l G qn H.size) ⟨va_cnB 0 hts gX4_init_X1_init_n58 rfl rfl rfl hN.2.2.2.2.2.1 (hts (.initialized RX1) (by decide +kernel)) (by decide +kernel) ⟨Nat.le_of_ble_eq_true rfl, Nat.le_of_ble_eq_true rfl⟩, rfl, hts (.instanceMethod yX1_init) (by decide +kernel)⟩ ⟨fun a U g mk q => by obtain ⟨q0, q1, qP, qK, qD⟩ := q; exact ⟨q0, q1, qP, va_K.moved (u := U) (U := U.calling g mk a) (Vm.Alike.refl U.vm) qK, qD⟩, fun U hU hW => ⟨rfl, by rw [hU], by rw [hU]; exact hPc, va_K.moved hW.alike hK, hDc.weaken (fun _ _ _ _ => trivial)⟩⟩ rfl rfl hl.1 rfl (lv_room (Nat.le_of_ble_eq_true rfl)) dX4_init_116 ⟨by show _ ≤ 37; omega, by show _ ≤ 1496; omega⟩) hS (fun q _ h => hFc q h) hFc (fun u0 t H1 locs ht hvm hw9 hB hz1 hk1 hS => ?_)
      obtain ⟨hP1, hK1, hD1⟩ := hB
      rw [ht] at hP1
      obtain ⟨hP, hD⟩ := fr_app hP hD hk1 hFc hP1 hD1
      generalize H1 = H at hP hS ⊢
      refine va_astq (D := G.1) hx hb hK hP hD hS 11 3 ((wX4 G h q5 u9 q16 u20 q27 u31 q38 u42 q49 u53 q62 q71 q79 (rc ad i) (fun _ => none)) ++ pl8 ad i).length 1 (v := qn) rfl rfl List.getElem?_concat_length rfl (vp_in_nI hi (by decide)) dX4_init_119 (fun H locs hP hD hS => ?_)
      rw [nI_clamp (show i < 2 ^ 31 by omega)] at hP hD
      have hP : va_P G.1 vwCl ((wX4 G h q5 u9 q16 u20 q27 u31 q38 u42 q49 u53 q62 q71 q79 (rc (va_up ad i qn) (i + 1)) (fun _ => none)) ++ pl8 (va_up ad i qn) (i + 1)) H := by rw [← rc_up, ← pl8_up, ← List.append_assoc]; exact hP
      have hD : va_D A ((wX4 G h q5 u9 q16 u20 q27 u31 q38 u42 q49 u53 q62 q71 q79 (rc (va_up ad i qn) (i + 1)) (fun _ => none)) ++ pl8 (va_up ad i qn) (i + 1)) := by rw [← rc_up, ← pl8_up, ← List.append_assoc]; exact hD
      refine lv_iinc (v := nI (i + 1)) (lv' := [(1, .int (nI (i + 1))), (0, .ref h)]) hx hb dX4_init_120 hl (k := 1) rfl (by rw [← nI_1]; rfl) (by decide) rfl (fun ls hl => ?_)
      refine lv_goto (tgt := 101) hx hb dX4_init_123 (by decide) ?_
      refine W.widen (k := 13 + (i + 1)) (n := 1320 + 9 * (i + 1)) (by omega) (by omega) ?_
      exact ih (i + 1) (va_up ad i qn) H locs ls (by omega) hP hD hS (lv_sub hl [1, 0] rfl) kx
  have hP : va_P G.1 vwCl ((wX4 G h q5 u9 q16 u20 q27 u31 q38 u42 q49 u53 q62 q71 q79 (rc (fun _ => 0) 0) (fun _ => none)) ++ pl8 (fun _ => 0) 0) H := by rw [e5]; exact (List.append_nil _).symm ▸ hP
  have hD : va_D A ((wX4 G h q5 u9 q16 u20 q27 u31 q38 u42 q49 u53 q62 q71 q79 (rc (fun _ => 0) 0) (fun _ => none)) ++ pl8 (fun _ => 0) 0) := by rw [e5]; exact (List.append_nil _).symm ▸ hD
  refine W.widen (k := 13 + 0) (n := 1320 + 9 * 0) (by omega) (by omega) ?_
  refine loop1 _ 16 0 (fun _ => 0) H locs ls rfl hP hD hS (lv_sub hl [1, 0] rfl) (fun ad8 H locs ls hP hD hS hl => ?_)
  refine lv_iconst (v := 0) hx hb dX4_init_126 (by decide) ?_
  refine lv_istore_n (lv' := [(1, .int 0), (0, .ref h)]) hx hb dX4_init_127 rfl hl (by decide) rfl (fun ls hl => ?_)
  have loop2 : ∀ (Q : State → Prop) (n i : Nat) (ad : Nat → Nat) (H : Heap) (locs : List Loc) (ls : Array Slot), i + n = 8 → va_P G.1 vwCl (((wX4 G h q5 u9 q16 u20 q27 u31 q38 u42 q49 u53 q62 q71 q79 (rc ad8 16) (rc ad i)) ++ pl8 ad8 16) ++ pl9 ad i) H → va_D A (((wX4 G h q5 u9 q16 u20 q27 u31 q38 u42 q49 u53 q62 q71 q79 (rc ad8 16) (rc ad i)) ++ pl8 ad8 16) ++ pl9 ad i) → va_S A s.heap H locs → lv_has ls 2 [(0, .ref h), (1, .int (nI i))] → (∀ (ad : Nat → Nat) (H : Heap) (locs : List Loc) (ls : Array Slot), va_P G.1 vwCl (((wX4 G h q5 u9 q16 u20 q27 u31 q38 u42 q49 u53 q62 q71 q79 (rc ad8 16) (rc ad 8)) ++ pl8 ad8 16) ++ pl9 ad 8) H → va_D A (((wX4 G h q5 u9 q16 u20 q27 u31 q38 u42 q49 u53 q62 q71 q79 (rc ad8 16) (rc ad 8)) ++ pl8 ad8 16) ++ pl9 ad 8) → va_S A s.heap H locs → lv_has ls 2 [(0, .ref h), (1, .int (nI 8))] → W p l e (headSpec wsX4_init rmX4i).room s m [Value.ref h].toArray below meth c H locs 37 1496 Q (F0 m 153 ls [])) → W p l e (headSpec wsX4_init rmX4i).room s m [Value.ref h].toArray below meth c H locs (29 + i) (1464 + 4 * i) Q (F0 m 128 ls []) := by
    intro Q n
    induction n with
    | zero =>
      intro i ad H locs ls hin hP hD hS hl kx
      have hin : i = 8 := hin
      subst hin
      refine lv_iload_n hx hb dX4_init_128 rfl (lv_at hl 1 rfl) ?_
      refine lv_bipush (v := 8) hx hb dX4_init_129 (by decide) ?_
      refine lv_icmp_ge (tgt := 153) hx hb dX4_init_131 (by decide) (fun _ => ?_) (fun h9 => absurd (by decide) h9)
      exact kx ad H locs ls hP hD hS hl
    | succ n ih =>
      intro i ad H locs ls hin hP hD hS hl kx
      have hi : i < 8 := by omega
      refine lv_iload_n hx hb dX4_init_128 rfl (lv_at hl 1 rfl) ?_
      refine lv_bipush (v := 8) hx hb dX4_init_129 (by decide) ?_
      refine lv_icmp_ge (tgt := 153) hx hb dX4_init_131 (by decide) (fun h9 => absurd h9 (nI_ge (a := i) (b := 8) hi (by decide))) (fun _ => ?_)
      refine lv_aload_n hx hb dX4_init_134 rfl (lv_at hl 0 rfl) ?_
      refine va_get (D := G.1) (ci := 4) (v := .ref q71) (C := RX4) (T := TX4) (N := 16) hx hb hts hiX4 hown hK hP 0 rfl rfl 6 (by decide) (hts (.fieldLink RX4 40 "BranchPredictor" "loops" "[LBranchPredictor$Loop;") (by decide +kernel)) (fun _ h9 => h9) rfl dX4_init_135 ?_
      refine lv_iload_n hx hb dX4_init_138 rfl (lv_at hl 1 rfl) ?_
      refine va_new (ci := 3) (fs := [.int 0, .int 0, .int 0, .int 0]) (C := RX3) (T := TX3) (N := 4) hx hb hts hiX3 tyX3 tyX3_ok hown (hts (.classLink RX4 38 RX3) (by decide +kernel)) (hts (.instantiable RX3 4) (by decide +kernel)) (hts (.initialized RX3) (by decide +kernel)) hK hP hD hS hA rfl (fun j hj => by rcases (show j = 0 ∨ j = 1 ∨ j = 2 ∨ j = 3 by omega) with rfl | rfl | rfl | rfl <;> rfl) (by show _ ≤ 37; omega) (by show _ ≤ 1496; omega) dX4_init_139 (fun qn H hP hD hS => ?_)
      refine lv_dup hx hb dX4_init_142 rfl ?_
      have hFc := fr_F (b := [(qn, .inr (3, [.int 0, .int 0, .int 0, .int 0]))]) (fr_bD hD) hS hA
      have hPc : va_P G.1 vwCl [(qn, .inr (3, [.int 0, .int 0, .int 0, .int 0]))] H := fr_b hP
      have hDc : va_D A [(qn, .inr (3, [.int 0, .int 0, .int 0, .int 0]))] := fr_bD hD
      refine va_callv (va_runIN (host := "BranchPredictor") (As := []) (rest := [.ref qn, .int (nI i), .ref q71]) ⟨hx, hb, hml, hown, hts⟩ (iX3 l G qn H.size) ⟨va_cnB 0 hts gX4_init_X3_init_n59 rfl rfl rfl hN.2.2.2.2.2.2.1 (hts (.initialized RX3) (by decide +kernel)) (by decide +kernel) ⟨Nat.le_of_ble_eq_true rfl, Nat.le_of_ble_eq_true rfl⟩, rfl, hts (.instanceMethod yX3_init) (by decide +kernel)⟩ ⟨fun a U g mk q => by obtain ⟨q0, q1, qP, qK, qD⟩ := q; exact ⟨q0, q1, qP, va_K.moved (u := U) (U := U.calling g mk a) (Vm.Alike.refl U.vm) qK, qD⟩, fun U hU hW => ⟨rfl, by rw [hU], by rw [hU]; exact hPc, va_K.moved hW.alike hK, hDc.weaken (fun _ _ _ _ => trivial)⟩⟩ rfl rfl hl.1 rfl (lv_room (Nat.le_of_ble_eq_true rfl)) dX4_init_143 ⟨by show _ ≤ 37; omega, by show _ ≤ 1496; omega⟩) hS (fun q _ h => hFc q h) hFc (fun u0 t H1 locs ht hvm hw9 hB hz1 hk1 hS => ?_)
      obtain ⟨hP1, hK1, hD1⟩ := hB
      rw [ht] at hP1
      obtain ⟨hP, hD⟩ := fr_app hP hD hk1 hFc hP1 hD1
      generalize H1 = H at hP hS ⊢
      refine va_astq (D := G.1) hx hb hK hP hD hS 12 4 (((wX4 G h q5 u9 q16 u20 q27 u31 q38 u42 q49 u53 q62 q71 q79 (rc ad8 16) (rc ad i)) ++ pl8 ad8 16) ++ pl9 ad i).length 3 (v := qn) rfl rfl List.getElem?_concat_length rfl (vp_in_nI hi (by decide)) dX4_init_146 (fun H locs hP hD hS => ?_)
      rw [nI_clamp (show i < 2 ^ 31 by omega)] at hP hD
      have hP : va_P G.1 vwCl (((wX4 G h q5 u9 q16 u20 q27 u31 q38 u42 q49 u53 q62 q71 q79 (rc ad8 16) (rc (va_up ad i qn) (i + 1))) ++ pl8 ad8 16) ++ pl9 (va_up ad i qn) (i + 1)) H := by rw [← rc_up, ← pl9_up, ← List.append_assoc]; exact hP
      have hD : va_D A (((wX4 G h q5 u9 q16 u20 q27 u31 q38 u42 q49 u53 q62 q71 q79 (rc ad8 16) (rc (va_up ad i qn) (i + 1))) ++ pl8 ad8 16) ++ pl9 (va_up ad i qn) (i + 1)) := by rw [← rc_up, ← pl9_up, ← List.append_assoc]; exact hD
      refine lv_iinc (v := nI (i + 1)) (lv' := [(1, .int (nI (i + 1))), (0, .ref h)]) hx hb dX4_init_147 hl (k := 1) rfl (by rw [← nI_1]; rfl) (by decide) rfl (fun ls hl => ?_)
      refine lv_goto (tgt := 128) hx hb dX4_init_150 (by decide) ?_
      refine W.widen (k := 29 + (i + 1)) (n := 1464 + 4 * (i + 1)) (by omega) (by omega) ?_
      exact ih (i + 1) (va_up ad i qn) H locs ls (by omega) hP hD hS (lv_sub hl [1, 0] rfl) kx
  have hP : va_P G.1 vwCl (((wX4 G h q5 u9 q16 u20 q27 u31 q38 u42 q49 u53 q62 q71 q79 (rc ad8 16) (rc (fun _ => 0) 0)) ++ pl8 ad8 16) ++ pl9 (fun _ => 0) 0) H := by rw [e5]; exact (List.append_nil _).symm ▸ hP
  have hD : va_D A (((wX4 G h q5 u9 q16 u20 q27 u31 q38 u42 q49 u53 q62 q71 q79 (rc ad8 16) (rc (fun _ => 0) 0)) ++ pl8 ad8 16) ++ pl9 (fun _ => 0) 0) := by rw [e5]; exact (List.append_nil _).symm ▸ hD
  refine W.widen (k := 29 + 0) (n := 1464 + 4 * 0) (by omega) (by omega) ?_
  refine loop2 _ 8 0 (fun _ => 0) H locs ls rfl hP hD hS (lv_sub hl [1, 0] rfl) (fun ad9 H locs ls hP hD hS hl => ?_)
  have hP2 := va_P.set (e := .inl (G.2.1 3, 16, .inr (.inr (.inr (.inr (fun j => some (ad8 j))))))) hP hD (p := 11) rfl (by show H[q62]? = _; rw [← rc_full]; exact hP 11 _ rfl) (fun _ _ => rfl)
  have hD2 := va_D.set (e := .inl (G.2.1 3, 16, .inr (.inr (.inr (.inr (fun j => some (ad8 j))))))) hD (p := 11) rfl
  have hP3 := va_P.set (e := .inl (G.2.1 4, 8, .inr (.inr (.inr (.inr (fun j => some (ad9 j))))))) hP2 hD2 (p := 12) rfl (by show H[q71]? = _; rw [← rc_full]; exact hP2 12 _ rfl) (fun _ _ => rfl)
  have hD3 := va_D.set (e := .inl (G.2.1 4, 8, .inr (.inr (.inr (.inr (fun j => some (ad9 j))))))) hD2 (p := 12) rfl
  obtain ⟨g, hg⟩ : ∃ g : kK → Nat, g = fun k => match k.1 with | 0 => h | 1 => (match k.2 with | 0 => q5 | 1 => q16 | _ => q27) | 2 => (match k.2 with | 0 => u9 | 1 => u20 | _ => u31) | 3 => (match k.2 with | 0 => q38 | _ => q49) | 4 => (match k.2 with | 0 => u42 | _ => u53) | 5 => q62 | 6 => q71 | 7 => q79 | 8 => ad8 k.2 | 9 => ad9 k.2 | _ => G.2.2 k := ⟨_, rfl⟩
  have hE : ((wX4 G h q5 u9 q16 u20 q27 u31 q38 u42 q49 u53 q62 q71 q79 (fun j => some (ad8 j)) (fun j => some (ad9 j))) ++ pl8 ad8 16) ++ pl9 ad9 8 = kw kC g (eU (G.1, G.2.1, g) SA) ++ [] := by
    rw [List.append_nil, kw, kC, List.map_append, List.map_append, List.map_map, List.map_map, List.append_assoc]
    subst hg
    rfl
  have hw : kS (G.1, G.2.1, g) kC SA [] A s.heap H locs := ⟨by show va_P G.1 vwCl (kw kC g (eU (G.1, G.2.1, g) SA) ++ []) H; rw [← hE]; exact hP3, by show va_D A (kw kC g (eU (G.1, G.2.1, g) SA) ++ []); rw [← hE]; exact hD3, hS⟩
  have hN2 : kN (G.1, G.2.1, g) s := by subst hg; exact hN
  have hg0 : g (0, 0) = h := by subst hg; rfl
  have hg20 : ∀ k, g (20, k) = G.2.2 (20, k) := by subst hg; intro k; rfl
  refine lv_aload_n hx hb dX4_init_153 rfl (lv_at hl 0 rfl) ?_
  refine lv_iconst (v := 4) hx hb dX4_init_154 (by decide) ?_
  refine lv_iconst (v := 4) hx hb dX4_init_155 (by decide) ?_
  refine lv_iconst (v := 4) hx hb dX4_init_156 (by decide) ?_
  refine W.eq (g2 := F0 m 157 ls [.int 4, .int 4, .int 4, .ref (g (0, 0))]) (by rw [hg0]) ?_
  refine k_callV (G := (G.1, G.2.1, g)) (C := RX4) (n := 3) (rest := []) ⟨hx, hb, hml, hown, hts⟩ (cX4c_startAnew l (G.1, G.2.1, g) [] SA 4 4 4) (cwV 3 hts gX4_init_X4_startAnew rfl rfl rfl (by decide +kernel) ⟨Nat.le_of_ble_eq_true rfl, Nat.le_of_ble_eq_true rfl⟩) (k_recv (G := (G.1, G.2.1, g)) hK hw kC_0 rfl rfl) hK hN2 hZ hA hw (Nat.le_of_ble_eq_true rfl) (Nat.le_of_ble_eq_true rfl) rfl hl.1 rfl (Nat.le_of_ble_eq_true rfl) dX4_init_157 (fun H locs hw => ?_)
  refine W.eq (g2 := F0 m 160 ls []) rfl ?_
  exact W.vret hx hb hr (fun t ht hW => ⟨⟨g, rfl, ⟨hg0, hg20⟩, by rw [ht]; exact hw.1, va_K.moved hW.alike hK, hw.2.1⟩, hw.2.2.F ht⟩) hw.2.2.2.2 dX4_init_160
