/-! CONSTRUCTORS, over explicit worlds -/
/-- a callee's part of the world, b, is put back beside the rest, a -/
theorem fr_app {A0 : Nat → Prop} {D : va_G} {cl : List vw_C} {a b b1 : va_W} {H H1 : Heap} (hP : va_P D cl (a ++ b) H) (hD : va_D A0 (a ++ b)) (hk : ∀ q : Nat, q < H.size → ¬ va_A b H.size q → H1[q]? = H[q]?) (hF : ∀ q, va_A b H.size q → A0 q) (hP1 : va_P D cl b1 H1) (hD1 : va_D (va_A b H.size) b1) : va_P D cl (a ++ b1) H1 ∧ va_D A0 (a ++ b1) := by
  have at1 : ∀ (k : Nat) (q : Nat × va_E), a[k]? = some q → (a ++ b)[k]? = some q := by
    intro k q hq
    rw [List.getElem?_append_left (List.getElem?_eq_some_iff.mp hq).1]
    exact hq
  have at2 : ∀ (k : Nat) (q : Nat × va_E), b[k]? = some q → (a ++ b)[a.length + k]? = some q := by
    intro k q hq
    rw [List.getElem?_append_right (Nat.le_add_right _ _), Nat.add_sub_cancel_left]
    exact hq
  have apart : ∀ (k : Nat) (q : Nat × va_E), a[k]? = some q → q.1 < H.size ∧ ¬ va_A b H.size q.1 := by
    intro k q hq
    have hl := (hP k q (at1 k q hq)).lt
    refine ⟨hl, fun h => ?_⟩
    rcases h with ⟨k2, e, h⟩ | h
    · have hij := hD.1 k (a.length + k2) q (q.1, e) (at1 k q hq) (at2 k2 _ h) rfl
      have := (List.getElem?_eq_some_iff.mp hq).1
      omega
    · omega
  have hDa : va_D A0 a := ⟨fun i j x y hi hj hxy => hD.1 i j x y (at1 i x hi) (at1 j y hj) hxy, fun k q hk => hD.2 k q (at1 k q hk)⟩
  refine ⟨va_P.app (fun k q hq => ?_) hP1, va_D.app hDa (hD1.weaken (fun k q _ h => hF q.1 h)) (fun i j x y hx hy hxy => ?_)⟩
  · obtain ⟨g1, g2⟩ := apart k q hq
    exact (hP k q (at1 k q hq)).kept (hk q.1 g1 g2)
  · exact (apart i x hx).2 (by rw [hxy]; exact hD1.2 j y hy)
theorem fr_b {D : va_G} {cl : List vw_C} {a b : va_W} {H : Heap} (hP : va_P D cl (a ++ b) H) : va_P D cl b H := fun k q hq => hP (a.length + k) q (by rw [List.getElem?_append_right (Nat.le_add_right _ _), Nat.add_sub_cancel_left]; exact hq)
theorem fr_bD {A0 : Nat → Prop} {a b : va_W} (hD : va_D A0 (a ++ b)) : va_D A0 b := by
  have at2 : ∀ (k : Nat) (q : Nat × va_E), b[k]? = some q → (a ++ b)[a.length + k]? = some q := by
    intro k q hq
    rw [List.getElem?_append_right (Nat.le_add_right _ _), Nat.add_sub_cancel_left]
    exact hq
  refine ⟨fun i j x y hi hj hxy => ?_, fun k q hk => hD.2 _ q (at2 k q hk)⟩
  have := hD.1 _ _ x y (at2 i x hi) (at2 j y hj) hxy
  omega
theorem fr_F {A0 : Nat → Prop} {b : va_W} {H0 H : Heap} {locs : List Loc} (hD : va_D A0 b) (hS : va_S A0 H0 H locs) (hA : ∀ q, H0.size ≤ q → A0 q) : ∀ q, va_A b H.size q → A0 q := by
  intro q h
  rcases h with ⟨k, e, h⟩ | h
  · exact hD.2 k (q, e) h
  · exact hA q (Nat.le_trans hS.1 h)
theorem ty_int {D : va_G} {cl : List vw_C} {G : gG} {cA : ClassId} {s : State} (h : va_K D cl (gTy G ++ [(cA, .int)]) s) : cA = G.2.1 0 := by
  have h1 : s.vm.findClass _ = some cA := (h.2 5 (cA, .int) rfl).2
  have h2 : s.vm.findClass _ = some (G.2.1 0) := (h.2 0 (G.2.1 0, .int) rfl).2
  exact Option.some.inj (h1.symm.trans h2)
theorem ty_long {D : va_G} {cl : List vw_C} {G : gG} {cA : ClassId} {s : State} (h : va_K D cl (gTy G ++ [(cA, .long)]) s) : cA = G.2.1 1 := by
  have h1 : s.vm.findClass _ = some cA := (h.2 5 (cA, .long) rfl).2
  have h2 : s.vm.findClass _ = some (G.2.1 1) := (h.2 1 (G.2.1 1, .long) rfl).2
  exact Option.some.inj (h1.symm.trans h2)
theorem ty_bool {D : va_G} {cl : List vw_C} {G : gG} {cA : ClassId} {s : State} (h : va_K D cl (gTy G ++ [(cA, .boolean)]) s) : cA = G.2.1 2 := by
  have h1 : s.vm.findClass _ = some cA := (h.2 5 (cA, .boolean) rfl).2
  have h2 : s.vm.findClass _ = some (G.2.1 2) := (h.2 2 (G.2.1 2, .boolean) rfl).2
  exact Option.some.inj (h1.symm.trans h2)
theorem ty_br {D : va_G} {cl : List vw_C} {G : gG} {cA : ClassId} {s : State} (h : va_K D cl (gTy G ++ [(cA, .object "BranchPredictor$Branch")]) s) : cA = G.2.1 3 := by
  obtain ⟨k1, c1, -, -, -, h1⟩ := (h.2 5 (cA, .object "BranchPredictor$Branch") rfl).2
  obtain ⟨k2, c2, -, -, -, h2⟩ := (h.2 3 (G.2.1 3, .object "BranchPredictor$Branch") rfl).2
  exact Option.some.inj (h1.symm.trans h2)
theorem ty_lp {D : va_G} {cl : List vw_C} {G : gG} {cA : ClassId} {s : State} (h : va_K D cl (gTy G ++ [(cA, .object "BranchPredictor$Loop")]) s) : cA = G.2.1 4 := by
  obtain ⟨k1, c1, -, -, -, h1⟩ := (h.2 5 (cA, .object "BranchPredictor$Loop") rfl).2
  obtain ⟨k2, c2, -, -, -, h2⟩ := (h.2 4 (G.2.1 4, .object "BranchPredictor$Loop") rfl).2
  exact Option.some.inj (h1.symm.trans h2)
set_option maxHeartbeats 4000000 in
set_option maxRecDepth 100000 in
theorem iX2 (l : Launch) (G : gG) (h sz : Nat) : Met l yX2_init wsX2_init ({ frames := 1, cells := 1, slots := 256, locals := 16 }) (va_Pc [.ref h] (fun U => U.heap.size = sz ∧ va_P G.1 vwCl [(h, .inr (2, [.null, .int 0]))] U.heap ∧ va_K G.1 vwCl (gTy G) U ∧ va_D (fun _ => True) [(h, .inr (2, [.null, .int 0]))])) (va_Qv (S := Nat) (fun _ => True) (fun q t => va_P G.1 vwCl [(h, .inr (2, [.ref q, .int 1])), (q, .inl (G.2.1 0, 256, .inl (fun _ => 0)))] t.heap ∧ va_K G.1 vwCl (gTy G) t ∧ va_D (va_A [(h, .inr (2, [.null, .int 0]))] sz) [(h, .inr (2, [.ref q, .int 1])), (q, .inl (G.2.1 0, 256, .inl (fun _ => 0)))]) (va_A [(h, .inr (2, [.null, .int 0]))] sz)) 1 256 (va_A [(h, .inr (2, [.null, .int 0]))] sz) := by
  refine Met.ofW (cc := cX2_init) (maxL := 1) (ret := none) (by decide) rfl ?_
  intro p e s m args below meth c s₁ B hml hv
  obtain ⟨rfl, hsz, hP, hK, hD0⟩ := hv
  have hx := B.exec
  have hb := B.bytes
  have hr := B.returns
  have hts := atoms_spec (ws := wsX2_init) B.pre
  have hown : s.vm.findClass RX2 = some m.cls := findClass_of_methodNamed B.named
  have hlocks := B.notSynchronized
  have hin : meth.name = "<init>" := (name_of_methodNamed B.named B.method).1
  subst hsz
  have hD := hD0.self (sz := s.heap.size)
  generalize hAe : va_A [(h, .inr (2, [.null, .int 0]))] s.heap.size = A at hD ⊢
  have hA : ∀ q : Nat, s.heap.size ≤ q → A q := fun q h => by rw [← hAe]; exact Or.inr h
  have hS : va_S A s.heap s.heap [] := va_S.rf
  have hl := lv_entry ([.ref h]) (n := 1) (Nat.le_of_ble_eq_true rfl)
  rw [lg_entry_eq]
  generalize (lg_sl ([.ref h]) ++ List.replicate (1 - (lg_sl ([.ref h])).length) Slot.unset).toArray = ls at hl ⊢
  have hl : lv_has ls 1 [(0, .ref h)] := hl
  have hP : va_P G.1 vwCl [(h, .inr (2, [.null, .int 0]))] s.heap := hP
  have hiX2 : ∀ w ∈ wsX20, w ∈ wsX2_init := by decide +kernel
  refine lv_aload_n hx hb dX2_init_0 rfl (lv_at hl 0 rfl) ?_
  refine W.objInit hx hb hown (hts (.methodLink RX2 3 objectInit) (by decide +kernel)) (hts (.instanceMethod objectInit) (by decide +kernel)) (hts (.code objectInit ⟨#[0xb1]⟩ 1 none) (by decide +kernel)) rfl (by rw [hml]; exact hl.1) rfl dX2_init_1 (Nat.le_of_ble_eq_true rfl) (Nat.le_of_ble_eq_true rfl) ?_
  refine W.eq (g2 := F0 m 4 ls []) rfl ?_
  refine lv_aload_n hx hb dX2_init_4 rfl (lv_at hl 0 rfl) ?_
  refine lv_sipush (v := 256) hx hb dX2_init_5 (by decide) ?_
  refine va_newa (atype := .int) (ty := .int) (N' := 256) (a0 := (256, .inl (fun _ => 0))) hx hb (hts (.arrayClass .int) (by decide +kernel)) rfl hK hP hD hS hA (fun _ => rfl) (by decide) rfl (by decide) (Nat.le_of_ble_eq_true rfl) (Nat.le_of_ble_eq_true rfl) dX2_init_8 (fun q8 cA H hK9 hP hD hS => ?_)
  obtain rfl := ty_int hK9
  have hP : va_P G.1 vwCl ([(h, .inr (2, [.null, .int 0])), (q8, .inl (G.2.1 0, 256, .inl (fun _ => 0)))]) H := hP
  have hD : va_D A ([(h, .inr (2, [.null, .int 0])), (q8, .inl (G.2.1 0, 256, .inl (fun _ => 0)))]) := hD
  refine W.widen (k := 1) (n := 256) (by omega) (by omega) ?_
  refine va_putF (D := G.1) (ci := 2) (v := .ref q8) (ty := .array .int) (C := RX2) (T := TX2) (N := 2) hx hb hts hiX2 tyX2 tyX2_ok nmX2 hown hK hP hD hS 0 rfl rfl 0 (by decide) (hts (.fieldLink RX2 9 "BranchPredictor$CounterTable" "values" "[I") (by decide +kernel)) (fun _ h9 => h9) rfl hin rfl (by decide +kernel) rfl rfl (Nat.le_of_ble_eq_true rfl) dX2_init_10 (fun H locs hP hD hS => ?_)
  have hP : va_P G.1 vwCl ([(h, .inr (2, [.ref q8, .int 0])), (q8, .inl (G.2.1 0, 256, .inl (fun _ => 0)))]) H := hP
  have hD : va_D A ([(h, .inr (2, [.ref q8, .int 0])), (q8, .inl (G.2.1 0, 256, .inl (fun _ => 0)))]) := hD
  refine lv_aload_n hx hb dX2_init_13 rfl (lv_at hl 0 rfl) ?_
  refine lv_iconst (v := 1) hx hb dX2_init_14 (by decide) ?_
  refine va_put (D := G.1) (ci := 2) (v := .int 1) (ty := .int) (C := RX2) (T := TX2) (N := 2) hx hb hts hiX2 tyX2 tyX2_ok nmX2 hown hK hP hD hS 0 rfl rfl 1 (by decide) (hts (.fieldLink RX2 15 "BranchPredictor$CounterTable" "size" "I") (by decide +kernel)) (fun _ h9 => h9) rfl (by decide +kernel) rfl rfl (Nat.le_of_ble_eq_true rfl) dX2_init_15 (fun H locs hP hD hS => ?_)
  have hP : va_P G.1 vwCl ([(h, .inr (2, [.ref q8, .int 1])), (q8, .inl (G.2.1 0, 256, .inl (fun _ => 0)))]) H := hP
  have hD : va_D A ([(h, .inr (2, [.ref q8, .int 1])), (q8, .inl (G.2.1 0, 256, .inl (fun _ => 0)))]) := hD
  exact W.vret hx hb hr (fun t ht hW => ⟨⟨q8, rfl, trivial, by rw [ht]; exact hP, va_K.moved hW.alike hK, hD⟩, hS.F ht⟩) hS.2.2 dX2_init_18
set_option maxHeartbeats 4000000 in
set_option maxRecDepth 100000 in
theorem iX0 (l : Launch) (G : gG) (h sz : Nat) : Met l yX0_init wsX0_init ({ frames := 1, cells := 1, slots := 256, locals := 16 }) (va_Pc [.ref h] (fun U => U.heap.size = sz ∧ va_P G.1 vwCl [(h, .inr (0, [.null, .long 0, .long 0]))] U.heap ∧ va_K G.1 vwCl (gTy G) U ∧ va_D (fun _ => True) [(h, .inr (0, [.null, .long 0, .long 0]))])) (va_Qv (S := Nat) (fun _ => True) (fun q t => va_P G.1 vwCl [(h, .inr (0, [.ref q, .long 0, .long 0])), (q, .inl (G.2.1 0, 256, .inl (fun _ => 0)))] t.heap ∧ va_K G.1 vwCl (gTy G) t ∧ va_D (va_A [(h, .inr (0, [.null, .long 0, .long 0]))] sz) [(h, .inr (0, [.ref q, .long 0, .long 0])), (q, .inl (G.2.1 0, 256, .inl (fun _ => 0)))]) (va_A [(h, .inr (0, [.null, .long 0, .long 0]))] sz)) 1 256 (va_A [(h, .inr (0, [.null, .long 0, .long 0]))] sz) := by
  refine Met.ofW (cc := cX0_init) (maxL := 1) (ret := none) (by decide) rfl ?_
  intro p e s m args below meth c s₁ B hml hv
  obtain ⟨rfl, hsz, hP, hK, hD0⟩ := hv
  have hx := B.exec
  have hb := B.bytes
  have hr := B.returns
  have hts := atoms_spec (ws := wsX0_init) B.pre
  have hown : s.vm.findClass RX0 = some m.cls := findClass_of_methodNamed B.named
  have hlocks := B.notSynchronized
  have hin : meth.name = "<init>" := (name_of_methodNamed B.named B.method).1
  subst hsz
  have hD := hD0.self (sz := s.heap.size)
  generalize hAe : va_A [(h, .inr (0, [.null, .long 0, .long 0]))] s.heap.size = A at hD ⊢
  have hA : ∀ q : Nat, s.heap.size ≤ q → A q := fun q h => by rw [← hAe]; exact Or.inr h
  have hS : va_S A s.heap s.heap [] := va_S.rf
  have hl := lv_entry ([.ref h]) (n := 1) (Nat.le_of_ble_eq_true rfl)
  rw [lg_entry_eq]
  generalize (lg_sl ([.ref h]) ++ List.replicate (1 - (lg_sl ([.ref h])).length) Slot.unset).toArray = ls at hl ⊢
  have hl : lv_has ls 1 [(0, .ref h)] := hl
  have hP : va_P G.1 vwCl [(h, .inr (0, [.null, .long 0, .long 0]))] s.heap := hP
  have hiX0 : ∀ w ∈ wsX00, w ∈ wsX0_init := by decide +kernel
  refine lv_aload_n hx hb dX0_init_0 rfl (lv_at hl 0 rfl) ?_
  refine W.objInit hx hb hown (hts (.methodLink RX0 3 objectInit) (by decide +kernel)) (hts (.instanceMethod objectInit) (by decide +kernel)) (hts (.code objectInit ⟨#[0xb1]⟩ 1 none) (by decide +kernel)) rfl (by rw [hml]; exact hl.1) rfl dX0_init_1 (Nat.le_of_ble_eq_true rfl) (Nat.le_of_ble_eq_true rfl) ?_
  refine W.eq (g2 := F0 m 4 ls []) rfl ?_
  refine lv_aload_n hx hb dX0_init_4 rfl (lv_at hl 0 rfl) ?_
  refine lv_sipush (v := 256) hx hb dX0_init_5 (by decide) ?_
  refine va_newa (atype := .int) (ty := .int) (N' := 256) (a0 := (256, .inl (fun _ => 0))) hx hb (hts (.arrayClass .int) (by decide +kernel)) rfl hK hP hD hS hA (fun _ => rfl) (by decide) rfl (by decide) (Nat.le_of_ble_eq_true rfl) (Nat.le_of_ble_eq_true rfl) dX0_init_8 (fun q8 cA H hK9 hP hD hS => ?_)
  obtain rfl := ty_int hK9
  have hP : va_P G.1 vwCl ([(h, .inr (0, [.null, .long 0, .long 0])), (q8, .inl (G.2.1 0, 256, .inl (fun _ => 0)))]) H := hP
  have hD : va_D A ([(h, .inr (0, [.null, .long 0, .long 0])), (q8, .inl (G.2.1 0, 256, .inl (fun _ => 0)))]) := hD
  refine W.widen (k := 1) (n := 256) (by omega) (by omega) ?_
  refine va_putF (D := G.1) (ci := 0) (v := .ref q8) (ty := .array .int) (C := RX0) (T := TX0) (N := 3) hx hb hts hiX0 tyX0 tyX0_ok nmX0 hown hK hP hD hS 0 rfl rfl 0 (by decide) (hts (.fieldLink RX0 9 "BranchPredictor$Audit" "latestPlaces" "[I") (by decide +kernel)) (fun _ h9 => h9) rfl hin rfl (by decide +kernel) rfl rfl (Nat.le_of_ble_eq_true rfl) dX0_init_10 (fun H locs hP hD hS => ?_)
  have hP : va_P G.1 vwCl ([(h, .inr (0, [.ref q8, .long 0, .long 0])), (q8, .inl (G.2.1 0, 256, .inl (fun _ => 0)))]) H := hP
  have hD : va_D A ([(h, .inr (0, [.ref q8, .long 0, .long 0])), (q8, .inl (G.2.1 0, 256, .inl (fun _ => 0)))]) := hD
  exact W.vret hx hb hr (fun t ht hW => ⟨⟨q8, rfl, trivial, by rw [ht]; exact hP, va_K.moved hW.alike hK, hD⟩, hS.F ht⟩) hS.2.2 dX0_init_13
set_option maxHeartbeats 4000000 in
set_option maxRecDepth 100000 in
theorem iX1 (l : Launch) (G : gG) (h sz : Nat) : Met l yX1_init wsX1_init ({ frames := 1, cells := 0, slots := 0, locals := 16 }) (va_Pc [.ref h] (fun U => U.heap.size = sz ∧ va_P G.1 vwCl [(h, .inr (1, [.int 0, .int 0, .int 0, .int 0, .int 0, .int 0, .int 0, .int 0, .int 0]))] U.heap ∧ va_K G.1 vwCl (gTy G) U ∧ va_D (fun _ => True) [(h, .inr (1, [.int 0, .int 0, .int 0, .int 0, .int 0, .int 0, .int 0, .int 0, .int 0]))])) (va_Qv (S := Nat) (fun _ => True) (fun q t => va_P G.1 vwCl [(h, .inr (1, [.int 0, .int 0, .int 0, .int 0, .int 0, .int 0, .int 0, .int 0, .int 0]))] t.heap ∧ va_K G.1 vwCl (gTy G) t ∧ va_D (va_A [(h, .inr (1, [.int 0, .int 0, .int 0, .int 0, .int 0, .int 0, .int 0, .int 0, .int 0]))] sz) [(h, .inr (1, [.int 0, .int 0, .int 0, .int 0, .int 0, .int 0, .int 0, .int 0, .int 0]))]) (va_A [(h, .inr (1, [.int 0, .int 0, .int 0, .int 0, .int 0, .int 0, .int 0, .int 0, .int 0]))] sz)) 0 0 (va_A [(h, .inr (1, [.int 0, .int 0, .int 0, .int 0, .int 0, .int 0, .int 0, .int 0, .int 0]))] sz) := by
  refine Met.ofW (cc := cX1_init) (maxL := 1) (ret := none) (by decide) rfl ?_
  intro p e s m args below meth c s₁ B hml hv
  obtain ⟨rfl, hsz, hP, hK, hD0⟩ := hv
  have hx := B.exec
  have hb := B.bytes
  have hr := B.returns
  have hts := atoms_spec (ws := wsX1_init) B.pre
  have hown : s.vm.findClass RX1 = some m.cls := findClass_of_methodNamed B.named
  have hlocks := B.notSynchronized
  have hin : meth.name = "<init>" := (name_of_methodNamed B.named B.method).1
  subst hsz
  have hD := hD0.self (sz := s.heap.size)
  generalize hAe : va_A [(h, .inr (1, [.int 0, .int 0, .int 0, .int 0, .int 0, .int 0, .int 0, .int 0, .int 0]))] s.heap.size = A at hD ⊢
  have hA : ∀ q : Nat, s.heap.size ≤ q → A q := fun q h => by rw [← hAe]; exact Or.inr h
  have hS : va_S A s.heap s.heap [] := va_S.rf
  have hl := lv_entry ([.ref h]) (n := 1) (Nat.le_of_ble_eq_true rfl)
  rw [lg_entry_eq]
  generalize (lg_sl ([.ref h]) ++ List.replicate (1 - (lg_sl ([.ref h])).length) Slot.unset).toArray = ls at hl ⊢
  have hl : lv_has ls 1 [(0, .ref h)] := hl
  have hP : va_P G.1 vwCl [(h, .inr (1, [.int 0, .int 0, .int 0, .int 0, .int 0, .int 0, .int 0, .int 0, .int 0]))] s.heap := hP
  refine lv_aload_n hx hb dX1_init_0 rfl (lv_at hl 0 rfl) ?_
  refine W.objInit hx hb hown (hts (.methodLink RX1 3 objectInit) (by decide +kernel)) (hts (.instanceMethod objectInit) (by decide +kernel)) (hts (.code objectInit ⟨#[0xb1]⟩ 1 none) (by decide +kernel)) rfl (by rw [hml]; exact hl.1) rfl dX1_init_1 (Nat.le_of_ble_eq_true rfl) (Nat.le_of_ble_eq_true rfl) ?_
  refine W.eq (g2 := F0 m 4 ls []) rfl ?_
  exact W.vret hx hb hr (fun t ht hW => ⟨⟨0, rfl, trivial, by rw [ht]; exact hP, va_K.moved hW.alike hK, hD⟩, hS.F ht⟩) hS.2.2 dX1_init_4
set_option maxHeartbeats 4000000 in
set_option maxRecDepth 100000 in
theorem iX3 (l : Launch) (G : gG) (h sz : Nat) : Met l yX3_init wsX3_init ({ frames := 1, cells := 0, slots := 0, locals := 16 }) (va_Pc [.ref h] (fun U => U.heap.size = sz ∧ va_P G.1 vwCl [(h, .inr (3, [.int 0, .int 0, .int 0, .int 0]))] U.heap ∧ va_K G.1 vwCl (gTy G) U ∧ va_D (fun _ => True) [(h, .inr (3, [.int 0, .int 0, .int 0, .int 0]))])) (va_Qv (S := Nat) (fun _ => True) (fun q t => va_P G.1 vwCl [(h, .inr (3, [.int (-1), .int 0, .int 0, .int 0]))] t.heap ∧ va_K G.1 vwCl (gTy G) t ∧ va_D (va_A [(h, .inr (3, [.int 0, .int 0, .int 0, .int 0]))] sz) [(h, .inr (3, [.int (-1), .int 0, .int 0, .int 0]))]) (va_A [(h, .inr (3, [.int 0, .int 0, .int 0, .int 0]))] sz)) 0 0 (va_A [(h, .inr (3, [.int 0, .int 0, .int 0, .int 0]))] sz) := by
  refine Met.ofW (cc := cX3_init) (maxL := 1) (ret := none) (by decide) rfl ?_
  intro p e s m args below meth c s₁ B hml hv
  obtain ⟨rfl, hsz, hP, hK, hD0⟩ := hv
  have hx := B.exec
  have hb := B.bytes
  have hr := B.returns
  have hts := atoms_spec (ws := wsX3_init) B.pre
  have hown : s.vm.findClass RX3 = some m.cls := findClass_of_methodNamed B.named
  have hlocks := B.notSynchronized
  have hin : meth.name = "<init>" := (name_of_methodNamed B.named B.method).1
  subst hsz
  have hD := hD0.self (sz := s.heap.size)
  generalize hAe : va_A [(h, .inr (3, [.int 0, .int 0, .int 0, .int 0]))] s.heap.size = A at hD ⊢
  have hA : ∀ q : Nat, s.heap.size ≤ q → A q := fun q h => by rw [← hAe]; exact Or.inr h
  have hS : va_S A s.heap s.heap [] := va_S.rf
  have hl := lv_entry ([.ref h]) (n := 1) (Nat.le_of_ble_eq_true rfl)
  rw [lg_entry_eq]
  generalize (lg_sl ([.ref h]) ++ List.replicate (1 - (lg_sl ([.ref h])).length) Slot.unset).toArray = ls at hl ⊢
  have hl : lv_has ls 1 [(0, .ref h)] := hl
  have hP : va_P G.1 vwCl [(h, .inr (3, [.int 0, .int 0, .int 0, .int 0]))] s.heap := hP
  have hiX3 : ∀ w ∈ wsX30, w ∈ wsX3_init := by decide +kernel
  refine lv_aload_n hx hb dX3_init_0 rfl (lv_at hl 0 rfl) ?_
  refine W.objInit hx hb hown (hts (.methodLink RX3 3 objectInit) (by decide +kernel)) (hts (.instanceMethod objectInit) (by decide +kernel)) (hts (.code objectInit ⟨#[0xb1]⟩ 1 none) (by decide +kernel)) rfl (by rw [hml]; exact hl.1) rfl dX3_init_1 (Nat.le_of_ble_eq_true rfl) (Nat.le_of_ble_eq_true rfl) ?_
  refine W.eq (g2 := F0 m 4 ls []) rfl ?_
  refine lv_aload_n hx hb dX3_init_4 rfl (lv_at hl 0 rfl) ?_
  refine lv_iconst (v := -1) hx hb dX3_init_5 (by decide) ?_
  refine va_put (D := G.1) (ci := 3) (v := .int (-1)) (ty := .int) (C := RX3) (T := TX3) (N := 4) hx hb hts hiX3 tyX3 tyX3_ok nmX3 hown hK hP hD hS 0 rfl rfl 0 (by decide) (hts (.fieldLink RX3 9 "BranchPredictor$Loop" "place" "I") (by decide +kernel)) (fun _ h9 => h9) rfl (by decide +kernel) rfl rfl (Nat.le_of_ble_eq_true rfl) dX3_init_6 (fun H locs hP hD hS => ?_)
  have hP : va_P G.1 vwCl ([(h, .inr (3, [.int (-1), .int 0, .int 0, .int 0]))]) H := hP
  have hD : va_D A ([(h, .inr (3, [.int (-1), .int 0, .int 0, .int 0]))]) := hD
  exact W.vret hx hb hr (fun t ht hW => ⟨⟨0, rfl, trivial, by rw [ht]; exact hP, va_K.moved hW.alike hK, hD⟩, hS.F ht⟩) hS.2.2 dX3_init_9
/-- what a new predictor holds just before it starts anew -/
def SA : uS := (fun a _ c => if a = 0 ∧ (c = 8 ∨ c = 9 ∨ c = 10) then 4 else if a = 1 ∧ c = 1 then 1 else if a = 9 ∧ c = 0 then -1 else 0, fun _ _ _ => 0, fun _ _ _ => false)
def SM : uS := (fun _ _ _ => 0, fun _ _ _ => 0, fun _ _ _ => false)
abbrev z9 : List Value := [.int 0, .int 0, .int 0, .int 0, .int 0, .int 0, .int 0, .int 0, .int 0]
abbrev z4 : List Value := [.int (-1), .int 0, .int 0, .int 0]
def pl8 (ad : Nat → Nat) (i : Nat) : va_W := (List.range i).map (fun k => (ad k, .inr (1, z9)))
def pl9 (ad : Nat → Nat) (i : Nat) : va_W := (List.range i).map (fun k => (ad k, .inr (3, z4)))
def rc (ad : Nat → Nat) (i : Nat) : Nat → Option Nat := fun j => if j < i then some (ad j) else none
theorem rc_up (ad : Nat → Nat) (i q : Nat) : va_up (rc ad i) i (some q) = rc (va_up ad i q) (i + 1) := by
  funext j
  by_cases h : j = i
  · subst h; simp [va_up, rc]
  · by_cases h2 : j < i
    · simp [va_up, rc, h, h2, Nat.lt_succ_of_lt h2]
    · have h3 : ¬ j < i + 1 := by omega
      simp [va_up, rc, h, h2, h3]
theorem pl8_up (ad : Nat → Nat) (i q : Nat) : pl8 ad i ++ [(q, .inr (1, z9))] = pl8 (va_up ad i q) (i + 1) := by
  unfold pl8
  rw [List.range_succ, List.map_append]
  congr 1
  · apply List.map_congr_left
    intro k hk
    have hk2 : k ≠ i := Nat.ne_of_lt (List.mem_range.mp hk)
    simp [va_up, hk2]
  · simp [va_up]
theorem pl9_up (ad : Nat → Nat) (i q : Nat) : pl9 ad i ++ [(q, .inr (3, z4))] = pl9 (va_up ad i q) (i + 1) := by
  unfold pl9
  rw [List.range_succ, List.map_append]
  congr 1
  · apply List.map_congr_left
    intro k hk
    have hk2 : k ≠ i := Nat.ne_of_lt (List.mem_range.mp hk)
    simp [va_up, hk2]
  · simp [va_up]
theorem rc_full (ad : Nat → Nat) (n : Nat) (cA : ClassId) : vp_cell cA (n, .inr (.inr (.inr (.inr (rc ad n))))) = vp_cell cA (n, .inr (.inr (.inr (.inr (fun j => some (ad j)))))) := by
  show arrV cA n (fun j => va_rf (rc ad n j)) = arrV cA n (fun j => va_rf (some (ad j)))
  exact arrV_congr (fun j hj => by rw [rc, if_pos hj])
