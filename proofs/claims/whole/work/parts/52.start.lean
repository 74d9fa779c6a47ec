set_option maxHeartbeats 4000000 in
set_option maxRecDepth 100000 in
theorem whole_start {p : Program} {e : Env} {s : State} {m : MethodId} {below : List Frame} {meth : Method} {c : Code} (l : Launch) (hflags : l.flags = flags0) {b L : Nat} {xs : Nat → Int32} (hL : L ≤ 2048) (C0 : lw_At p s m meth c b L xs) : W p l e room_1 s m #[Value.ref b] below meth c s.heap [] 0 0 (lw_Z below #[Value.ref b] s) (entryFrame m ([Value.ref b] : List Value).toArray 9) := by
  obtain ⟨hx, hb, hr, hml, hown, hts0, hX, hbl, hlocks, hgv⟩ := id C0
  have hlt : l.stackTraces = false := by
    unfold Launch.stackTraces
    rw [hflags]
    decide +kernel
  have hown : s.vm.findClass RL = some m.cls := hown
  have hts : ∀ w ∈ wsL_law, w.before #[Value.ref b] s = true := fun w h => hts0 w (wsL_law_in w h)
  obtain ⟨G, hK, hN, hZ, hO1, hO3⟩ := law_env hts0 hgv
  have hA : ∀ q : Nat, s.heap.size ≤ q → (fun q : Nat => s.heap.size ≤ q) q := fun _ h => h
  have hS : va_S (fun q : Nat => s.heap.size ≤ q) s.heap s.heap [] := va_S.rf
  have hP : va_P G.1 vwCl [] s.heap := fun k q h => by simp at h
  have hD : va_D (fun q : Nat => s.heap.size ≤ q) [] := ⟨fun i j p q h => by simp at h, fun k q h => by simp at h⟩
  have hd0 := Drawn.sameBut.refl s.drawn lw_cs
  have hl := lv_entry ([.ref b]) (n := 9) (Nat.le_of_ble_eq_true rfl)
  rw [lg_entry_eq]
  generalize (lg_sl ([.ref b]) ++ List.replicate (9 - (lg_sl ([.ref b])).length) Slot.unset).toArray = ls at hl ⊢
  have hl : lv_has ls 9 [(0, .ref b)] := hl
  -- the predictor
  refine va_new (ci := 4) (fs := [.null, .null, .null, .null, .null, .null, .null, .null, .int 0, .int 0, .int 0, .int 0, .int 0, .int 0, .long 0, .long 0]) (C := RX4) (T := TX4) (N := 16) hx hb hts inlX4 tyX4 tyX4_ok hown (hts (.classLink RL 8 RX4) (by decide +kernel)) (hts (.instantiable RX4 16) (by decide +kernel)) (hts (.initialized RX4) (by decide +kernel)) hK hP hD hS hA rfl (fun j hj => by rcases (show j = 0 ∨ j = 1 ∨ j = 2 ∨ j = 3 ∨ j = 4 ∨ j = 5 ∨ j = 6 ∨ j = 7 ∨ j = 8 ∨ j = 9 ∨ j = 10 ∨ j = 11 ∨ j = 12 ∨ j = 13 ∨ j = 14 ∨ j = 15 by omega) with rfl | rfl | rfl | rfl | rfl | rfl | rfl | rfl | rfl | rfl | rfl | rfl | rfl | rfl | rfl | rfl <;> rfl) (Nat.le_of_ble_eq_true rfl) (Nat.le_of_ble_eq_true rfl) dL_law_0 (fun q0 H hP hD hS => ?_)
  have hP : va_P G.1 vwCl [(q0, .inr (4, [.null, .null, .null, .null, .null, .null, .null, .null, .int 0, .int 0, .int 0, .int 0, .int 0, .int 0, .long 0, .long 0]))] H := hP
  have hD : va_D (fun q : Nat => s.heap.size ≤ q) [(q0, .inr (4, [.null, .null, .null, .null, .null, .null, .null, .null, .int 0, .int 0, .int 0, .int 0, .int 0, .int 0, .long 0, .long 0]))] := hD
  refine W.widen (k := 1) (n := 16) (by omega) (by omega) ?_
  refine lv_dup hx hb dL_law_3 rfl ?_
  have hFc := fr_F hD hS hA
  refine va_callv (va_runI (As := []) (rest := [.ref q0]) ⟨hx, hb, hml, hown, hts⟩ (iX4 l G q0 H.size) (cwI 0 hts gL_law_X4_init rfl rfl rfl (hts (.initialized RX4) (by decide +kernel)) (hts (.methodLink RL 64 yX4_init) (by decide +kernel)) (hts (.instanceMethod yX4_init) (by decide +kernel)) rfl (by decide +kernel) ⟨Nat.le_of_ble_eq_true rfl, Nat.le_of_ble_eq_true rfl⟩) ⟨fun a U g mk q => by
      obtain ⟨q0, q1, qP, qK, qD, qN, qZ, qO1, qO3⟩ := q
      exact ⟨q0, q1, qP, va_K.moved (u := U) (U := U.calling g mk a) (Vm.Alike.refl U.vm) qK, qD, qN.same (U := U.calling g mk a) rfl, kZ.moved (u := U) (U := U.calling g mk a) (Vm.Alike.refl U.vm) qZ, va_AO.moved (u := U) (U := U.calling g mk a) (Vm.Alike.refl U.vm) qO1, va_AO.moved (u := U) (U := U.calling g mk a) (Vm.Alike.refl U.vm) qO3⟩, fun U hU hW => ⟨rfl, by rw [hU], by rw [hU]; exact hP, va_K.moved hW.alike hK, hD.weaken (fun _ _ _ _ => trivial), hN.warm hW, by rw [hU]; exact ((hZ.kept (fun a h1 h2 => hS.2.1 a h1 h2)).narrow hFc).moved hW.alike, va_AO.moved hW.alike hO1, va_AO.moved hW.alike hO3⟩⟩ rfl rfl hl.1 rfl (lv_room (Nat.le_of_ble_eq_true rfl)) dL_law_4 ⟨Nat.le_of_ble_eq_true rfl, Nat.le_of_ble_eq_true rfl⟩) hS (fun q _ h => hFc q h) hFc (fun g1 t H1 locs ht hvm hw9 hB hz1 hk1 hS => ?_)
  obtain ⟨hP1, hK1, hD1⟩ := hB
  rw [ht] at hP1
  obtain ⟨hg1, hg20⟩ := hw9
  have hD : va_D (fun q : Nat => s.heap.size ≤ q) (kw kC g1 (eU (G.1, G.2.1, g1) (fX4_startAnew SA 4 4 4)) ++ []) := hD1.weaken (fun _ q _ h => hFc q.1 h)
  have hP := hP1
  generalize H1 = H at hP hS ⊢
  refine W.widen (k := 38) (n := 1512) (by omega) (by omega) ?_
  refine lv_astore_n (lv' := [(1, .ref q0), (0, .ref b)]) hx hb dL_law_7 rfl hl (by decide) rfl (fun ls hl => ?_)
  -- the reference
  have hN1 : kN (G.1, G.2.1, g1) s := kN_g hN hg20
  refine va_new (ci := 5) (fs := [.int 0, .int 0, .int 0, .int 0, .int 0, .null, .null, .int 0, .null, .null, .null, .null, .null, .null, .null, .null, .null, .null, .long 0, .long 0, .null, .null]) (C := RX5) (T := TX5) (N := 22) hx hb hts inlX5 tyX5 tyX5_ok hown (hts (.classLink RL 65 RX5) (by decide +kernel)) (hts (.instantiable RX5 22) (by decide +kernel)) (hts (.initialized RX5) (by decide +kernel)) hK hP hD hS hA rfl (fun j hj => by rcases (show j = 0 ∨ j = 1 ∨ j = 2 ∨ j = 3 ∨ j = 4 ∨ j = 5 ∨ j = 6 ∨ j = 7 ∨ j = 8 ∨ j = 9 ∨ j = 10 ∨ j = 11 ∨ j = 12 ∨ j = 13 ∨ j = 14 ∨ j = 15 ∨ j = 16 ∨ j = 17 ∨ j = 18 ∨ j = 19 ∨ j = 20 ∨ j = 21 by omega) with rfl | rfl | rfl | rfl | rfl | rfl | rfl | rfl | rfl | rfl | rfl | rfl | rfl | rfl | rfl | rfl | rfl | rfl | rfl | rfl | rfl | rfl <;> rfl) (Nat.le_of_ble_eq_true rfl) (Nat.le_of_ble_eq_true rfl) dL_law_8 (fun q1 H hP hD hS => ?_)
  refine W.widen (k := 39) (n := 1534) (by omega) (by omega) ?_
  refine lv_dup hx hb dL_law_11 rfl ?_
  have hPb := fr_b hP
  have hDb := fr_bD hD
  have hFc := fr_F hDb hS hA
  refine va_callv (va_runI (As := []) (rest := [.ref q1]) ⟨hx, hb, hml, hown, hts⟩ (iX5 l (G.1, G.2.1, g1) q1 H.size) (cwI 0 hts gL_law_X5_init rfl rfl rfl (hts (.initialized RX5) (by decide +kernel)) (hts (.methodLink RL 67 yX5_init) (by decide +kernel)) (hts (.instanceMethod yX5_init) (by decide +kernel)) rfl (by decide +kernel) ⟨Nat.le_of_ble_eq_true rfl, Nat.le_of_ble_eq_true rfl⟩) ⟨fun a U g mk q => by
      obtain ⟨q0, q1, qP, qK, qD, qN, qZ⟩ := q
      exact ⟨q0, q1, qP, va_K.moved (u := U) (U := U.calling g mk a) (Vm.Alike.refl U.vm) qK, qD, qN.same (U := U.calling g mk a) rfl, kZ.moved (u := U) (U := U.calling g mk a) (Vm.Alike.refl U.vm) qZ⟩, fun U hU hW => ⟨rfl, by rw [hU], by rw [hU]; exact hPb, va_K.moved hW.alike hK, hDb.weaken (fun _ _ _ _ => trivial), hN1.warm hW, by rw [hU]; exact ((hZ.kept (fun a h1 h2 => hS.2.1 a h1 h2)).narrow hFc).moved hW.alike⟩⟩ rfl rfl hl.1 rfl (lv_room (Nat.le_of_ble_eq_true rfl)) dL_law_12 ⟨Nat.le_of_ble_eq_true rfl, Nat.le_of_ble_eq_true rfl⟩) hS (fun q _ h => hFc q h) hFc (fun g2 t H1 locs ht hvm hw9 hB hz1 hk1 hS => ?_)
  obtain ⟨hP1, hK1, hD1⟩ := hB
  rw [ht] at hP1
  obtain ⟨hg2, hgo⟩ := hw9
  obtain ⟨hP, hD⟩ := fr_app hP hD hk1 hFc hP1 hD1
  generalize H1 = H at hP hS ⊢
  refine W.widen (k := 53) (n := 2990) (by omega) (by omega) ?_
  refine lv_astore_n (lv' := [(2, .ref q1), (1, .ref q0), (0, .ref b)]) hx hb dL_law_15 rfl hl (by decide) rfl (fun ls hl => ?_)
  -- the row of one long
  refine lv_iconst (v := 1) hx hb dL_law_16 (by decide) ?_
  refine va_newa (atype := .long) (ty := .long) (N' := 1) (a0 := (1, .inr (.inl (fun _ => 0)))) hx hb (hts (.arrayClass .long) (by decide +kernel)) rfl hK hP hD hS hA (fun _ => rfl) (by decide) rfl (by decide) (Nat.le_of_ble_eq_true rfl) (Nat.le_of_ble_eq_true rfl) dL_law_17 (fun q2 cA H hK9 hP hD hS => ?_)
  obtain rfl := ty_long hK9
  refine W.widen (k := 54) (n := 2991) (by omega) (by omega) ?_
  refine lv_astore_n (lv' := [(3, .ref q2), (2, .ref q1), (1, .ref q0), (0, .ref b)]) hx hb dL_law_19 rfl hl (by decide) rfl (fun ls hl => ?_)
  refine lv_iconst (v := 0) hx hb dL_law_20 (by decide) ?_
  refine lv_istore (lv' := [(4, .int 0), (3, .ref q2), (2, .ref q1), (1, .ref q0), (0, .ref b)]) hx hb dL_law_21 hl (by decide) rfl (fun ls hl => ?_)
  -- all addresses in one
  obtain ⟨g3, e14, e13, e20⟩ : ∃ g3 : kK → Nat, g3 (14, 0) = q2 ∧ (∀ k : kK, k.1 ≤ 13 → g3 k = g2 k) ∧ ∀ k : Nat, g3 (20, k) = g2 (20, k) := by
    refine ⟨fun k => if k.1 = 14 then q2 else g2 k, rfl, fun k hk => ?_, fun k => rfl⟩
    show (if k.1 = 14 then q2 else g2 k) = g2 k
    rw [if_neg (by omega)]
  have ec : ∀ k : kK, k.1 < 10 → g3 k = g1 k := fun k hk => (e13 k (by omega)).trans (hgo k (Or.inl hk))
  have eC : kw kC g1 (eU (G.1, G.2.1, g1) (fX4_startAnew SA 4 4 4)) = kw kC g3 (eU (G.1, G.2.1, g3) (fX4_startAnew SA 4 4 4)) := kw_cg fun k hk => ⟨(ec k (kC_10 k hk)).symm, (eU_C ec k (kC_10 k hk)).symm⟩
  have eM : kw kM g2 (eU (G.1, G.2.1, g2) (fX5_begin SM 4 4 4)) = kw kM g3 (eU (G.1, G.2.1, g3) (fX5_begin SM 4 4 4)) := kw_cg fun k hk => ⟨(e13 k (kM_13 k hk).2).symm, (eU_M e13 k (kM_13 k hk).1 (kM_13 k hk).2).symm⟩
  have eO : (q2, (Sum.inl (G.2.1 1, 1, .inr (.inl (fun _ => 0))) : va_E)) = kO (G.1, G.2.1, g3) (fun _ => 0) := by
    unfold kO
    rw [show (G.1, G.2.1, g3).2.2 (14, 0) = q2 from e14]
  have hper : ((kw kC g1 (eU (G.1, G.2.1, g1) (fX4_startAnew SA 4 4 4)) ++ []) ++ (kw kM g2 (eU (G.1, G.2.1, g2) (fX5_begin SM 4 4 4)) ++ []) ++ [(q2, (Sum.inl (G.2.1 1, 1, .inr (.inl (fun _ => 0))) : va_E))]).Perm (kw kC g3 (eU (G.1, G.2.1, g3) (fX4_startAnew SA 4 4 4)) ++ kO (G.1, G.2.1, g3) (fun _ => 0) :: kw kM g3 (eU (G.1, G.2.1, g3) (fX5_begin SM 4 4 4))) := by
    rw [eC, eM, eO, List.append_nil, List.append_nil, List.append_assoc]
    exact List.Perm.append_left _ List.perm_append_comm
  have hw : kS (G.1, G.2.1, g3) kC (fX4_startAnew SA 4 4 4) (kO (G.1, G.2.1, g3) (fun _ => 0) :: kw kM g3 (eU (G.1, G.2.1, g3) (fX5_begin SM 4 4 4))) (fun q : Nat => s.heap.size ≤ q) s.heap H locs := ⟨va_P_perm hper hP, va_D_perm hper hD, hS⟩
  have hRR : RelE (fX4_startAnew SA 4 4 4) (fX5_begin SM 4 4 4) := ⟨4, 4, 4, 0, 0, 0, (R_start SA SM (P := 4) (Q := 4) (h := 4) (by decide) (by decide) (by decide) (fun j _ => ⟨⟨0, by decide, rfl⟩, 0, by decide, rfl⟩)).1⟩
  have hNg : kN (G.1, G.2.1, g3) s := kN_g hN1 (fun k => (e20 k).trans (hgo (20, k) (Or.inr (show 13 < 20 by decide))))
  have h0 : g3 (0, 0) = q0 := (ec (0, 0) (by decide)).trans hg1
  have h10 : g3 (10, 0) = q1 := (e13 (10, 0) (by decide)).trans hg2
  have hl : lv_has ls 9 (lwL (G.1, G.2.1, g3) b (nI (4 * 0))) := by
    show lv_has ls 9 [(4, .int 0), (3, .ref (g3 (14, 0))), (2, .ref (g3 (10, 0))), (1, .ref (g3 (0, 0))), (0, .ref b)]
    rw [e14, h10, h0]
    exact hl
  exact W.base (law_run (G := (G.1, G.2.1, g3)) hts hlt hx hb hr hlocks hml hown hX hbl hK hNg hZ hL 513 0 s.drawn _ _ _ H locs ls 54 2991 (by omega) (by omega) (by omega) (by omega) hd0 hRR hw hl)
