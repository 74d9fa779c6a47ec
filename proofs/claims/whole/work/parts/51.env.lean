/-! WHAT HOLDS AT THE LAW'S ENTRY -/
theorem arr_prim {args : Array Value} {s : State} {ty : FieldType} (h : (Cond.arrayClass ty).before args s = true) : ∃ cA : ClassId, ArrOfT s cA ty ∧ s.vm.findClass ("[" ++ ty.toString) = some cA := by
  obtain ⟨c, k, comp, h1, h2, h3⟩ := Cond.arrayClass_spec h
  exact ⟨c, fun n z => ⟨fun k h => (by cases h), k, h2, comp, h3⟩, h1⟩
theorem arr_obj {args : Array Value} {s : State} {C : String} (h : (Cond.arrayOver (.object C)).before args s = true) : ∃ cA : ClassId, ArrOfT s cA (.object C) ∧ va_RA s cA (.object C) := by
  obtain ⟨comp, c, k, h1, h2, h3, h4, h5⟩ := Cond.arrayOver_spec h
  exact ⟨c, fun n z => ⟨fun k h => (by cases h), k, h3, comp, h4⟩, k, comp, h3, h4, h1, h5⟩
theorem str_at {args : Array Value} {s : State} {k : Nat} {cl : ClassId} (hc : s.vm.findClass RX4 = some cl) (h : (Cond.stringRef RX4 k (kTx k)).before args s = true) : ∃ a : Nat, vk_R RX4 k (kTx k) a s := by
  obtain ⟨k9, cf, i, a, h1, h2, h3, h4, h5, h6⟩ := Cond.stringRef_spec hc h
  exact ⟨a, vk_R.of (A := args) h h6⟩
theorem kN_g {G G' : gG} {s : State} (h : kN G s) (hg : ∀ k, G'.2.2 (20, k) = G.2.2 (20, k)) : kN G' s := ⟨fun k hk => by rw [hg]; exact h.1 k hk, h.2⟩
theorem eU_C {D : va_G} {ar : Nat → ClassId} {g g' : kK → Nat} {S : uS} (h : ∀ k : kK, k.1 < 10 → g k = g' k) : ∀ k : kK, k.1 < 10 → eU (D, ar, g) S k = eU (D, ar, g') S k := by
  rintro ⟨a, j⟩ hk
  have hk : a < 10 := hk
  have ha : a = 0 ∨ a = 1 ∨ a = 2 ∨ a = 3 ∨ a = 4 ∨ a = 5 ∨ a = 6 ∨ a = 7 ∨ a = 8 ∨ a = 9 := by omega
  rcases ha with rfl | rfl | rfl | rfl | rfl | rfl | rfl | rfl | rfl | rfl <;> simp only [eU, eE] <;> (try rw [h (1, 0) (by decide), h (1, 1) (by decide), h (1, 2) (by decide), h (3, 0) (by decide), h (3, 1) (by decide), h (5, 0) (by decide), h (6, 0) (by decide), h (7, 0) (by decide)]) <;> (try rw [h (2, j) (show 2 < 10 by decide)]) <;> (try rw [h (4, j) (show 4 < 10 by decide)]) <;> (try (congr 1; done)) <;> (try simp only [h (8, _) (show 8 < 10 by decide), h (9, _) (show 9 < 10 by decide)])
theorem eU_M {D : va_G} {ar : Nat → ClassId} {g g' : kK → Nat} {S : uS} (h : ∀ k : kK, k.1 ≤ 13 → g k = g' k) : ∀ k : kK, 10 ≤ k.1 → k.1 ≤ 13 → eU (D, ar, g) S k = eU (D, ar, g') S k := by
  rintro ⟨a, j⟩ hk hk2
  have hk : 10 ≤ a := hk
  have hk2 : a ≤ 13 := hk2
  have ha : a = 10 ∨ a = 11 ∨ a = 12 ∨ a = 13 := by omega
  rcases ha with rfl | rfl | rfl | rfl
  · simp only [eU, eE]
    rw [h (11, 0) (by decide), h (11, 1) (by decide), h (11, 2) (by decide), h (11, 3) (by decide), h (12, 0) (by decide), h (12, 1) (by decide), h (12, 2) (by decide), h (12, 3) (by decide), h (11, 4) (by decide), h (11, 5) (by decide), h (11, 6) (by decide), h (11, 7) (by decide), h (13, 0) (by decide), h (13, 1) (by decide)]
  · rfl
  · rfl
  · rfl
theorem kw_cg {ks : List kK} {g g' : kK → Nat} {e e' : kK → va_E} (h : ∀ k ∈ ks, g k = g' k ∧ e k = e' k) : kw ks g e = kw ks g' e' := by
  unfold kw
  exact List.map_congr_left fun k hk => by rw [(h k hk).1, (h k hk).2]
theorem kC_10 : ∀ k ∈ kC, k.1 < 10 := by decide
theorem kM_13 : ∀ k ∈ kM, 10 ≤ k.1 ∧ k.1 ≤ 13 := by decide
set_option maxHeartbeats 4000000 in
set_option maxRecDepth 100000 in
theorem law_env {s : State} {b : Nat} (hts0 : ∀ w ∈ lw_tbl, w.before #[Value.ref b] s = true) (hgv : (Jvm.Cond.and given_1 narrow_1).before #[Value.ref b] s = true) : ∃ G : gG, va_K G.1 vwCl (gTy G) s ∧ kN G s ∧ kZ (fun q : Nat => s.heap.size ≤ q) s s.heap ∧ va_AO RX1 s ∧ va_AO RX3 s := by
  have hgs := flat_of_before _ hgv
  obtain ⟨c0, i0, k0⟩ := u_known (C := RX0) (T := TX0) (N := 3) (n := 3) hts0 inX0 (hts0 (.instantiable RX0 3) (by decide +kernel))
  obtain ⟨c1, i1, k1⟩ := u_known (C := RX1) (T := TX1) (N := 9) (n := 9) hts0 inX1 (hts0 (.instantiable RX1 9) (by decide +kernel))
  obtain ⟨c2, i2, k2⟩ := u_known (C := RX2) (T := TX2) (N := 2) (n := 2) hts0 inX2 (hts0 (.instantiable RX2 2) (by decide +kernel))
  obtain ⟨c3, i3, k3⟩ := u_known (C := RX3) (T := TX3) (N := 4) (n := 4) hts0 inX3 (hts0 (.instantiable RX3 4) (by decide +kernel))
  obtain ⟨c4, i4, k4⟩ := u_known (C := RX4) (T := TX4) (N := 16) (n := 16) hts0 inX4 (hts0 (.instantiable RX4 16) (by decide +kernel))
  obtain ⟨c5, i5, k5⟩ := u_known (C := RX5) (T := TX5) (N := 22) (n := 22) hts0 inX5 (hts0 (.instantiable RX5 22) (by decide +kernel))
  obtain ⟨a0, ha0, hb0⟩ := arr_prim (ty := .int) (hts0 (.arrayClass .int) (by decide +kernel))
  obtain ⟨a1, ha1, hb1⟩ := arr_prim (ty := .long) (hts0 (.arrayClass .long) (by decide +kernel))
  obtain ⟨a2, ha2, hb2⟩ := arr_prim (ty := .boolean) (hts0 (.arrayClass .boolean) (by decide +kernel))
  have hO1 : (Cond.arrayOver (.object RX1)).before #[Value.ref b] s = true := hts0 (.arrayOver (.object RX1)) (by decide +kernel)
  have hO3 : (Cond.arrayOver (.object RX3)).before #[Value.ref b] s = true := hts0 (.arrayOver (.object RX3)) (by decide +kernel)
  obtain ⟨a3, ha3, hb3⟩ := arr_obj hO1
  obtain ⟨a4, ha4, hb4⟩ := arr_obj hO3
  have hstr : ∀ k ∈ kTk, ∃ a : Nat, vk_R RX4 k (kTx k) a s := by
    intro k hk
    have hw : Cond.stringRef RX4 k (kTx k) ∈ lw_tbl := (show ∀ k ∈ kTk, Cond.stringRef RX4 k (kTx k) ∈ lw_tbl by decide +kernel) k hk
    exact str_at k4.2.1 (hts0 _ hw)
  obtain ⟨st, hst⟩ : ∃ st : Nat → Nat, ∀ k ∈ kTk, vk_R RX4 k (kTx k) (st k) s := by
    refine ⟨fun k => if h : k ∈ kTk then Classical.choose (hstr k h) else 0, fun k hk => ?_⟩
    show vk_R RX4 k (kTx k) (if h : k ∈ kTk then Classical.choose (hstr k h) else 0) s
    rw [dif_pos hk]
    exact Classical.choose_spec (hstr k hk)
  refine ⟨((fun k => match k with | 0 => c0 | 1 => c1 | 2 => c2 | 3 => c3 | 4 => c4 | _ => c5, fun k => match k with | 0 => i0 | 1 => i1 | 2 => i2 | 3 => i3 | 4 => i4 | _ => i5), fun k => match k with | 0 => a0 | 1 => a1 | 2 => a2 | 3 => a3 | _ => a4, fun k => st k.2), ⟨?_, ?_⟩, ⟨fun k hk => hst k hk, ?_, ?_, ?_, ?_, ?_, ?_, ?_, ?_, ?_, ?_, ?_, ?_, ?_, ?_⟩, ⟨?_, ?_⟩, hO1, hO3⟩
  · intro k q hq
    match k, hq with
    | 0, hq => cases hq; exact k0
    | 1, hq => cases hq; exact k1
    | 2, hq => cases hq; exact k2
    | 3, hq => cases hq; exact k3
    | 4, hq => cases hq; exact k4
    | 5, hq => cases hq; exact k5
    | k + 6, hq => simp [vwCl] at hq
  · intro k q hq
    match k, hq with
    | 0, hq => cases hq; exact ⟨ha0, hb0⟩
    | 1, hq => cases hq; exact ⟨ha1, hb1⟩
    | 2, hq => cases hq; exact ⟨ha2, hb2⟩
    | 3, hq => cases hq; exact ⟨ha3, hb3⟩
    | 4, hq => cases hq; exact ⟨ha4, hb4⟩
    | k + 5, hq => simp [gTy] at hq
  · exact va_Nw.of rfl (hts0 (.methodLinkNest RX2 32 yX4_mix "BranchPredictor") (by decide +kernel))
  · exact va_Nw.of rfl (hts0 (.methodLinkNest RX3 36 yX4_mix "BranchPredictor") (by decide +kernel))
  · exact va_Nw.of rfl (hts0 (.methodLinkNest RX4 11 yX2_init "BranchPredictor") (by decide +kernel))
  · exact va_Nw.of rfl (hts0 (.methodLinkNest RX4 24 yX0_init "BranchPredictor") (by decide +kernel))
  · exact va_Nw.of rfl (hts0 (.methodLinkNest RX4 58 yX1_init "BranchPredictor") (by decide +kernel))
  · exact va_Nw.of rfl (hts0 (.methodLinkNest RX4 59 yX3_init "BranchPredictor") (by decide +kernel))
  · exact va_Nc.of (hgs (.not (.castable "java/lang/IllegalStateException" "java/lang/IllegalArgumentException")) (by decide +kernel))
  · exact va_Nc.of (hgs (.not (.castable "java/lang/IllegalStateException" "java/lang/IndexOutOfBoundsException")) (by decide +kernel))
  · exact va_Nw.of rfl (hts0 (.castable "java/lang/IllegalArgumentException" "java/lang/IllegalArgumentException") (by decide +kernel))
  · exact va_Nw.of rfl (hts0 (.castable "java/lang/IllegalStateException" "java/lang/IllegalStateException") (by decide +kernel))
  · exact va_Nw.of rfl (hts0 (.castable "java/lang/IndexOutOfBoundsException" "java/lang/IndexOutOfBoundsException") (by decide +kernel))
  · exact va_Nw.of rfl (hts0 (.declares (Bundle.initS "java/lang/RuntimeException")) (by decide +kernel))
  · exact va_Nw.of rfl (hts0 (.declares (Bundle.initS "java/lang/Exception")) (by decide +kernel))
  · exact va_Nw.of rfl (hts0 (.declares (Bundle.initS Bundle.tN)) (by decide +kernel))
  · exact vx_Zqof (hts0 (.laysStatic Bundle.tN "UNASSIGNED_STACK" Bundle.steD) (by decide +kernel)) (hts0 (.initialized Bundle.tN) (by decide +kernel)) (hgs (.isRef (.static Bundle.tN "UNASSIGNED_STACK" Bundle.steD)) (by decide +kernel)) (fun a ha => Nat.not_le.mpr ha)
  · exact vx_Zqof (hts0 (.laysStatic Bundle.tN "SUPPRESSED_SENTINEL" Bundle.listD) (by decide +kernel)) (hts0 (.initialized Bundle.tN) (by decide +kernel)) (hgs (.isRef (.static Bundle.tN "SUPPRESSED_SENTINEL" Bundle.listD)) (by decide +kernel)) (fun a ha => Nat.not_le.mpr ha)
