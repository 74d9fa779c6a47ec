/-! the law's cases -/
section KL3
variable {p : Program} {l : Launch} {e : Env} {s : State} {m : MethodId} {args : Array Value} {below : List Frame} {meth : Method} {c : Code} {H : Heap} {locs : List Loc} {cells slots : Nat} {QQ : State → Prop}
variable {ls : Array Slot} {G : gG} {S M : uS} {A : Nat → Prop} {f : Nat → Int64}
set_option maxHeartbeats 4000000 in
set_option maxRecDepth 100000 in
theorem law_setSizes {b L k P Q h Y N o : Nat} {xs : Nat → Int32} {hts : ∀ w ∈ wsL_law, w.before args s = true} (hlt : l.stackTraces = false) (hx : p.tables.exec = Jvm.exec) (hb : c.code = cL_law) (hml : c.maxLocals = 9) (hown : s.vm.findClass RL = some m.cls) (hX : va_X b L xs s s.heap) (hbl : b < s.heap.size) (hbA : ¬ A b) (hK : va_K G.1 vwCl (gTy G) s) (hN : kN G s) (hZ : kZ A s s.heap) (hA : ∀ q, s.heap.size ≤ q → A q) (hL : L ≤ 2048) (hk : 4 * k + 4 ≤ L) (RR : Rel S M P Q h Y N o) (hw : kS G kC S (kO G f :: kw kM G.2.2 (eU G M)) A s.heap H locs) (hc : cells + 2 ≤ room_1.cells) (hs : slots + 12 ≤ room_1.slots) (hl : lv_has ls 9 (lwL G b (nI (4 * k))))
    (kk : ∀ (S1 M1 : uS) (f1 : Nat → Int64) (H1 : Heap) (locs1 : List Loc) (ls1 : Array Slot), RelE S1 M1 → kS G kC S1 (kO G f1 :: kw kM G.2.2 (eU G M1)) A s.heap H1 locs1 → lv_has ls1 9 (lwL G b (nI (4 * k))) → W p l e room_1 s m args below meth c H1 locs1 (cells + 2) (slots + 12) QQ (F0 m 1130 ls1 [])) : W p l e room_1 s m args below meth c H locs cells slots QQ (F0 m 128 ls []) := by
  obtain ⟨⟨⟨hP, hQ, hh, hY, hN6, ho⟩, ⟨h8, h9, h10, h11, h12, h13⟩, ⟨t0, t1, t2⟩, ⟨hm1, hm2, hm3, hm4, hm7⟩⟩, ⟨n1, n2, n3, n4⟩, -, -, -, -, hJ⟩ := id RR
  refine lv_aload_n hx hb dL_law_128 rfl (lv_at hl 3 rfl) ?_
  refine push_i (lx := []) (j := 1) (jj := 1) hx hb hX hbl hbA hw.2.2 hl hL hk (by decide) dL_law_129 dL_law_130 dL_law_132 rfl dL_law_133 dL_law_134 ?_
  refine push_i (lx := []) (j := 2) (jj := 2) hx hb hX hbl hbA hw.2.2 hl hL hk (by decide) dL_law_135 dL_law_136 dL_law_138 rfl dL_law_139 dL_law_140 ?_
  refine push_i (lx := []) (j := 3) (jj := 3) hx hb hX hbl hbA hw.2.2 hl hL hk (by decide) dL_law_141 dL_law_142 dL_law_144 rfl dL_law_145 dL_law_146 ?_
  refine lv_aload_n hx hb dL_law_147 rfl (lv_at hl 1 rfl) ?_
  refine ko_callS (n := 5) (mc0 := 1) (ms0 := 6) (rest := []) ⟨hx, hb, hml, hown, hts⟩ (cLc_setSizes l hlt G (kw kM G.2.2 (eU G M)) S f (xs (4 * k + 1)) (xs (4 * k + 2)) (xs (4 * k + 3))) (vx_cwSW 5 hts gL_law_L_setSizes rfl rfl rfl (by decide +kernel) ⟨Nat.le_of_ble_eq_true rfl, Nat.le_of_ble_eq_true rfl⟩) hK hN hZ hA hw (by omega) (by omega) rfl hl.1 rfl (Nat.le_of_ble_eq_true rfl) dL_law_148 (fun H locs hw => ?_)
  refine W.eq (g2 := F0 m 151 ls [.int (wK cd1 (xX4_setSizes S (xs (4 * k + 1)) (xs (4 * k + 2)) (xs (4 * k + 3))))]) rfl ?_
  obtain ⟨a1, a2, a3⟩ := Agree_K f (A_setSizes RR  (xs (4 * k + 1)) (xs (4 * k + 2)) (xs (4 * k + 3)))
  generalize wK cd1 (xX4_setSizes S (xs (4 * k + 1)) (xs (4 * k + 2)) (xs (4 * k + 3))) = k1 at *
  generalize wS (xX4_setSizes S (xs (4 * k + 1)) (xs (4 * k + 2)) (xs (4 * k + 3))) S = S1 at *
  generalize wF (xX4_setSizes S (xs (4 * k + 1)) (xs (4 * k + 2)) (xs (4 * k + 3))) f = f1 at *
  refine lv_istore (lv' := (5, .int k1) :: lwL G b (nI (4 * k))) hx hb dL_law_151 hl (by decide) rfl (fun ls hl => ?_)
  refine lv_aload_n hx hb dL_law_153 rfl (lv_at hl 3 rfl) ?_
  refine push_i (lx := [(5, .int k1)]) (j := 1) (jj := 1) hx hb hX hbl hbA hw.2.2 hl hL hk (by decide) dL_law_154 dL_law_155 dL_law_157 rfl dL_law_158 dL_law_159 ?_
  refine push_i (lx := [(5, .int k1)]) (j := 2) (jj := 2) hx hb hX hbl hbA hw.2.2 hl hL hk (by decide) dL_law_160 dL_law_161 dL_law_163 rfl dL_law_164 dL_law_165 ?_
  refine push_i (lx := [(5, .int k1)]) (j := 3) (jj := 3) hx hb hX hbl hbA hw.2.2 hl hL hk (by decide) dL_law_166 dL_law_167 dL_law_169 rfl dL_law_170 dL_law_171 ?_
  refine k_callV (C := RX5) (n := 3) (rest := []) ⟨hx, hb, hml, hown, hts⟩ (cX5c_setSizes l G (kw kC G.2.2 (eU G S1) ++ [kO G f1]) M  (xs (4 * k + 1)) (xs (4 * k + 2)) (xs (4 * k + 3))) (cwV 3 hts gL_law_X5_setSizes rfl rfl rfl (by decide +kernel) ⟨Nat.le_of_ble_eq_true rfl, Nat.le_of_ble_eq_true rfl⟩) (k_recv hK (kS_flip hw) kM_10 rfl rfl) hK hN hZ hA (kS_flip hw) (by omega) (by omega) rfl hl.1 rfl (Nat.le_of_ble_eq_true rfl) dL_law_172 (fun H locs hw => ?_)
  refine W.eq (g2 := F0 m 175 ls [.int (bI (fX5_setSizes M (xs (4 * k + 1)) (xs (4 * k + 2)) (xs (4 * k + 3))).1)]) rfl ?_
  generalize (fX5_setSizes M (xs (4 * k + 1)) (xs (4 * k + 2)) (xs (4 * k + 3))).1 = v1 at *
  generalize (fX5_setSizes M (xs (4 * k + 1)) (xs (4 * k + 2)) (xs (4 * k + 3))).2 = M1 at *
  refine lv_istore (lv' := (6, .int (bI v1)) :: (5, .int k1) :: lwL G b (nI (4 * k))) hx hb dL_law_175 hl (by decide) rfl (fun ls hl => ?_)
  exact tail_Z (hts := hts) 177 hx hb hml hown hK hN hZ hA hw (by omega) (by omega) hl a1 (fun h0 => a3 h0) dL_law_177 dL_law_178 dL_law_181 dL_law_183 dL_law_188 dL_law_190 dL_law_193 dL_law_194 dL_law_195 dL_law_196 dL_law_198 dL_law_201 dL_law_202 dL_law_205 dL_law_206 dL_law_207 dL_law_212 (by decide) (fun H1 locs1 ls1 hw hl => W.widen (by omega) (by omega) (kk S1 M1 f1 H1 locs1 ls1 a2 hw hl))
set_option maxHeartbeats 4000000 in
set_option maxRecDepth 100000 in
theorem law_predict {b L k P Q h Y N o : Nat} {xs : Nat → Int32} {hts : ∀ w ∈ wsL_law, w.before args s = true} (hlt : l.stackTraces = false) (hx : p.tables.exec = Jvm.exec) (hb : c.code = cL_law) (hml : c.maxLocals = 9) (hown : s.vm.findClass RL = some m.cls) (hX : va_X b L xs s s.heap) (hbl : b < s.heap.size) (hbA : ¬ A b) (hK : va_K G.1 vwCl (gTy G) s) (hN : kN G s) (hZ : kZ A s s.heap) (hA : ∀ q, s.heap.size ≤ q → A q) (hL : L ≤ 2048) (hk : 4 * k + 4 ≤ L) (RR : Rel S M P Q h Y N o) (hw : kS G kC S (kO G f :: kw kM G.2.2 (eU G M)) A s.heap H locs) (hc : cells + 2 ≤ room_1.cells) (hs : slots + 12 ≤ room_1.slots) (hl : lv_has ls 9 (lwL G b (nI (4 * k))))
    (kk : ∀ (S1 M1 : uS) (f1 : Nat → Int64) (H1 : Heap) (locs1 : List Loc) (ls1 : Array Slot), RelE S1 M1 → kS G kC S1 (kO G f1 :: kw kM G.2.2 (eU G M1)) A s.heap H1 locs1 → lv_has ls1 9 (lwL G b (nI (4 * k))) → W p l e room_1 s m args below meth c H1 locs1 (cells + 2) (slots + 12) QQ (F0 m 1130 ls1 [])) : W p l e room_1 s m args below meth c H locs cells slots QQ (F0 m 215 ls []) := by
  obtain ⟨⟨⟨hP, hQ, hh, hY, hN6, ho⟩, ⟨h8, h9, h10, h11, h12, h13⟩, ⟨t0, t1, t2⟩, ⟨hm1, hm2, hm3, hm4, hm7⟩⟩, ⟨n1, n2, n3, n4⟩, -, -, -, -, hJ⟩ := id RR
  refine lv_aload_n hx hb dL_law_215 rfl (lv_at hl 3 rfl) ?_
  refine push_i (lx := []) (j := 1) (jj := 1) hx hb hX hbl hbA hw.2.2 hl hL hk (by decide) dL_law_216 dL_law_217 dL_law_219 rfl dL_law_220 dL_law_221 ?_
  refine lv_aload_n hx hb dL_law_222 rfl (lv_at hl 1 rfl) ?_
  refine ko_callS (n := 3) (mc0 := 2) (ms0 := 12) (rest := []) ⟨hx, hb, hml, hown, hts⟩ (cLc_predict l hlt G (kw kM G.2.2 (eU G M)) S f N h13 (by omega) (xs (4 * k + 1))) (vx_cwSW 3 hts gL_law_L_predict rfl rfl rfl (by decide +kernel) ⟨Nat.le_of_ble_eq_true rfl, Nat.le_of_ble_eq_true rfl⟩) hK hN hZ hA hw (by omega) (by omega) rfl hl.1 rfl (Nat.le_of_ble_eq_true rfl) dL_law_223 (fun H locs hw => ?_)
  refine W.eq (g2 := F0 m 226 ls [.int (wK cdA (xX4_predict S N (xs (4 * k + 1))))]) rfl ?_
  obtain ⟨a1, a2, a3⟩ := Agree_K f (A_predict RR  (xs (4 * k + 1)))
  generalize wK cdA (xX4_predict S N (xs (4 * k + 1))) = k1 at *
  generalize wS (xX4_predict S N (xs (4 * k + 1))) S = S1 at *
  generalize wF (xX4_predict S N (xs (4 * k + 1))) f = f1 at *
  refine lv_istore (lv' := (5, .int k1) :: lwL G b (nI (4 * k))) hx hb dL_law_226 hl (by decide) rfl (fun ls hl => ?_)
  refine lv_aload_n hx hb dL_law_228 rfl (lv_at hl 3 rfl) ?_
  refine push_i (lx := [(5, .int k1)]) (j := 1) (jj := 1) hx hb hX hbl hbA hw.2.2 hl hL hk (by decide) dL_law_229 dL_law_230 dL_law_232 rfl dL_law_233 dL_law_234 ?_
  refine k_callV (C := RX5) (n := 1) (rest := []) ⟨hx, hb, hml, hown, hts⟩ (cX5c_predict l G (kw kC G.2.2 (eU G S1) ++ [kO G f1]) M P hm1 hP Q hm2 hQ h hm3 hh Y hm4 hY N hm7 hN6 (xs (4 * k + 1))) (cwV 1 hts gL_law_X5_predict rfl rfl rfl (by decide +kernel) ⟨Nat.le_of_ble_eq_true rfl, Nat.le_of_ble_eq_true rfl⟩) (k_recv hK (kS_flip hw) kM_10 rfl rfl) hK hN hZ hA (kS_flip hw) (by omega) (by omega) rfl hl.1 rfl (Nat.le_of_ble_eq_true rfl) dL_law_235 (fun H locs hw => ?_)
  refine W.eq (g2 := F0 m 238 ls [.int (bI (fX5_predict M P Q h Y N (xs (4 * k + 1))).1)]) rfl ?_
  generalize (fX5_predict M P Q h Y N (xs (4 * k + 1))).1 = v1 at *
  generalize (fX5_predict M P Q h Y N (xs (4 * k + 1))).2 = M1 at *
  refine lv_istore (lv' := (6, .int (bI v1)) :: (5, .int k1) :: lwL G b (nI (4 * k))) hx hb dL_law_238 hl (by decide) rfl (fun ls hl => ?_)
  exact tail_Z (hts := hts) 240 hx hb hml hown hK hN hZ hA hw (by omega) (by omega) hl a1 (fun h0 => a3 h0) dL_law_240 dL_law_241 dL_law_244 dL_law_246 dL_law_251 dL_law_253 dL_law_256 dL_law_257 dL_law_258 dL_law_259 dL_law_261 dL_law_264 dL_law_265 dL_law_268 dL_law_269 dL_law_270 dL_law_275 (by decide) (fun H1 locs1 ls1 hw hl => W.widen (by omega) (by omega) (kk S1 M1 f1 H1 locs1 ls1 a2 hw hl))
set_option maxHeartbeats 4000000 in
set_option maxRecDepth 100000 in
theorem law_resolve {b L k P Q h Y N o : Nat} {xs : Nat → Int32} {hts : ∀ w ∈ wsL_law, w.before args s = true} (hlt : l.stackTraces = false) (hx : p.tables.exec = Jvm.exec) (hb : c.code = cL_law) (hml : c.maxLocals = 9) (hown : s.vm.findClass RL = some m.cls) (hX : va_X b L xs s s.heap) (hbl : b < s.heap.size) (hbA : ¬ A b) (hK : va_K G.1 vwCl (gTy G) s) (hN : kN G s) (hZ : kZ A s s.heap) (hA : ∀ q, s.heap.size ≤ q → A q) (hL : L ≤ 2048) (hk : 4 * k + 4 ≤ L) (RR : Rel S M P Q h Y N o) (hw : kS G kC S (kO G f :: kw kM G.2.2 (eU G M)) A s.heap H locs) (hc : cells + 2 ≤ room_1.cells) (hs : slots + 12 ≤ room_1.slots) (hl : lv_has ls 9 (lwL G b (nI (4 * k))))
    (kk : ∀ (S1 M1 : uS) (f1 : Nat → Int64) (H1 : Heap) (locs1 : List Loc) (ls1 : Array Slot), RelE S1 M1 → kS G kC S1 (kO G f1 :: kw kM G.2.2 (eU G M1)) A s.heap H1 locs1 → lv_has ls1 9 (lwL G b (nI (4 * k))) → W p l e room_1 s m args below meth c H1 locs1 (cells + 2) (slots + 12) QQ (F0 m 1130 ls1 [])) : W p l e room_1 s m args below meth c H locs cells slots QQ (F0 m 278 ls []) := by
  obtain ⟨⟨⟨hP, hQ, hh, hY, hN6, ho⟩, ⟨h8, h9, h10, h11, h12, h13⟩, ⟨t0, t1, t2⟩, ⟨hm1, hm2, hm3, hm4, hm7⟩⟩, ⟨n1, n2, n3, n4⟩, -, -, -, -, hJ⟩ := id RR
  refine lv_aload_n hx hb dL_law_278 rfl (lv_at hl 3 rfl) ?_
  refine push_i (lx := []) (j := 1) (jj := 1) hx hb hX hbl hbA hw.2.2 hl hL hk (by decide) dL_law_279 dL_law_280 dL_law_282 rfl dL_law_283 dL_law_284 ?_
  refine push_i (lx := []) (j := 2) (jj := 2) hx hb hX hbl hbA hw.2.2 hl hL hk (by decide) dL_law_285 dL_law_286 dL_law_288 rfl dL_law_289 dL_law_290 ?_
  refine push_b hx hb dL_law_291 dL_law_294 dL_law_295 dL_law_298 ?_
  refine lv_aload_n hx hb dL_law_299 rfl (lv_at hl 1 rfl) ?_
  refine ko_callS (n := 4) (mc0 := 2) (ms0 := 12) (rest := []) ⟨hx, hb, hml, hown, hts⟩ (cLc_resolve l hlt G (kw kM G.2.2 (eU G M)) S f (xs (4 * k + 1)) (decide (xs (4 * k + 2) ≠ 0))) (vx_cwSW 4 hts gL_law_L_resolve rfl rfl rfl (by decide +kernel) ⟨Nat.le_of_ble_eq_true rfl, Nat.le_of_ble_eq_true rfl⟩) hK hN hZ hA hw (by omega) (by omega) rfl hl.1 rfl (Nat.le_of_ble_eq_true rfl) dL_law_300 (fun H locs hw => ?_)
  refine W.eq (g2 := F0 m 303 ls [.int (wK cdA (xX4_resolve S (xs (4 * k + 1)) (decide (xs (4 * k + 2) ≠ 0))))]) rfl ?_
  obtain ⟨a1, a2, a3⟩ := Agree_K f (A_resolve RR (Wf M) (hWf hJ) (xs (4 * k + 1)) (decide (xs (4 * k + 2) ≠ 0)))
  generalize wK cdA (xX4_resolve S (xs (4 * k + 1)) (decide (xs (4 * k + 2) ≠ 0))) = k1 at *
  generalize wS (xX4_resolve S (xs (4 * k + 1)) (decide (xs (4 * k + 2) ≠ 0))) S = S1 at *
  generalize wF (xX4_resolve S (xs (4 * k + 1)) (decide (xs (4 * k + 2) ≠ 0))) f = f1 at *
  refine lv_istore (lv' := (5, .int k1) :: lwL G b (nI (4 * k))) hx hb dL_law_303 hl (by decide) rfl (fun ls hl => ?_)
  refine lv_aload_n hx hb dL_law_305 rfl (lv_at hl 3 rfl) ?_
  refine push_i (lx := [(5, .int k1)]) (j := 1) (jj := 1) hx hb hX hbl hbA hw.2.2 hl hL hk (by decide) dL_law_306 dL_law_307 dL_law_309 rfl dL_law_310 dL_law_311 ?_
  refine push_i (lx := [(5, .int k1)]) (j := 2) (jj := 2) hx hb hX hbl hbA hw.2.2 hl hL hk (by decide) dL_law_312 dL_law_313 dL_law_315 rfl dL_law_316 dL_law_317 ?_
  refine push_b hx hb dL_law_318 dL_law_321 dL_law_322 dL_law_325 ?_
  refine k_callV (C := RX5) (n := 2) (rest := []) ⟨hx, hb, hml, hown, hts⟩ (cX5c_resolve l G (kw kC G.2.2 (eU G S1) ++ [kO G f1]) M N hm7 hN6 h hm3 hh (Wf M) (hWf hJ) (xs (4 * k + 1)) (decide (xs (4 * k + 2) ≠ 0))) (cwV 2 hts gL_law_X5_resolve rfl rfl rfl (by decide +kernel) ⟨Nat.le_of_ble_eq_true rfl, Nat.le_of_ble_eq_true rfl⟩) (k_recv hK (kS_flip hw) kM_10 rfl rfl) hK hN hZ hA (kS_flip hw) (by omega) (by omega) rfl hl.1 rfl (Nat.le_of_ble_eq_true rfl) dL_law_326 (fun H locs hw => ?_)
  refine W.eq (g2 := F0 m 329 ls [.int ((fX5_resolve M N h (Wf M) (xs (4 * k + 1)) (decide (xs (4 * k + 2) ≠ 0))).1)]) rfl ?_
  generalize (fX5_resolve M N h (Wf M) (xs (4 * k + 1)) (decide (xs (4 * k + 2) ≠ 0))).1 = v1 at *
  generalize (fX5_resolve M N h (Wf M) (xs (4 * k + 1)) (decide (xs (4 * k + 2) ≠ 0))).2 = M1 at *
  refine lv_istore (lv' := (6, .int v1) :: (5, .int k1) :: lwL G b (nI (4 * k))) hx hb dL_law_329 hl (by decide) rfl (fun ls hl => ?_)
  exact tail_I (hts := hts) 331 hx hb hml hown hK hN hZ hA hw (by omega) (by omega) hl a1 (fun h0 => a3 h0) dL_law_331 dL_law_332 dL_law_335 dL_law_337 dL_law_342 dL_law_344 dL_law_347 dL_law_348 dL_law_349 dL_law_350 dL_law_352 dL_law_353 dL_law_354 dL_law_359 (by decide) (fun H1 locs1 ls1 hw hl => W.widen (by omega) (by omega) (kk S1 M1 f1 H1 locs1 ls1 a2 hw hl))
set_option maxHeartbeats 4000000 in
set_option maxRecDepth 100000 in
theorem law_commit {b L k P Q h Y N o : Nat} {xs : Nat → Int32} {hts : ∀ w ∈ wsL_law, w.before args s = true} (hlt : l.stackTraces = false) (hx : p.tables.exec = Jvm.exec) (hb : c.code = cL_law) (hml : c.maxLocals = 9) (hown : s.vm.findClass RL = some m.cls) (hX : va_X b L xs s s.heap) (hbl : b < s.heap.size) (hbA : ¬ A b) (hK : va_K G.1 vwCl (gTy G) s) (hN : kN G s) (hZ : kZ A s s.heap) (hA : ∀ q, s.heap.size ≤ q → A q) (hL : L ≤ 2048) (hk : 4 * k + 4 ≤ L) (RR : Rel S M P Q h Y N o) (hw : kS G kC S (kO G f :: kw kM G.2.2 (eU G M)) A s.heap H locs) (hc : cells + 2 ≤ room_1.cells) (hs : slots + 12 ≤ room_1.slots) (hl : lv_has ls 9 (lwL G b (nI (4 * k))))
    (kk : ∀ (S1 M1 : uS) (f1 : Nat → Int64) (H1 : Heap) (locs1 : List Loc) (ls1 : Array Slot), RelE S1 M1 → kS G kC S1 (kO G f1 :: kw kM G.2.2 (eU G M1)) A s.heap H1 locs1 → lv_has ls1 9 (lwL G b (nI (4 * k))) → W p l e room_1 s m args below meth c H1 locs1 (cells + 2) (slots + 12) QQ (F0 m 1130 ls1 [])) : W p l e room_1 s m args below meth c H locs cells slots QQ (F0 m 362 ls []) := by
  obtain ⟨⟨⟨hP, hQ, hh, hY, hN6, ho⟩, ⟨h8, h9, h10, h11, h12, h13⟩, ⟨t0, t1, t2⟩, ⟨hm1, hm2, hm3, hm4, hm7⟩⟩, ⟨n1, n2, n3, n4⟩, -, -, -, -, hJ⟩ := id RR
  refine lv_aload_n hx hb dL_law_362 rfl (lv_at hl 3 rfl) ?_
  refine lv_aload_n hx hb dL_law_363 rfl (lv_at hl 1 rfl) ?_
  refine ko_callS (n := 2) (mc0 := 1) (ms0 := 6) (rest := []) ⟨hx, hb, hml, hown, hts⟩ (cLc_commit l hlt G (kw kM G.2.2 (eU G M)) S f ) (vx_cwSW 2 hts gL_law_L_commit rfl rfl rfl (by decide +kernel) ⟨Nat.le_of_ble_eq_true rfl, Nat.le_of_ble_eq_true rfl⟩) hK hN hZ hA hw (by omega) (by omega) rfl hl.1 rfl (Nat.le_of_ble_eq_true rfl) dL_law_364 (fun H locs hw => ?_)
  refine W.eq (g2 := F0 m 367 ls [.int (wK cd1 (xX4_commit S))]) rfl ?_
  obtain ⟨a1, a2, a3⟩ := Agree_K f (A_commit RR (Xf M) (Wf M) (hXf hJ) (hWf hJ) )
  generalize wK cd1 (xX4_commit S) = k1 at *
  generalize wS (xX4_commit S) S = S1 at *
  generalize wF (xX4_commit S) f = f1 at *
  refine lv_istore (lv' := (5, .int k1) :: lwL G b (nI (4 * k))) hx hb dL_law_367 hl (by decide) rfl (fun ls hl => ?_)
  refine lv_aload_n hx hb dL_law_369 rfl (lv_at hl 3 rfl) ?_
  refine k_callV (C := RX5) (n := 0) (rest := []) ⟨hx, hb, hml, hown, hts⟩ (cX5c_commit l G (kw kC G.2.2 (eU G S1) ++ [kO G f1]) M P hm1 hP Q hm2 hQ N hm7 hN6 (Xf M) (hXf hJ) (Wf M) (hWf hJ) ) (cwV 0 hts gL_law_X5_commit rfl rfl rfl (by decide +kernel) ⟨Nat.le_of_ble_eq_true rfl, Nat.le_of_ble_eq_true rfl⟩) (k_recv hK (kS_flip hw) kM_10 rfl rfl) hK hN hZ hA (kS_flip hw) (by omega) (by omega) rfl hl.1 rfl (Nat.le_of_ble_eq_true rfl) dL_law_370 (fun H locs hw => ?_)
  refine W.eq (g2 := F0 m 373 ls [.int (bI (fX5_commit M P Q N (Xf M) (Wf M)).1)]) rfl ?_
  generalize (fX5_commit M P Q N (Xf M) (Wf M)).1 = v1 at *
  generalize (fX5_commit M P Q N (Xf M) (Wf M)).2 = M1 at *
  refine lv_istore (lv' := (6, .int (bI v1)) :: (5, .int k1) :: lwL G b (nI (4 * k))) hx hb dL_law_373 hl (by decide) rfl (fun ls hl => ?_)
  exact tail_Z (hts := hts) 375 hx hb hml hown hK hN hZ hA hw (by omega) (by omega) hl a1 (fun h0 => a3 h0) dL_law_375 dL_law_376 dL_law_379 dL_law_381 dL_law_386 dL_law_388 dL_law_391 dL_law_392 dL_law_393 dL_law_394 dL_law_396 dL_law_399 dL_law_400 dL_law_403 dL_law_404 dL_law_405 dL_law_410 (by decide) (fun H1 locs1 ls1 hw hl => W.widen (by omega) (by omega) (kk S1 M1 f1 H1 locs1 ls1 a2 hw hl))
set_option maxHeartbeats 4000000 in
set_option maxRecDepth 100000 in
theorem law_train {b L k P Q h Y N o : Nat} {xs : Nat → Int32} {hts : ∀ w ∈ wsL_law, w.before args s = true} (hlt : l.stackTraces = false) (hx : p.tables.exec = Jvm.exec) (hb : c.code = cL_law) (hml : c.maxLocals = 9) (hown : s.vm.findClass RL = some m.cls) (hX : va_X b L xs s s.heap) (hbl : b < s.heap.size) (hbA : ¬ A b) (hK : va_K G.1 vwCl (gTy G) s) (hN : kN G s) (hZ : kZ A s s.heap) (hA : ∀ q, s.heap.size ≤ q → A q) (hL : L ≤ 2048) (hk : 4 * k + 4 ≤ L) (RR : Rel S M P Q h Y N o) (hw : kS G kC S (kO G f :: kw kM G.2.2 (eU G M)) A s.heap H locs) (hc : cells + 2 ≤ room_1.cells) (hs : slots + 12 ≤ room_1.slots) (hl : lv_has ls 9 (lwL G b (nI (4 * k))))
    (kk : ∀ (S1 M1 : uS) (f1 : Nat → Int64) (H1 : Heap) (locs1 : List Loc) (ls1 : Array Slot), RelE S1 M1 → kS G kC S1 (kO G f1 :: kw kM G.2.2 (eU G M1)) A s.heap H1 locs1 → lv_has ls1 9 (lwL G b (nI (4 * k))) → W p l e room_1 s m args below meth c H1 locs1 (cells + 2) (slots + 12) QQ (F0 m 1130 ls1 [])) : W p l e room_1 s m args below meth c H locs cells slots QQ (F0 m 413 ls []) := by
  obtain ⟨⟨⟨hP, hQ, hh, hY, hN6, ho⟩, ⟨h8, h9, h10, h11, h12, h13⟩, ⟨t0, t1, t2⟩, ⟨hm1, hm2, hm3, hm4, hm7⟩⟩, ⟨n1, n2, n3, n4⟩, -, -, -, -, hJ⟩ := id RR
  refine lv_aload_n hx hb dL_law_413 rfl (lv_at hl 3 rfl) ?_
  refine push_i (lx := []) (j := 1) (jj := 1) hx hb hX hbl hbA hw.2.2 hl hL hk (by decide) dL_law_414 dL_law_415 dL_law_417 rfl dL_law_418 dL_law_419 ?_
  refine push_i (lx := []) (j := 2) (jj := 2) hx hb hX hbl hbA hw.2.2 hl hL hk (by decide) dL_law_420 dL_law_421 dL_law_423 rfl dL_law_424 dL_law_425 ?_
  refine push_b hx hb dL_law_426 dL_law_429 dL_law_430 dL_law_433 ?_
  refine lv_aload_n hx hb dL_law_434 rfl (lv_at hl 1 rfl) ?_
  refine ko_callS (n := 4) (mc0 := 2) (ms0 := 12) (rest := []) ⟨hx, hb, hml, hown, hts⟩ (cLc_train l hlt G (kw kM G.2.2 (eU G M)) S f N h13 (by omega) (xs (4 * k + 1)) (decide (xs (4 * k + 2) ≠ 0))) (vx_cwSW 4 hts gL_law_L_train rfl rfl rfl (by decide +kernel) ⟨Nat.le_of_ble_eq_true rfl, Nat.le_of_ble_eq_true rfl⟩) hK hN hZ hA hw (by omega) (by omega) rfl hl.1 rfl (Nat.le_of_ble_eq_true rfl) dL_law_435 (fun H locs hw => ?_)
  refine W.eq (g2 := F0 m 438 ls [.int (wK cdA (xX4_train S N (xs (4 * k + 1)) (decide (xs (4 * k + 2) ≠ 0))))]) rfl ?_
  obtain ⟨a1, a2, a3⟩ := Agree_K f (A_train RR  (xs (4 * k + 1)) (decide (xs (4 * k + 2) ≠ 0)))
  generalize wK cdA (xX4_train S N (xs (4 * k + 1)) (decide (xs (4 * k + 2) ≠ 0))) = k1 at *
  generalize wS (xX4_train S N (xs (4 * k + 1)) (decide (xs (4 * k + 2) ≠ 0))) S = S1 at *
  generalize wF (xX4_train S N (xs (4 * k + 1)) (decide (xs (4 * k + 2) ≠ 0))) f = f1 at *
  refine lv_istore (lv' := (5, .int k1) :: lwL G b (nI (4 * k))) hx hb dL_law_438 hl (by decide) rfl (fun ls hl => ?_)
  refine lv_aload_n hx hb dL_law_440 rfl (lv_at hl 3 rfl) ?_
  refine push_i (lx := [(5, .int k1)]) (j := 1) (jj := 1) hx hb hX hbl hbA hw.2.2 hl hL hk (by decide) dL_law_441 dL_law_442 dL_law_444 rfl dL_law_445 dL_law_446 ?_
  refine push_i (lx := [(5, .int k1)]) (j := 2) (jj := 2) hx hb hX hbl hbA hw.2.2 hl hL hk (by decide) dL_law_447 dL_law_448 dL_law_450 rfl dL_law_451 dL_law_452 ?_
  refine push_b hx hb dL_law_453 dL_law_456 dL_law_457 dL_law_460 ?_
  refine k_callV (C := RX5) (n := 2) (rest := []) ⟨hx, hb, hml, hown, hts⟩ (cX5c_train l G (kw kC G.2.2 (eU G S1) ++ [kO G f1]) M P hm1 hP Q hm2 hQ h hm3 hh Y hm4 hY N hm7 hN6 (xs (4 * k + 1)) (decide (xs (4 * k + 2) ≠ 0))) (cwV 2 hts gL_law_X5_train rfl rfl rfl (by decide +kernel) ⟨Nat.le_of_ble_eq_true rfl, Nat.le_of_ble_eq_true rfl⟩) (k_recv hK (kS_flip hw) kM_10 rfl rfl) hK hN hZ hA (kS_flip hw) (by omega) (by omega) rfl hl.1 rfl (Nat.le_of_ble_eq_true rfl) dL_law_461 (fun H locs hw => ?_)
  refine W.eq (g2 := F0 m 464 ls [.int (bI (fX5_train M P Q h Y N (xs (4 * k + 1)) (decide (xs (4 * k + 2) ≠ 0))).1)]) rfl ?_
  generalize (fX5_train M P Q h Y N (xs (4 * k + 1)) (decide (xs (4 * k + 2) ≠ 0))).1 = v1 at *
  generalize (fX5_train M P Q h Y N (xs (4 * k + 1)) (decide (xs (4 * k + 2) ≠ 0))).2 = M1 at *
  refine lv_istore (lv' := (6, .int (bI v1)) :: (5, .int k1) :: lwL G b (nI (4 * k))) hx hb dL_law_464 hl (by decide) rfl (fun ls hl => ?_)
  exact tail_Z (hts := hts) 466 hx hb hml hown hK hN hZ hA hw (by omega) (by omega) hl a1 (fun h0 => a3 h0) dL_law_466 dL_law_467 dL_law_470 dL_law_472 dL_law_477 dL_law_479 dL_law_482 dL_law_483 dL_law_484 dL_law_485 dL_law_487 dL_law_490 dL_law_491 dL_law_494 dL_law_495 dL_law_496 dL_law_501 (by decide) (fun H1 locs1 ls1 hw hl => W.widen (by omega) (by omega) (kk S1 M1 f1 H1 locs1 ls1 a2 hw hl))
set_option maxHeartbeats 4000000 in
set_option maxRecDepth 100000 in
theorem law_flush {b L k P Q h Y N o : Nat} {xs : Nat → Int32} {hts : ∀ w ∈ wsL_law, w.before args s = true} (hlt : l.stackTraces = false) (hx : p.tables.exec = Jvm.exec) (hb : c.code = cL_law) (hml : c.maxLocals = 9) (hown : s.vm.findClass RL = some m.cls) (hX : va_X b L xs s s.heap) (hbl : b < s.heap.size) (hbA : ¬ A b) (hK : va_K G.1 vwCl (gTy G) s) (hN : kN G s) (hZ : kZ A s s.heap) (hA : ∀ q, s.heap.size ≤ q → A q) (hL : L ≤ 2048) (hk : 4 * k + 4 ≤ L) (RR : Rel S M P Q h Y N o) (hw : kS G kC S (kO G f :: kw kM G.2.2 (eU G M)) A s.heap H locs) (hc : cells + 2 ≤ room_1.cells) (hs : slots + 12 ≤ room_1.slots) (hl : lv_has ls 9 (lwL G b (nI (4 * k))))
    (kk : ∀ (S1 M1 : uS) (f1 : Nat → Int64) (H1 : Heap) (locs1 : List Loc) (ls1 : Array Slot), RelE S1 M1 → kS G kC S1 (kO G f1 :: kw kM G.2.2 (eU G M1)) A s.heap H1 locs1 → lv_has ls1 9 (lwL G b (nI (4 * k))) → W p l e room_1 s m args below meth c H1 locs1 (cells + 2) (slots + 12) QQ (F0 m 1130 ls1 [])) : W p l e room_1 s m args below meth c H locs cells slots QQ (F0 m 504 ls []) := by
  obtain ⟨⟨⟨hP, hQ, hh, hY, hN6, ho⟩, ⟨h8, h9, h10, h11, h12, h13⟩, ⟨t0, t1, t2⟩, ⟨hm1, hm2, hm3, hm4, hm7⟩⟩, ⟨n1, n2, n3, n4⟩, -, -, -, -, hJ⟩ := id RR
  refine lv_aload_n hx hb dL_law_504 rfl (lv_at hl 3 rfl) ?_
  refine push_i (lx := []) (j := 1) (jj := 1) hx hb hX hbl hbA hw.2.2 hl hL hk (by decide) dL_law_505 dL_law_506 dL_law_508 rfl dL_law_509 dL_law_510 ?_
  refine lv_aload_n hx hb dL_law_511 rfl (lv_at hl 1 rfl) ?_
  refine ko_callS (n := 3) (mc0 := 1) (ms0 := 6) (rest := []) ⟨hx, hb, hml, hown, hts⟩ (cLc_flush l hlt G (kw kM G.2.2 (eU G M)) S f (xs (4 * k + 1))) (vx_cwSW 3 hts gL_law_L_flush rfl rfl rfl (by decide +kernel) ⟨Nat.le_of_ble_eq_true rfl, Nat.le_of_ble_eq_true rfl⟩) hK hN hZ hA hw (by omega) (by omega) rfl hl.1 rfl (Nat.le_of_ble_eq_true rfl) dL_law_512 (fun H locs hw => ?_)
  refine W.eq (g2 := F0 m 515 ls [.int (wK cd1 (xX4_flush S (xs (4 * k + 1))))]) rfl ?_
  obtain ⟨a1, a2, a3⟩ := Agree_K f (A_flush RR  (xs (4 * k + 1)))
  generalize wK cd1 (xX4_flush S (xs (4 * k + 1))) = k1 at *
  generalize wS (xX4_flush S (xs (4 * k + 1))) S = S1 at *
  generalize wF (xX4_flush S (xs (4 * k + 1))) f = f1 at *
  refine lv_istore (lv' := (5, .int k1) :: lwL G b (nI (4 * k))) hx hb dL_law_515 hl (by decide) rfl (fun ls hl => ?_)
  refine lv_aload_n hx hb dL_law_517 rfl (lv_at hl 3 rfl) ?_
  refine push_i (lx := [(5, .int k1)]) (j := 1) (jj := 1) hx hb hX hbl hbA hw.2.2 hl hL hk (by decide) dL_law_518 dL_law_519 dL_law_521 rfl dL_law_522 dL_law_523 ?_
  refine k_callV (C := RX5) (n := 1) (rest := []) ⟨hx, hb, hml, hown, hts⟩ (cX5c_flush l G (kw kC G.2.2 (eU G S1) ++ [kO G f1]) M N hm7 hN6 (xs (4 * k + 1))) (cwV 1 hts gL_law_X5_flush rfl rfl rfl (by decide +kernel) ⟨Nat.le_of_ble_eq_true rfl, Nat.le_of_ble_eq_true rfl⟩) (k_recv hK (kS_flip hw) kM_10 rfl rfl) hK hN hZ hA (kS_flip hw) (by omega) (by omega) rfl hl.1 rfl (Nat.le_of_ble_eq_true rfl) dL_law_524 (fun H locs hw => ?_)
  refine W.eq (g2 := F0 m 527 ls [.int ((fX5_flush M N (xs (4 * k + 1))).1)]) rfl ?_
  generalize (fX5_flush M N (xs (4 * k + 1))).1 = v1 at *
  generalize (fX5_flush M N (xs (4 * k + 1))).2 = M1 at *
  refine lv_istore (lv' := (6, .int v1) :: (5, .int k1) :: lwL G b (nI (4 * k))) hx hb dL_law_527 hl (by decide) rfl (fun ls hl => ?_)
  exact tail_I (hts := hts) 529 hx hb hml hown hK hN hZ hA hw (by omega) (by omega) hl a1 (fun h0 => a3 h0) dL_law_529 dL_law_530 dL_law_533 dL_law_535 dL_law_540 dL_law_542 dL_law_545 dL_law_546 dL_law_547 dL_law_548 dL_law_550 dL_law_551 dL_law_552 dL_law_557 (by decide) (fun H1 locs1 ls1 hw hl => W.widen (by omega) (by omega) (kk S1 M1 f1 H1 locs1 ls1 a2 hw hl))
set_option maxHeartbeats 4000000 in
set_option maxRecDepth 100000 in
theorem law_place {b L k P Q h Y N o : Nat} {xs : Nat → Int32} {hts : ∀ w ∈ wsL_law, w.before args s = true} (hlt : l.stackTraces = false) (hx : p.tables.exec = Jvm.exec) (hb : c.code = cL_law) (hml : c.maxLocals = 9) (hown : s.vm.findClass RL = some m.cls) (hX : va_X b L xs s s.heap) (hbl : b < s.heap.size) (hbA : ¬ A b) (hK : va_K G.1 vwCl (gTy G) s) (hN : kN G s) (hZ : kZ A s s.heap) (hA : ∀ q, s.heap.size ≤ q → A q) (hL : L ≤ 2048) (hk : 4 * k + 4 ≤ L) (RR : Rel S M P Q h Y N o) (hw : kS G kC S (kO G f :: kw kM G.2.2 (eU G M)) A s.heap H locs) (hc : cells + 2 ≤ room_1.cells) (hs : slots + 12 ≤ room_1.slots) (hl : lv_has ls 9 (lwL G b (nI (4 * k))))
    (kk : ∀ (S1 M1 : uS) (f1 : Nat → Int64) (H1 : Heap) (locs1 : List Loc) (ls1 : Array Slot), RelE S1 M1 → kS G kC S1 (kO G f1 :: kw kM G.2.2 (eU G M1)) A s.heap H1 locs1 → lv_has ls1 9 (lwL G b (nI (4 * k))) → W p l e room_1 s m args below meth c H1 locs1 (cells + 2) (slots + 12) QQ (F0 m 1130 ls1 [])) : W p l e room_1 s m args below meth c H locs cells slots QQ (F0 m 573 ls []) := by
  obtain ⟨⟨⟨hP, hQ, hh, hY, hN6, ho⟩, ⟨h8, h9, h10, h11, h12, h13⟩, ⟨t0, t1, t2⟩, ⟨hm1, hm2, hm3, hm4, hm7⟩⟩, ⟨n1, n2, n3, n4⟩, -, -, -, -, hJ⟩ := id RR
  refine lv_aload_n hx hb dL_law_573 rfl (lv_at hl 3 rfl) ?_
  refine push_i (lx := []) (j := 1) (jj := 1) hx hb hX hbl hbA hw.2.2 hl hL hk (by decide) dL_law_574 dL_law_575 dL_law_577 rfl dL_law_578 dL_law_579 ?_
  refine lv_aload_n hx hb dL_law_580 rfl (lv_at hl 1 rfl) ?_
  refine ko_callS (n := 3) (mc0 := 1) (ms0 := 6) (rest := []) ⟨hx, hb, hml, hown, hts⟩ (cLc_place l hlt G (kw kM G.2.2 (eU G M)) S f (xs (4 * k + 1))) (vx_cwSW 3 hts gL_law_L_place rfl rfl rfl (by decide +kernel) ⟨Nat.le_of_ble_eq_true rfl, Nat.le_of_ble_eq_true rfl⟩) hK hN hZ hA hw (by omega) (by omega) rfl hl.1 rfl (Nat.le_of_ble_eq_true rfl) dL_law_581 (fun H locs hw => ?_)
  refine W.eq (g2 := F0 m 584 ls [.int (wK cd1 (xX4_place S (xs (4 * k + 1))))]) rfl ?_
  obtain ⟨a1, a2, a3⟩ := Agree_K f (A_place RR  (xs (4 * k + 1)))
  generalize wK cd1 (xX4_place S (xs (4 * k + 1))) = k1 at *
  generalize wS (xX4_place S (xs (4 * k + 1))) S = S1 at *
  generalize wF (xX4_place S (xs (4 * k + 1))) f = f1 at *
  refine lv_istore (lv' := (5, .int k1) :: lwL G b (nI (4 * k))) hx hb dL_law_584 hl (by decide) rfl (fun ls hl => ?_)
  refine lv_aload_n hx hb dL_law_586 rfl (lv_at hl 3 rfl) ?_
  refine push_i (lx := [(5, .int k1)]) (j := 1) (jj := 1) hx hb hX hbl hbA hw.2.2 hl hL hk (by decide) dL_law_587 dL_law_588 dL_law_590 rfl dL_law_591 dL_law_592 ?_
  refine k_callV (C := RX5) (n := 1) (rest := []) ⟨hx, hb, hml, hown, hts⟩ (cX5c_place l G (kw kC G.2.2 (eU G S1) ++ [kO G f1]) M N hm7 hN6 (xs (4 * k + 1))) (cwV 1 hts gL_law_X5_place rfl rfl rfl (by decide +kernel) ⟨Nat.le_of_ble_eq_true rfl, Nat.le_of_ble_eq_true rfl⟩) (k_recv hK (kS_flip hw) kM_10 rfl rfl) hK hN hZ hA (kS_flip hw) (by omega) (by omega) rfl hl.1 rfl (Nat.le_of_ble_eq_true rfl) dL_law_593 (fun H locs hw => ?_)
  refine W.eq (g2 := F0 m 596 ls [.int ((fX5_place M N (xs (4 * k + 1))).1)]) rfl ?_
  generalize (fX5_place M N (xs (4 * k + 1))).1 = v1 at *
  generalize (fX5_place M N (xs (4 * k + 1))).2 = M1 at *
  refine lv_istore (lv' := (6, .int v1) :: (5, .int k1) :: lwL G b (nI (4 * k))) hx hb dL_law_596 hl (by decide) rfl (fun ls hl => ?_)
  exact tail_I (hts := hts) 598 hx hb hml hown hK hN hZ hA hw (by omega) (by omega) hl a1 (fun h0 => a3 h0) dL_law_598 dL_law_599 dL_law_602 dL_law_604 dL_law_609 dL_law_611 dL_law_614 dL_law_615 dL_law_616 dL_law_617 dL_law_619 dL_law_620 dL_law_621 dL_law_626 (by decide) (fun H1 locs1 ls1 hw hl => W.widen (by omega) (by omega) (kk S1 M1 f1 H1 locs1 ls1 a2 hw hl))
set_option maxHeartbeats 4000000 in
set_option maxRecDepth 100000 in
theorem law_state {b L k P Q h Y N o : Nat} {xs : Nat → Int32} {hts : ∀ w ∈ wsL_law, w.before args s = true} (hlt : l.stackTraces = false) (hx : p.tables.exec = Jvm.exec) (hb : c.code = cL_law) (hml : c.maxLocals = 9) (hown : s.vm.findClass RL = some m.cls) (hX : va_X b L xs s s.heap) (hbl : b < s.heap.size) (hbA : ¬ A b) (hK : va_K G.1 vwCl (gTy G) s) (hN : kN G s) (hZ : kZ A s s.heap) (hA : ∀ q, s.heap.size ≤ q → A q) (hL : L ≤ 2048) (hk : 4 * k + 4 ≤ L) (RR : Rel S M P Q h Y N o) (hw : kS G kC S (kO G f :: kw kM G.2.2 (eU G M)) A s.heap H locs) (hc : cells + 2 ≤ room_1.cells) (hs : slots + 12 ≤ room_1.slots) (hl : lv_has ls 9 (lwL G b (nI (4 * k))))
    (kk : ∀ (S1 M1 : uS) (f1 : Nat → Int64) (H1 : Heap) (locs1 : List Loc) (ls1 : Array Slot), RelE S1 M1 → kS G kC S1 (kO G f1 :: kw kM G.2.2 (eU G M1)) A s.heap H1 locs1 → lv_has ls1 9 (lwL G b (nI (4 * k))) → W p l e room_1 s m args below meth c H1 locs1 (cells + 2) (slots + 12) QQ (F0 m 1130 ls1 [])) : W p l e room_1 s m args below meth c H locs cells slots QQ (F0 m 629 ls []) := by
  obtain ⟨⟨⟨hP, hQ, hh, hY, hN6, ho⟩, ⟨h8, h9, h10, h11, h12, h13⟩, ⟨t0, t1, t2⟩, ⟨hm1, hm2, hm3, hm4, hm7⟩⟩, ⟨n1, n2, n3, n4⟩, -, -, -, -, hJ⟩ := id RR
  refine lv_aload_n hx hb dL_law_629 rfl (lv_at hl 3 rfl) ?_
  refine push_i (lx := []) (j := 1) (jj := 1) hx hb hX hbl hbA hw.2.2 hl hL hk (by decide) dL_law_630 dL_law_631 dL_law_633 rfl dL_law_634 dL_law_635 ?_
  refine lv_aload_n hx hb dL_law_636 rfl (lv_at hl 1 rfl) ?_
  refine ko_callS (n := 3) (mc0 := 1) (ms0 := 6) (rest := []) ⟨hx, hb, hml, hown, hts⟩ (cLc_state l hlt G (kw kM G.2.2 (eU G M)) S f (xs (4 * k + 1))) (vx_cwSW 3 hts gL_law_L_state rfl rfl rfl (by decide +kernel) ⟨Nat.le_of_ble_eq_true rfl, Nat.le_of_ble_eq_true rfl⟩) hK hN hZ hA hw (by omega) (by omega) rfl hl.1 rfl (Nat.le_of_ble_eq_true rfl) dL_law_637 (fun H locs hw => ?_)
  refine W.eq (g2 := F0 m 640 ls [.int (wK cd1 (xX4_state S (xs (4 * k + 1))))]) rfl ?_
  obtain ⟨a1, a2, a3⟩ := Agree_K f (A_state RR  (xs (4 * k + 1)))
  generalize wK cd1 (xX4_state S (xs (4 * k + 1))) = k1 at *
  generalize wS (xX4_state S (xs (4 * k + 1))) S = S1 at *
  generalize wF (xX4_state S (xs (4 * k + 1))) f = f1 at *
  refine lv_istore (lv' := (5, .int k1) :: lwL G b (nI (4 * k))) hx hb dL_law_640 hl (by decide) rfl (fun ls hl => ?_)
  refine lv_aload_n hx hb dL_law_642 rfl (lv_at hl 3 rfl) ?_
  refine push_i (lx := [(5, .int k1)]) (j := 1) (jj := 1) hx hb hX hbl hbA hw.2.2 hl hL hk (by decide) dL_law_643 dL_law_644 dL_law_646 rfl dL_law_647 dL_law_648 ?_
  refine k_callV (C := RX5) (n := 1) (rest := []) ⟨hx, hb, hml, hown, hts⟩ (cX5c_state l G (kw kC G.2.2 (eU G S1) ++ [kO G f1]) M N hm7 hN6 (xs (4 * k + 1))) (cwV 1 hts gL_law_X5_state rfl rfl rfl (by decide +kernel) ⟨Nat.le_of_ble_eq_true rfl, Nat.le_of_ble_eq_true rfl⟩) (k_recv hK (kS_flip hw) kM_10 rfl rfl) hK hN hZ hA (kS_flip hw) (by omega) (by omega) rfl hl.1 rfl (Nat.le_of_ble_eq_true rfl) dL_law_649 (fun H locs hw => ?_)
  refine W.eq (g2 := F0 m 652 ls [.int ((fX5_state M N (xs (4 * k + 1))).1)]) rfl ?_
  generalize (fX5_state M N (xs (4 * k + 1))).1 = v1 at *
  generalize (fX5_state M N (xs (4 * k + 1))).2 = M1 at *
  refine lv_istore (lv' := (6, .int v1) :: (5, .int k1) :: lwL G b (nI (4 * k))) hx hb dL_law_652 hl (by decide) rfl (fun ls hl => ?_)
  exact tail_I (hts := hts) 654 hx hb hml hown hK hN hZ hA hw (by omega) (by omega) hl a1 (fun h0 => a3 h0) dL_law_654 dL_law_655 dL_law_658 dL_law_660 dL_law_665 dL_law_667 dL_law_670 dL_law_671 dL_law_672 dL_law_673 dL_law_675 dL_law_676 dL_law_677 dL_law_682 (by decide) (fun H1 locs1 ls1 hw hl => W.widen (by omega) (by omega) (kk S1 M1 f1 H1 locs1 ls1 a2 hw hl))
set_option maxHeartbeats 4000000 in
set_option maxRecDepth 100000 in
theorem law_predicted {b L k P Q h Y N o : Nat} {xs : Nat → Int32} {hts : ∀ w ∈ wsL_law, w.before args s = true} (hlt : l.stackTraces = false) (hx : p.tables.exec = Jvm.exec) (hb : c.code = cL_law) (hml : c.maxLocals = 9) (hown : s.vm.findClass RL = some m.cls) (hX : va_X b L xs s s.heap) (hbl : b < s.heap.size) (hbA : ¬ A b) (hK : va_K G.1 vwCl (gTy G) s) (hN : kN G s) (hZ : kZ A s s.heap) (hA : ∀ q, s.heap.size ≤ q → A q) (hL : L ≤ 2048) (hk : 4 * k + 4 ≤ L) (RR : Rel S M P Q h Y N o) (hw : kS G kC S (kO G f :: kw kM G.2.2 (eU G M)) A s.heap H locs) (hc : cells + 2 ≤ room_1.cells) (hs : slots + 12 ≤ room_1.slots) (hl : lv_has ls 9 (lwL G b (nI (4 * k))))
    (kk : ∀ (S1 M1 : uS) (f1 : Nat → Int64) (H1 : Heap) (locs1 : List Loc) (ls1 : Array Slot), RelE S1 M1 → kS G kC S1 (kO G f1 :: kw kM G.2.2 (eU G M1)) A s.heap H1 locs1 → lv_has ls1 9 (lwL G b (nI (4 * k))) → W p l e room_1 s m args below meth c H1 locs1 (cells + 2) (slots + 12) QQ (F0 m 1130 ls1 [])) : W p l e room_1 s m args below meth c H locs cells slots QQ (F0 m 685 ls []) := by
  obtain ⟨⟨⟨hP, hQ, hh, hY, hN6, ho⟩, ⟨h8, h9, h10, h11, h12, h13⟩, ⟨t0, t1, t2⟩, ⟨hm1, hm2, hm3, hm4, hm7⟩⟩, ⟨n1, n2, n3, n4⟩, -, -, -, -, hJ⟩ := id RR
  refine lv_aload_n hx hb dL_law_685 rfl (lv_at hl 3 rfl) ?_
  refine push_i (lx := []) (j := 1) (jj := 1) hx hb hX hbl hbA hw.2.2 hl hL hk (by decide) dL_law_686 dL_law_687 dL_law_689 rfl dL_law_690 dL_law_691 ?_
  refine push_i (lx := []) (j := 2) (jj := 2) hx hb hX hbl hbA hw.2.2 hl hL hk (by decide) dL_law_692 dL_law_693 dL_law_695 rfl dL_law_696 dL_law_697 ?_
  refine lv_aload_n hx hb dL_law_698 rfl (lv_at hl 1 rfl) ?_
  refine ko_callS (n := 4) (mc0 := 2) (ms0 := 12) (rest := []) ⟨hx, hb, hml, hown, hts⟩ (cLc_predicted l hlt G (kw kM G.2.2 (eU G M)) S f (xs (4 * k + 1)) (xs (4 * k + 2))) (vx_cwSW 4 hts gL_law_L_predicted rfl rfl rfl (by decide +kernel) ⟨Nat.le_of_ble_eq_true rfl, Nat.le_of_ble_eq_true rfl⟩) hK hN hZ hA hw (by omega) (by omega) rfl hl.1 rfl (Nat.le_of_ble_eq_true rfl) dL_law_699 (fun H locs hw => ?_)
  refine W.eq (g2 := F0 m 702 ls [.int (wK cd1 (xX4_predicted S (xs (4 * k + 1)) (xs (4 * k + 2))))]) rfl ?_
  obtain ⟨a1, a2, a3⟩ := Agree_K f (A_predicted RR  (xs (4 * k + 1)) (xs (4 * k + 2)))
  generalize wK cd1 (xX4_predicted S (xs (4 * k + 1)) (xs (4 * k + 2))) = k1 at *
  generalize wS (xX4_predicted S (xs (4 * k + 1)) (xs (4 * k + 2))) S = S1 at *
  generalize wF (xX4_predicted S (xs (4 * k + 1)) (xs (4 * k + 2))) f = f1 at *
  refine lv_istore (lv' := (5, .int k1) :: lwL G b (nI (4 * k))) hx hb dL_law_702 hl (by decide) rfl (fun ls hl => ?_)
  refine lv_aload_n hx hb dL_law_704 rfl (lv_at hl 3 rfl) ?_
  refine push_i (lx := [(5, .int k1)]) (j := 1) (jj := 1) hx hb hX hbl hbA hw.2.2 hl hL hk (by decide) dL_law_705 dL_law_706 dL_law_708 rfl dL_law_709 dL_law_710 ?_
  refine push_i (lx := [(5, .int k1)]) (j := 2) (jj := 2) hx hb hX hbl hbA hw.2.2 hl hL hk (by decide) dL_law_711 dL_law_712 dL_law_714 rfl dL_law_715 dL_law_716 ?_
  refine k_callV (C := RX5) (n := 2) (rest := []) ⟨hx, hb, hml, hown, hts⟩ (cX5c_predicted l G (kw kC G.2.2 (eU G S1) ++ [kO G f1]) M N hm7 hN6 (xs (4 * k + 1)) (xs (4 * k + 2))) (cwV 2 hts gL_law_X5_predicted rfl rfl rfl (by decide +kernel) ⟨Nat.le_of_ble_eq_true rfl, Nat.le_of_ble_eq_true rfl⟩) (k_recv hK (kS_flip hw) kM_10 rfl rfl) hK hN hZ hA (kS_flip hw) (by omega) (by omega) rfl hl.1 rfl (Nat.le_of_ble_eq_true rfl) dL_law_717 (fun H locs hw => ?_)
  refine W.eq (g2 := F0 m 720 ls [.int (bI (fX5_predicted M N (xs (4 * k + 1)) (xs (4 * k + 2))).1)]) rfl ?_
  generalize (fX5_predicted M N (xs (4 * k + 1)) (xs (4 * k + 2))).1 = v1 at *
  generalize (fX5_predicted M N (xs (4 * k + 1)) (xs (4 * k + 2))).2 = M1 at *
  refine lv_istore (lv' := (6, .int (bI v1)) :: (5, .int k1) :: lwL G b (nI (4 * k))) hx hb dL_law_720 hl (by decide) rfl (fun ls hl => ?_)
  exact tail_Z (hts := hts) 722 hx hb hml hown hK hN hZ hA hw (by omega) (by omega) hl a1 (fun h0 => a3 h0) dL_law_722 dL_law_723 dL_law_726 dL_law_728 dL_law_733 dL_law_735 dL_law_738 dL_law_739 dL_law_740 dL_law_741 dL_law_743 dL_law_746 dL_law_747 dL_law_750 dL_law_751 dL_law_752 dL_law_757 (by decide) (fun H1 locs1 ls1 hw hl => W.widen (by omega) (by omega) (kk S1 M1 f1 H1 locs1 ls1 a2 hw hl))
set_option maxHeartbeats 4000000 in
set_option maxRecDepth 100000 in
theorem law_counter {b L k P Q h Y N o : Nat} {xs : Nat → Int32} {hts : ∀ w ∈ wsL_law, w.before args s = true} (hlt : l.stackTraces = false) (hx : p.tables.exec = Jvm.exec) (hb : c.code = cL_law) (hml : c.maxLocals = 9) (hown : s.vm.findClass RL = some m.cls) (hX : va_X b L xs s s.heap) (hbl : b < s.heap.size) (hbA : ¬ A b) (hK : va_K G.1 vwCl (gTy G) s) (hN : kN G s) (hZ : kZ A s s.heap) (hA : ∀ q, s.heap.size ≤ q → A q) (hL : L ≤ 2048) (hk : 4 * k + 4 ≤ L) (RR : Rel S M P Q h Y N o) (hw : kS G kC S (kO G f :: kw kM G.2.2 (eU G M)) A s.heap H locs) (hc : cells + 2 ≤ room_1.cells) (hs : slots + 12 ≤ room_1.slots) (hl : lv_has ls 9 (lwL G b (nI (4 * k))))
    (kk : ∀ (S1 M1 : uS) (f1 : Nat → Int64) (H1 : Heap) (locs1 : List Loc) (ls1 : Array Slot), RelE S1 M1 → kS G kC S1 (kO G f1 :: kw kM G.2.2 (eU G M1)) A s.heap H1 locs1 → lv_has ls1 9 (lwL G b (nI (4 * k))) → W p l e room_1 s m args below meth c H1 locs1 (cells + 2) (slots + 12) QQ (F0 m 1130 ls1 [])) : W p l e room_1 s m args below meth c H locs cells slots QQ (F0 m 773 ls []) := by
  obtain ⟨⟨⟨hP, hQ, hh, hY, hN6, ho⟩, ⟨h8, h9, h10, h11, h12, h13⟩, ⟨t0, t1, t2⟩, ⟨hm1, hm2, hm3, hm4, hm7⟩⟩, ⟨n1, n2, n3, n4⟩, -, -, -, -, hJ⟩ := id RR
  refine lv_aload_n hx hb dL_law_773 rfl (lv_at hl 3 rfl) ?_
  refine push_i (lx := []) (j := 1) (jj := 1) hx hb hX hbl hbA hw.2.2 hl hL hk (by decide) dL_law_774 dL_law_775 dL_law_777 rfl dL_law_778 dL_law_779 ?_
  refine push_i (lx := []) (j := 2) (jj := 2) hx hb hX hbl hbA hw.2.2 hl hL hk (by decide) dL_law_780 dL_law_781 dL_law_783 rfl dL_law_784 dL_law_785 ?_
  refine lv_aload_n hx hb dL_law_786 rfl (lv_at hl 1 rfl) ?_
  refine ko_callS (n := 4) (mc0 := 1) (ms0 := 6) (rest := []) ⟨hx, hb, hml, hown, hts⟩ (cLc_counter l hlt G (kw kM G.2.2 (eU G M)) S f (xs (4 * k + 1)) (xs (4 * k + 2))) (vx_cwSW 4 hts gL_law_L_counter rfl rfl rfl (by decide +kernel) ⟨Nat.le_of_ble_eq_true rfl, Nat.le_of_ble_eq_true rfl⟩) hK hN hZ hA hw (by omega) (by omega) rfl hl.1 rfl (Nat.le_of_ble_eq_true rfl) dL_law_787 (fun H locs hw => ?_)
  refine W.eq (g2 := F0 m 790 ls [.int (wK cd1 (xX4_counter S (xs (4 * k + 1)) (xs (4 * k + 2))))]) rfl ?_
  obtain ⟨a1, a2, a3⟩ := Agree_K f (A_counter RR  (xs (4 * k + 1)) (xs (4 * k + 2)))
  generalize wK cd1 (xX4_counter S (xs (4 * k + 1)) (xs (4 * k + 2))) = k1 at *
  generalize wS (xX4_counter S (xs (4 * k + 1)) (xs (4 * k + 2))) S = S1 at *
  generalize wF (xX4_counter S (xs (4 * k + 1)) (xs (4 * k + 2))) f = f1 at *
  refine lv_istore (lv' := (5, .int k1) :: lwL G b (nI (4 * k))) hx hb dL_law_790 hl (by decide) rfl (fun ls hl => ?_)
  refine lv_aload_n hx hb dL_law_792 rfl (lv_at hl 3 rfl) ?_
  refine push_i (lx := [(5, .int k1)]) (j := 1) (jj := 1) hx hb hX hbl hbA hw.2.2 hl hL hk (by decide) dL_law_793 dL_law_794 dL_law_796 rfl dL_law_797 dL_law_798 ?_
  refine push_i (lx := [(5, .int k1)]) (j := 2) (jj := 2) hx hb hX hbl hbA hw.2.2 hl hL hk (by decide) dL_law_799 dL_law_800 dL_law_802 rfl dL_law_803 dL_law_804 ?_
  refine k_callV (C := RX5) (n := 2) (rest := []) ⟨hx, hb, hml, hown, hts⟩ (cX5c_counter l G (kw kC G.2.2 (eU G S1) ++ [kO G f1]) M P hm1 hP Q hm2 hQ (xs (4 * k + 1)) (xs (4 * k + 2))) (cwV 2 hts gL_law_X5_counter rfl rfl rfl (by decide +kernel) ⟨Nat.le_of_ble_eq_true rfl, Nat.le_of_ble_eq_true rfl⟩) (k_recv hK (kS_flip hw) kM_10 rfl rfl) hK hN hZ hA (kS_flip hw) (by omega) (by omega) rfl hl.1 rfl (Nat.le_of_ble_eq_true rfl) dL_law_805 (fun H locs hw => ?_)
  refine W.eq (g2 := F0 m 808 ls [.int ((fX5_counter M P Q (xs (4 * k + 1)) (xs (4 * k + 2))).1)]) rfl ?_
  generalize (fX5_counter M P Q (xs (4 * k + 1)) (xs (4 * k + 2))).1 = v1 at *
  generalize (fX5_counter M P Q (xs (4 * k + 1)) (xs (4 * k + 2))).2 = M1 at *
  refine lv_istore (lv' := (6, .int v1) :: (5, .int k1) :: lwL G b (nI (4 * k))) hx hb dL_law_808 hl (by decide) rfl (fun ls hl => ?_)
  exact tail_I (hts := hts) 810 hx hb hml hown hK hN hZ hA hw (by omega) (by omega) hl a1 (fun h0 => a3 h0) dL_law_810 dL_law_811 dL_law_814 dL_law_816 dL_law_821 dL_law_823 dL_law_826 dL_law_827 dL_law_828 dL_law_829 dL_law_831 dL_law_832 dL_law_833 dL_law_838 (by decide) (fun H1 locs1 ls1 hw hl => W.widen (by omega) (by omega) (kk S1 M1 f1 H1 locs1 ls1 a2 hw hl))
set_option maxHeartbeats 4000000 in
set_option maxRecDepth 100000 in
theorem law_loop {b L k P Q h Y N o : Nat} {xs : Nat → Int32} {hts : ∀ w ∈ wsL_law, w.before args s = true} (hlt : l.stackTraces = false) (hx : p.tables.exec = Jvm.exec) (hb : c.code = cL_law) (hml : c.maxLocals = 9) (hown : s.vm.findClass RL = some m.cls) (hX : va_X b L xs s s.heap) (hbl : b < s.heap.size) (hbA : ¬ A b) (hK : va_K G.1 vwCl (gTy G) s) (hN : kN G s) (hZ : kZ A s s.heap) (hA : ∀ q, s.heap.size ≤ q → A q) (hL : L ≤ 2048) (hk : 4 * k + 4 ≤ L) (RR : Rel S M P Q h Y N o) (hw : kS G kC S (kO G f :: kw kM G.2.2 (eU G M)) A s.heap H locs) (hc : cells + 2 ≤ room_1.cells) (hs : slots + 12 ≤ room_1.slots) (hl : lv_has ls 9 (lwL G b (nI (4 * k))))
    (kk : ∀ (S1 M1 : uS) (f1 : Nat → Int64) (H1 : Heap) (locs1 : List Loc) (ls1 : Array Slot), RelE S1 M1 → kS G kC S1 (kO G f1 :: kw kM G.2.2 (eU G M1)) A s.heap H1 locs1 → lv_has ls1 9 (lwL G b (nI (4 * k))) → W p l e room_1 s m args below meth c H1 locs1 (cells + 2) (slots + 12) QQ (F0 m 1130 ls1 [])) : W p l e room_1 s m args below meth c H locs cells slots QQ (F0 m 841 ls []) := by
  obtain ⟨⟨⟨hP, hQ, hh, hY, hN6, ho⟩, ⟨h8, h9, h10, h11, h12, h13⟩, ⟨t0, t1, t2⟩, ⟨hm1, hm2, hm3, hm4, hm7⟩⟩, ⟨n1, n2, n3, n4⟩, -, -, -, -, hJ⟩ := id RR
  refine lv_aload_n hx hb dL_law_841 rfl (lv_at hl 3 rfl) ?_
  refine push_i (lx := []) (j := 1) (jj := 1) hx hb hX hbl hbA hw.2.2 hl hL hk (by decide) dL_law_842 dL_law_843 dL_law_845 rfl dL_law_846 dL_law_847 ?_
  refine push_i (lx := []) (j := 2) (jj := 2) hx hb hX hbl hbA hw.2.2 hl hL hk (by decide) dL_law_848 dL_law_849 dL_law_851 rfl dL_law_852 dL_law_853 ?_
  refine lv_aload_n hx hb dL_law_854 rfl (lv_at hl 1 rfl) ?_
  refine ko_callS (n := 4) (mc0 := 1) (ms0 := 6) (rest := []) ⟨hx, hb, hml, hown, hts⟩ (cLc_loop l hlt G (kw kM G.2.2 (eU G M)) S f N h13 (by omega) (xs (4 * k + 1)) (xs (4 * k + 2))) (vx_cwSW 4 hts gL_law_L_loop rfl rfl rfl (by decide +kernel) ⟨Nat.le_of_ble_eq_true rfl, Nat.le_of_ble_eq_true rfl⟩) hK hN hZ hA hw (by omega) (by omega) rfl hl.1 rfl (Nat.le_of_ble_eq_true rfl) dL_law_855 (fun H locs hw => ?_)
  refine W.eq (g2 := F0 m 858 ls [.int (wK cd1 (xX4_loop S N (xs (4 * k + 1)) (xs (4 * k + 2))))]) rfl ?_
  obtain ⟨a1, a2, a3⟩ := Agree_K f (A_loop RR  (xs (4 * k + 1)) (xs (4 * k + 2)))
  generalize wK cd1 (xX4_loop S N (xs (4 * k + 1)) (xs (4 * k + 2))) = k1 at *
  generalize wS (xX4_loop S N (xs (4 * k + 1)) (xs (4 * k + 2))) S = S1 at *
  generalize wF (xX4_loop S N (xs (4 * k + 1)) (xs (4 * k + 2))) f = f1 at *
  refine lv_istore (lv' := (5, .int k1) :: lwL G b (nI (4 * k))) hx hb dL_law_858 hl (by decide) rfl (fun ls hl => ?_)
  refine lv_aload_n hx hb dL_law_860 rfl (lv_at hl 3 rfl) ?_
  refine push_i (lx := [(5, .int k1)]) (j := 1) (jj := 1) hx hb hX hbl hbA hw.2.2 hl hL hk (by decide) dL_law_861 dL_law_862 dL_law_864 rfl dL_law_865 dL_law_866 ?_
  refine push_i (lx := [(5, .int k1)]) (j := 2) (jj := 2) hx hb hX hbl hbA hw.2.2 hl hL hk (by decide) dL_law_867 dL_law_868 dL_law_870 rfl dL_law_871 dL_law_872 ?_
  refine k_callV (C := RX5) (n := 2) (rest := []) ⟨hx, hb, hml, hown, hts⟩ (cX5c_loop l G (kw kC G.2.2 (eU G S1) ++ [kO G f1]) M N hm7 hN6 (xs (4 * k + 1)) (xs (4 * k + 2))) (cwV 2 hts gL_law_X5_loop rfl rfl rfl (by decide +kernel) ⟨Nat.le_of_ble_eq_true rfl, Nat.le_of_ble_eq_true rfl⟩) (k_recv hK (kS_flip hw) kM_10 rfl rfl) hK hN hZ hA (kS_flip hw) (by omega) (by omega) rfl hl.1 rfl (Nat.le_of_ble_eq_true rfl) dL_law_873 (fun H locs hw => ?_)
  refine W.eq (g2 := F0 m 876 ls [.int ((fX5_loop M N (xs (4 * k + 1)) (xs (4 * k + 2))).1)]) rfl ?_
  generalize (fX5_loop M N (xs (4 * k + 1)) (xs (4 * k + 2))).1 = v1 at *
  generalize (fX5_loop M N (xs (4 * k + 1)) (xs (4 * k + 2))).2 = M1 at *
  refine lv_istore (lv' := (6, .int v1) :: (5, .int k1) :: lwL G b (nI (4 * k))) hx hb dL_law_876 hl (by decide) rfl (fun ls hl => ?_)
  exact tail_I (hts := hts) 878 hx hb hml hown hK hN hZ hA hw (by omega) (by omega) hl a1 (fun h0 => a3 h0) dL_law_878 dL_law_879 dL_law_882 dL_law_884 dL_law_889 dL_law_891 dL_law_894 dL_law_895 dL_law_896 dL_law_897 dL_law_899 dL_law_900 dL_law_901 dL_law_906 (by decide) (fun H1 locs1 ls1 hw hl => W.widen (by omega) (by omega) (kk S1 M1 f1 H1 locs1 ls1 a2 hw hl))
set_option maxHeartbeats 4000000 in
set_option maxRecDepth 100000 in
theorem law_misses {b L k P Q h Y N o : Nat} {xs : Nat → Int32} {hts : ∀ w ∈ wsL_law, w.before args s = true} (hlt : l.stackTraces = false) (hx : p.tables.exec = Jvm.exec) (hb : c.code = cL_law) (hml : c.maxLocals = 9) (hown : s.vm.findClass RL = some m.cls) (hX : va_X b L xs s s.heap) (hbl : b < s.heap.size) (hbA : ¬ A b) (hK : va_K G.1 vwCl (gTy G) s) (hN : kN G s) (hZ : kZ A s s.heap) (hA : ∀ q, s.heap.size ≤ q → A q) (hL : L ≤ 2048) (hk : 4 * k + 4 ≤ L) (RR : Rel S M P Q h Y N o) (hw : kS G kC S (kO G f :: kw kM G.2.2 (eU G M)) A s.heap H locs) (hc : cells + 2 ≤ room_1.cells) (hs : slots + 12 ≤ room_1.slots) (hl : lv_has ls 9 (lwL G b (nI (4 * k))))
    (kk : ∀ (S1 M1 : uS) (f1 : Nat → Int64) (H1 : Heap) (locs1 : List Loc) (ls1 : Array Slot), RelE S1 M1 → kS G kC S1 (kO G f1 :: kw kM G.2.2 (eU G M1)) A s.heap H1 locs1 → lv_has ls1 9 (lwL G b (nI (4 * k))) → W p l e room_1 s m args below meth c H1 locs1 (cells + 2) (slots + 12) QQ (F0 m 1130 ls1 [])) : W p l e room_1 s m args below meth c H locs cells slots QQ (F0 m 923 ls []) := by
  obtain ⟨⟨⟨hP, hQ, hh, hY, hN6, ho⟩, ⟨h8, h9, h10, h11, h12, h13⟩, ⟨t0, t1, t2⟩, ⟨hm1, hm2, hm3, hm4, hm7⟩⟩, ⟨n1, n2, n3, n4⟩, -, -, -, -, hJ⟩ := id RR
  refine lv_aload_n hx hb dL_law_923 rfl (lv_at hl 3 rfl) ?_
  refine push_i (lx := []) (j := 1) (jj := 1) hx hb hX hbl hbA hw.2.2 hl hL hk (by decide) dL_law_924 dL_law_925 dL_law_927 rfl dL_law_928 dL_law_929 ?_
  refine lv_aload_n hx hb dL_law_930 rfl (lv_at hl 1 rfl) ?_
  refine ko_callS (n := 3) (mc0 := 1) (ms0 := 6) (rest := []) ⟨hx, hb, hml, hown, hts⟩ (cLc_misses l hlt G (kw kM G.2.2 (eU G M)) S f (xs (4 * k + 1))) (vx_cwSW 3 hts gL_law_L_misses rfl rfl rfl (by decide +kernel) ⟨Nat.le_of_ble_eq_true rfl, Nat.le_of_ble_eq_true rfl⟩) hK hN hZ hA hw (by omega) (by omega) rfl hl.1 rfl (Nat.le_of_ble_eq_true rfl) dL_law_931 (fun H locs hw => ?_)
  refine W.eq (g2 := F0 m 934 ls [.int (wK cd1 (xX4_misses S (xs (4 * k + 1))))]) rfl ?_
  obtain ⟨a1, a2, a3⟩ := Agree_K f (A_misses RR  (xs (4 * k + 1)))
  generalize wK cd1 (xX4_misses S (xs (4 * k + 1))) = k1 at *
  generalize wS (xX4_misses S (xs (4 * k + 1))) S = S1 at *
  generalize wF (xX4_misses S (xs (4 * k + 1))) f = f1 at *
  refine lv_istore (lv' := (5, .int k1) :: lwL G b (nI (4 * k))) hx hb dL_law_934 hl (by decide) rfl (fun ls hl => ?_)
  refine lv_aload_n hx hb dL_law_936 rfl (lv_at hl 3 rfl) ?_
  refine push_i (lx := [(5, .int k1)]) (j := 1) (jj := 1) hx hb hX hbl hbA hw.2.2 hl hL hk (by decide) dL_law_937 dL_law_938 dL_law_940 rfl dL_law_941 dL_law_942 ?_
  refine k_callV (C := RX5) (n := 1) (rest := []) ⟨hx, hb, hml, hown, hts⟩ (cX5c_misses l G (kw kC G.2.2 (eU G S1) ++ [kO G f1]) M  (xs (4 * k + 1))) (cwV 1 hts gL_law_X5_misses rfl rfl rfl (by decide +kernel) ⟨Nat.le_of_ble_eq_true rfl, Nat.le_of_ble_eq_true rfl⟩) (k_recv hK (kS_flip hw) kM_10 rfl rfl) hK hN hZ hA (kS_flip hw) (by omega) (by omega) rfl hl.1 rfl (Nat.le_of_ble_eq_true rfl) dL_law_943 (fun H locs hw => ?_)
  refine W.eq (g2 := F0 m 946 ls [.long ((fX5_misses M (xs (4 * k + 1))).1)]) rfl ?_
  generalize (fX5_misses M (xs (4 * k + 1))).1 = v1 at *
  generalize (fX5_misses M (xs (4 * k + 1))).2 = M1 at *
  refine lv_lstore (lv' := (6, .long v1) :: (5, .int k1) :: lwL G b (nI (4 * k))) hx hb dL_law_946 hl (by decide) rfl (fun ls hl => ?_)
  exact tail_J (hts := hts) 948 hx hb hml hown hK hN hZ hA hw (by omega) (by omega) hl a1 (fun h0 => a3 h0) dL_law_948 dL_law_949 dL_law_952 dL_law_954 dL_law_959 dL_law_961 dL_law_964 dL_law_965 dL_law_966 dL_law_967 dL_law_969 dL_law_970 dL_law_975 (by decide) (fun H1 locs1 ls1 hw hl => W.widen (by omega) (by omega) (kk S1 M1 f1 H1 locs1 ls1 a2 hw hl))
set_option maxHeartbeats 4000000 in
set_option maxRecDepth 100000 in
theorem law_meetings {b L k P Q h Y N o : Nat} {xs : Nat → Int32} {hts : ∀ w ∈ wsL_law, w.before args s = true} (hlt : l.stackTraces = false) (hx : p.tables.exec = Jvm.exec) (hb : c.code = cL_law) (hml : c.maxLocals = 9) (hown : s.vm.findClass RL = some m.cls) (hX : va_X b L xs s s.heap) (hbl : b < s.heap.size) (hbA : ¬ A b) (hK : va_K G.1 vwCl (gTy G) s) (hN : kN G s) (hZ : kZ A s s.heap) (hA : ∀ q, s.heap.size ≤ q → A q) (hL : L ≤ 2048) (hk : 4 * k + 4 ≤ L) (RR : Rel S M P Q h Y N o) (hw : kS G kC S (kO G f :: kw kM G.2.2 (eU G M)) A s.heap H locs) (hc : cells + 2 ≤ room_1.cells) (hs : slots + 12 ≤ room_1.slots) (hl : lv_has ls 9 (lwL G b (nI (4 * k))))
    (kk : ∀ (S1 M1 : uS) (f1 : Nat → Int64) (H1 : Heap) (locs1 : List Loc) (ls1 : Array Slot), RelE S1 M1 → kS G kC S1 (kO G f1 :: kw kM G.2.2 (eU G M1)) A s.heap H1 locs1 → lv_has ls1 9 (lwL G b (nI (4 * k))) → W p l e room_1 s m args below meth c H1 locs1 (cells + 2) (slots + 12) QQ (F0 m 1130 ls1 [])) : W p l e room_1 s m args below meth c H locs cells slots QQ (F0 m 992 ls []) := by
  obtain ⟨⟨⟨hP, hQ, hh, hY, hN6, ho⟩, ⟨h8, h9, h10, h11, h12, h13⟩, ⟨t0, t1, t2⟩, ⟨hm1, hm2, hm3, hm4, hm7⟩⟩, ⟨n1, n2, n3, n4⟩, -, -, -, -, hJ⟩ := id RR
  refine lv_aload_n hx hb dL_law_992 rfl (lv_at hl 3 rfl) ?_
  refine push_i (lx := []) (j := 1) (jj := 1) hx hb hX hbl hbA hw.2.2 hl hL hk (by decide) dL_law_993 dL_law_994 dL_law_996 rfl dL_law_997 dL_law_998 ?_
  refine push_i (lx := []) (j := 2) (jj := 2) hx hb hX hbl hbA hw.2.2 hl hL hk (by decide) dL_law_999 dL_law_1000 dL_law_1002 rfl dL_law_1003 dL_law_1004 ?_
  refine push_b hx hb dL_law_1005 dL_law_1008 dL_law_1009 dL_law_1012 ?_
  refine lv_aload_n hx hb dL_law_1013 rfl (lv_at hl 1 rfl) ?_
  refine ko_callS (n := 4) (mc0 := 1) (ms0 := 6) (rest := []) ⟨hx, hb, hml, hown, hts⟩ (cLc_meetings l hlt G (kw kM G.2.2 (eU G M)) S f (xs (4 * k + 1)) (decide (xs (4 * k + 2) ≠ 0))) (vx_cwSW 4 hts gL_law_L_meetings rfl rfl rfl (by decide +kernel) ⟨Nat.le_of_ble_eq_true rfl, Nat.le_of_ble_eq_true rfl⟩) hK hN hZ hA hw (by omega) (by omega) rfl hl.1 rfl (Nat.le_of_ble_eq_true rfl) dL_law_1014 (fun H locs hw => ?_)
  refine W.eq (g2 := F0 m 1017 ls [.int (wK cd1 (xX4_meetings S (xs (4 * k + 1)) (decide (xs (4 * k + 2) ≠ 0))))]) rfl ?_
  obtain ⟨a1, a2, a3⟩ := Agree_K f (A_meetings RR  (xs (4 * k + 1)) (decide (xs (4 * k + 2) ≠ 0)))
  generalize wK cd1 (xX4_meetings S (xs (4 * k + 1)) (decide (xs (4 * k + 2) ≠ 0))) = k1 at *
  generalize wS (xX4_meetings S (xs (4 * k + 1)) (decide (xs (4 * k + 2) ≠ 0))) S = S1 at *
  generalize wF (xX4_meetings S (xs (4 * k + 1)) (decide (xs (4 * k + 2) ≠ 0))) f = f1 at *
  refine lv_istore (lv' := (5, .int k1) :: lwL G b (nI (4 * k))) hx hb dL_law_1017 hl (by decide) rfl (fun ls hl => ?_)
  refine lv_aload_n hx hb dL_law_1019 rfl (lv_at hl 3 rfl) ?_
  refine push_i (lx := [(5, .int k1)]) (j := 1) (jj := 1) hx hb hX hbl hbA hw.2.2 hl hL hk (by decide) dL_law_1020 dL_law_1021 dL_law_1023 rfl dL_law_1024 dL_law_1025 ?_
  refine push_i (lx := [(5, .int k1)]) (j := 2) (jj := 2) hx hb hX hbl hbA hw.2.2 hl hL hk (by decide) dL_law_1026 dL_law_1027 dL_law_1029 rfl dL_law_1030 dL_law_1031 ?_
  refine push_b hx hb dL_law_1032 dL_law_1035 dL_law_1036 dL_law_1039 ?_
  refine k_callV (C := RX5) (n := 2) (rest := []) ⟨hx, hb, hml, hown, hts⟩ (cX5c_meetings l G (kw kC G.2.2 (eU G S1) ++ [kO G f1]) M  (xs (4 * k + 1)) (decide (xs (4 * k + 2) ≠ 0))) (cwV 2 hts gL_law_X5_meetings rfl rfl rfl (by decide +kernel) ⟨Nat.le_of_ble_eq_true rfl, Nat.le_of_ble_eq_true rfl⟩) (k_recv hK (kS_flip hw) kM_10 rfl rfl) hK hN hZ hA (kS_flip hw) (by omega) (by omega) rfl hl.1 rfl (Nat.le_of_ble_eq_true rfl) dL_law_1040 (fun H locs hw => ?_)
  refine W.eq (g2 := F0 m 1043 ls [.long ((fX5_meetings M (xs (4 * k + 1)) (decide (xs (4 * k + 2) ≠ 0))).1)]) rfl ?_
  generalize (fX5_meetings M (xs (4 * k + 1)) (decide (xs (4 * k + 2) ≠ 0))).1 = v1 at *
  generalize (fX5_meetings M (xs (4 * k + 1)) (decide (xs (4 * k + 2) ≠ 0))).2 = M1 at *
  refine lv_lstore (lv' := (6, .long v1) :: (5, .int k1) :: lwL G b (nI (4 * k))) hx hb dL_law_1043 hl (by decide) rfl (fun ls hl => ?_)
  exact tail_J (hts := hts) 1045 hx hb hml hown hK hN hZ hA hw (by omega) (by omega) hl a1 (fun h0 => a3 h0) dL_law_1045 dL_law_1046 dL_law_1049 dL_law_1051 dL_law_1056 dL_law_1058 dL_law_1061 dL_law_1062 dL_law_1063 dL_law_1064 dL_law_1066 dL_law_1067 dL_law_1072 (by decide) (fun H1 locs1 ls1 hw hl => W.widen (by omega) (by omega) (kk S1 M1 f1 H1 locs1 ls1 a2 hw hl))
set_option maxHeartbeats 4000000 in
set_option maxRecDepth 100000 in
theorem law_inFlight {b L k P Q h Y N o : Nat} {xs : Nat → Int32} {hts : ∀ w ∈ wsL_law, w.before args s = true} (hlt : l.stackTraces = false) (hx : p.tables.exec = Jvm.exec) (hb : c.code = cL_law) (hml : c.maxLocals = 9) (hown : s.vm.findClass RL = some m.cls) (hX : va_X b L xs s s.heap) (hbl : b < s.heap.size) (hbA : ¬ A b) (hK : va_K G.1 vwCl (gTy G) s) (hN : kN G s) (hZ : kZ A s s.heap) (hA : ∀ q, s.heap.size ≤ q → A q) (hL : L ≤ 2048) (hk : 4 * k + 4 ≤ L) (RR : Rel S M P Q h Y N o) (hw : kS G kC S (kO G f :: kw kM G.2.2 (eU G M)) A s.heap H locs) (hc : cells + 2 ≤ room_1.cells) (hs : slots + 12 ≤ room_1.slots) (hl : lv_has ls 9 (lwL G b (nI (4 * k))))
    (kk : ∀ (S1 M1 : uS) (f1 : Nat → Int64) (H1 : Heap) (locs1 : List Loc) (ls1 : Array Slot), RelE S1 M1 → kS G kC S1 (kO G f1 :: kw kM G.2.2 (eU G M1)) A s.heap H1 locs1 → lv_has ls1 9 (lwL G b (nI (4 * k))) → W p l e room_1 s m args below meth c H1 locs1 (cells + 2) (slots + 12) QQ (F0 m 1130 ls1 [])) : W p l e room_1 s m args below meth c H locs cells slots QQ (F0 m 560 ls []) := by
  obtain ⟨⟨⟨hP, hQ, hh, hY, hN6, ho⟩, ⟨h8, h9, h10, h11, h12, h13⟩, ⟨t0, t1, t2⟩, ⟨hm1, hm2, hm3, hm4, hm7⟩⟩, ⟨n1, n2, n3, n4⟩, -, -, -, -, hJ⟩ := id RR
  refine lv_aload_n hx hb dL_law_560 rfl (lv_at hl 3 rfl) ?_
  refine k_callV (C := RX4) (n := 0) (rest := []) ⟨hx, hb, hml, hown, hts⟩ (cX4c_inFlight l G (kO G f :: kw kM G.2.2 (eU G M)) S) (cwV 0 hts gL_law_X4_inFlight rfl rfl rfl (by decide +kernel) ⟨Nat.le_of_ble_eq_true rfl, Nat.le_of_ble_eq_true rfl⟩) (k_recv hK hw kC_0 rfl rfl) hK hN hZ hA hw (by omega) (by omega) rfl hl.1 rfl (Nat.le_of_ble_eq_true rfl) dL_law_561 (fun H locs hw => ?_)
  refine W.eq (g2 := F0 m 564 ls [.int (S.1 0 0 13)]) rfl ?_
  refine lv_aload_n hx hb dL_law_564 rfl (lv_at hl 2 rfl) ?_
  refine k_callV (C := RX5) (n := 0) (rest := [.int (S.1 0 0 13)]) ⟨hx, hb, hml, hown, hts⟩ (cX5c_inFlight l G (kw kC G.2.2 (eU G S) ++ [kO G f]) M) (cwV 0 hts gL_law_X5_inFlight rfl rfl rfl (by decide +kernel) ⟨Nat.le_of_ble_eq_true rfl, Nat.le_of_ble_eq_true rfl⟩) (k_recv hK (kS_flip hw) kM_10 rfl rfl) hK hN hZ hA (kS_flip hw) (by omega) (by omega) rfl hl.1 rfl (Nat.le_of_ble_eq_true rfl) dL_law_565 (fun H locs hw => ?_)
  refine W.eq (g2 := F0 m 568 ls [.int (M.1 10 0 7), .int (S.1 0 0 13)]) rfl ?_
  exact lv_icmp_eq (tgt := 1130) hx hb dL_law_568 (by decide) (fun _ => W.widen (by omega) (by omega) (kk S (uI M 10 0 0 (0 : Int32)) f H locs ls (rE_0 _ ⟨P, Q, h, Y, N, o, RR⟩) (kS_flop hw) hl)) (fun hne => absurd (h13.trans hm7.symm) hne)
set_option maxHeartbeats 4000000 in
set_option maxRecDepth 100000 in
theorem law_history {b L k P Q h Y N o : Nat} {xs : Nat → Int32} {hts : ∀ w ∈ wsL_law, w.before args s = true} (hlt : l.stackTraces = false) (hx : p.tables.exec = Jvm.exec) (hb : c.code = cL_law) (hml : c.maxLocals = 9) (hown : s.vm.findClass RL = some m.cls) (hX : va_X b L xs s s.heap) (hbl : b < s.heap.size) (hbA : ¬ A b) (hK : va_K G.1 vwCl (gTy G) s) (hN : kN G s) (hZ : kZ A s s.heap) (hA : ∀ q, s.heap.size ≤ q → A q) (hL : L ≤ 2048) (hk : 4 * k + 4 ≤ L) (RR : Rel S M P Q h Y N o) (hw : kS G kC S (kO G f :: kw kM G.2.2 (eU G M)) A s.heap H locs) (hc : cells + 2 ≤ room_1.cells) (hs : slots + 12 ≤ room_1.slots) (hl : lv_has ls 9 (lwL G b (nI (4 * k))))
    (kk : ∀ (S1 M1 : uS) (f1 : Nat → Int64) (H1 : Heap) (locs1 : List Loc) (ls1 : Array Slot), RelE S1 M1 → kS G kC S1 (kO G f1 :: kw kM G.2.2 (eU G M1)) A s.heap H1 locs1 → lv_has ls1 9 (lwL G b (nI (4 * k))) → W p l e room_1 s m args below meth c H1 locs1 (cells + 2) (slots + 12) QQ (F0 m 1130 ls1 [])) : W p l e room_1 s m args below meth c H locs cells slots QQ (F0 m 760 ls []) := by
  obtain ⟨⟨⟨hP, hQ, hh, hY, hN6, ho⟩, ⟨h8, h9, h10, h11, h12, h13⟩, ⟨t0, t1, t2⟩, ⟨hm1, hm2, hm3, hm4, hm7⟩⟩, ⟨n1, n2, n3, n4⟩, -, -, -, -, hJ⟩ := id RR
  refine lv_aload_n hx hb dL_law_760 rfl (lv_at hl 3 rfl) ?_
  refine k_callV (C := RX4) (n := 0) (rest := []) ⟨hx, hb, hml, hown, hts⟩ (cX4c_history l G (kO G f :: kw kM G.2.2 (eU G M)) S) (cwV 0 hts gL_law_X4_history rfl rfl rfl (by decide +kernel) ⟨Nat.le_of_ble_eq_true rfl, Nat.le_of_ble_eq_true rfl⟩) (k_recv hK hw kC_0 rfl rfl) hK hN hZ hA hw (by omega) (by omega) rfl hl.1 rfl (Nat.le_of_ble_eq_true rfl) dL_law_761 (fun H locs hw => ?_)
  refine W.eq (g2 := F0 m 764 ls [.int (S.1 0 0 11)]) rfl ?_
  refine lv_aload_n hx hb dL_law_764 rfl (lv_at hl 2 rfl) ?_
  refine k_callV (C := RX5) (n := 0) (rest := [.int (S.1 0 0 11)]) ⟨hx, hb, hml, hown, hts⟩ (cX5c_history l G (kw kC G.2.2 (eU G S) ++ [kO G f]) M) (cwV 0 hts gL_law_X5_history rfl rfl rfl (by decide +kernel) ⟨Nat.le_of_ble_eq_true rfl, Nat.le_of_ble_eq_true rfl⟩) (k_recv hK (kS_flip hw) kM_10 rfl rfl) hK hN hZ hA (kS_flip hw) (by omega) (by omega) rfl hl.1 rfl (Nat.le_of_ble_eq_true rfl) dL_law_765 (fun H locs hw => ?_)
  refine W.eq (g2 := F0 m 768 ls [.int (M.1 10 0 4), .int (S.1 0 0 11)]) rfl ?_
  exact lv_icmp_eq (tgt := 1130) hx hb dL_law_768 (by decide) (fun _ => W.widen (by omega) (by omega) (kk S (uI M 10 0 0 (0 : Int32)) f H locs ls (rE_0 _ ⟨P, Q, h, Y, N, o, RR⟩) (kS_flop hw) hl)) (fun hne => absurd (h11.trans hm4.symm) hne)
set_option maxHeartbeats 4000000 in
set_option maxRecDepth 100000 in
theorem law_commits {b L k P Q h Y N o : Nat} {xs : Nat → Int32} {hts : ∀ w ∈ wsL_law, w.before args s = true} (hlt : l.stackTraces = false) (hx : p.tables.exec = Jvm.exec) (hb : c.code = cL_law) (hml : c.maxLocals = 9) (hown : s.vm.findClass RL = some m.cls) (hX : va_X b L xs s s.heap) (hbl : b < s.heap.size) (hbA : ¬ A b) (hK : va_K G.1 vwCl (gTy G) s) (hN : kN G s) (hZ : kZ A s s.heap) (hA : ∀ q, s.heap.size ≤ q → A q) (hL : L ≤ 2048) (hk : 4 * k + 4 ≤ L) (RR : Rel S M P Q h Y N o) (hw : kS G kC S (kO G f :: kw kM G.2.2 (eU G M)) A s.heap H locs) (hc : cells + 2 ≤ room_1.cells) (hs : slots + 12 ≤ room_1.slots) (hl : lv_has ls 9 (lwL G b (nI (4 * k))))
    (kk : ∀ (S1 M1 : uS) (f1 : Nat → Int64) (H1 : Heap) (locs1 : List Loc) (ls1 : Array Slot), RelE S1 M1 → kS G kC S1 (kO G f1 :: kw kM G.2.2 (eU G M1)) A s.heap H1 locs1 → lv_has ls1 9 (lwL G b (nI (4 * k))) → W p l e room_1 s m args below meth c H1 locs1 (cells + 2) (slots + 12) QQ (F0 m 1130 ls1 [])) : W p l e room_1 s m args below meth c H locs cells slots QQ (F0 m 909 ls []) := by
  obtain ⟨⟨⟨hP, hQ, hh, hY, hN6, ho⟩, ⟨h8, h9, h10, h11, h12, h13⟩, ⟨t0, t1, t2⟩, ⟨hm1, hm2, hm3, hm4, hm7⟩⟩, ⟨n1, n2, n3, n4⟩, -, -, -, -, hJ⟩ := id RR
  refine lv_aload_n hx hb dL_law_909 rfl (lv_at hl 3 rfl) ?_
  refine k_callV (C := RX4) (n := 0) (rest := []) ⟨hx, hb, hml, hown, hts⟩ (cX4c_commits l G (kO G f :: kw kM G.2.2 (eU G M)) S) (cwV 0 hts gL_law_X4_commits rfl rfl rfl (by decide +kernel) ⟨Nat.le_of_ble_eq_true rfl, Nat.le_of_ble_eq_true rfl⟩) (k_recv hK hw kC_0 rfl rfl) hK hN hZ hA hw (by omega) (by omega) rfl hl.1 rfl (Nat.le_of_ble_eq_true rfl) dL_law_910 (fun H locs hw => ?_)
  refine W.eq (g2 := F0 m 913 ls [.long (S.2.1 0 0 14)]) rfl ?_
  refine lv_aload_n hx hb dL_law_913 rfl (lv_at hl 2 rfl) ?_
  refine k_callV (C := RX5) (n := 0) (rest := [.long (S.2.1 0 0 14)]) ⟨hx, hb, hml, hown, hts⟩ (cX5c_commits l G (kw kC G.2.2 (eU G S) ++ [kO G f]) M) (cwV 0 hts gL_law_X5_commits rfl rfl rfl (by decide +kernel) ⟨Nat.le_of_ble_eq_true rfl, Nat.le_of_ble_eq_true rfl⟩) (k_recv hK (kS_flip hw) kM_10 rfl rfl) hK hN hZ hA (kS_flip hw) (by omega) (by omega) rfl hl.1 rfl (Nat.le_of_ble_eq_true rfl) dL_law_914 (fun H locs hw => ?_)
  refine W.eq (g2 := F0 m 917 ls [.long (M.2.1 10 0 18), .long (S.2.1 0 0 14)]) rfl ?_
  refine W.lcmp hx hb dL_law_917 ?_
  exact lv_if_eq (tgt := 1130) hx hb dL_law_918 (by decide) (fun _ => W.widen (by omega) (by omega) (kk S (uI M 10 0 0 (0 : Int32)) f H locs ls (rE_0 _ ⟨P, Q, h, Y, N, o, RR⟩) (kS_flop hw) hl)) (fun hne => absurd ((lg_cmp_eq _ _).mpr n1) hne)
set_option maxHeartbeats 4000000 in
set_option maxRecDepth 100000 in
theorem law_drops {b L k P Q h Y N o : Nat} {xs : Nat → Int32} {hts : ∀ w ∈ wsL_law, w.before args s = true} (hlt : l.stackTraces = false) (hx : p.tables.exec = Jvm.exec) (hb : c.code = cL_law) (hml : c.maxLocals = 9) (hown : s.vm.findClass RL = some m.cls) (hX : va_X b L xs s s.heap) (hbl : b < s.heap.size) (hbA : ¬ A b) (hK : va_K G.1 vwCl (gTy G) s) (hN : kN G s) (hZ : kZ A s s.heap) (hA : ∀ q, s.heap.size ≤ q → A q) (hL : L ≤ 2048) (hk : 4 * k + 4 ≤ L) (RR : Rel S M P Q h Y N o) (hw : kS G kC S (kO G f :: kw kM G.2.2 (eU G M)) A s.heap H locs) (hc : cells + 2 ≤ room_1.cells) (hs : slots + 12 ≤ room_1.slots) (hl : lv_has ls 9 (lwL G b (nI (4 * k))))
    (kk : ∀ (S1 M1 : uS) (f1 : Nat → Int64) (H1 : Heap) (locs1 : List Loc) (ls1 : Array Slot), RelE S1 M1 → kS G kC S1 (kO G f1 :: kw kM G.2.2 (eU G M1)) A s.heap H1 locs1 → lv_has ls1 9 (lwL G b (nI (4 * k))) → W p l e room_1 s m args below meth c H1 locs1 (cells + 2) (slots + 12) QQ (F0 m 1130 ls1 [])) : W p l e room_1 s m args below meth c H locs cells slots QQ (F0 m 978 ls []) := by
  obtain ⟨⟨⟨hP, hQ, hh, hY, hN6, ho⟩, ⟨h8, h9, h10, h11, h12, h13⟩, ⟨t0, t1, t2⟩, ⟨hm1, hm2, hm3, hm4, hm7⟩⟩, ⟨n1, n2, n3, n4⟩, -, -, -, -, hJ⟩ := id RR
  refine lv_aload_n hx hb dL_law_978 rfl (lv_at hl 3 rfl) ?_
  refine k_callV (C := RX4) (n := 0) (rest := []) ⟨hx, hb, hml, hown, hts⟩ (cX4c_drops l G (kO G f :: kw kM G.2.2 (eU G M)) S) (cwV 0 hts gL_law_X4_drops rfl rfl rfl (by decide +kernel) ⟨Nat.le_of_ble_eq_true rfl, Nat.le_of_ble_eq_true rfl⟩) (k_recv hK hw kC_0 rfl rfl) hK hN hZ hA hw (by omega) (by omega) rfl hl.1 rfl (Nat.le_of_ble_eq_true rfl) dL_law_979 (fun H locs hw => ?_)
  refine W.eq (g2 := F0 m 982 ls [.long (S.2.1 0 0 15)]) rfl ?_
  refine lv_aload_n hx hb dL_law_982 rfl (lv_at hl 2 rfl) ?_
  refine k_callV (C := RX5) (n := 0) (rest := [.long (S.2.1 0 0 15)]) ⟨hx, hb, hml, hown, hts⟩ (cX5c_drops l G (kw kC G.2.2 (eU G S) ++ [kO G f]) M) (cwV 0 hts gL_law_X5_drops rfl rfl rfl (by decide +kernel) ⟨Nat.le_of_ble_eq_true rfl, Nat.le_of_ble_eq_true rfl⟩) (k_recv hK (kS_flip hw) kM_10 rfl rfl) hK hN hZ hA (kS_flip hw) (by omega) (by omega) rfl hl.1 rfl (Nat.le_of_ble_eq_true rfl) dL_law_983 (fun H locs hw => ?_)
  refine W.eq (g2 := F0 m 986 ls [.long (M.2.1 10 0 19), .long (S.2.1 0 0 15)]) rfl ?_
  refine W.lcmp hx hb dL_law_986 ?_
  exact lv_if_eq (tgt := 1130) hx hb dL_law_987 (by decide) (fun _ => W.widen (by omega) (by omega) (kk S (uI M 10 0 0 (0 : Int32)) f H locs ls (rE_0 _ ⟨P, Q, h, Y, N, o, RR⟩) (kS_flop hw) hl)) (fun hne => absurd ((lg_cmp_eq _ _).mpr n2) hne)
set_option maxHeartbeats 4000000 in
set_option maxRecDepth 100000 in
theorem law_digest {b L k P Q h Y N o : Nat} {xs : Nat → Int32} {hts : ∀ w ∈ wsL_law, w.before args s = true} (hlt : l.stackTraces = false) (hx : p.tables.exec = Jvm.exec) (hb : c.code = cL_law) (hml : c.maxLocals = 9) (hown : s.vm.findClass RL = some m.cls) (hX : va_X b L xs s s.heap) (hbl : b < s.heap.size) (hbA : ¬ A b) (hK : va_K G.1 vwCl (gTy G) s) (hN : kN G s) (hZ : kZ A s s.heap) (hA : ∀ q, s.heap.size ≤ q → A q) (hL : L ≤ 2048) (hk : 4 * k + 4 ≤ L) (RR : Rel S M P Q h Y N o) (hw : kS G kC S (kO G f :: kw kM G.2.2 (eU G M)) A s.heap H locs) (hc : cells + 2 ≤ room_1.cells) (hs : slots + 12 ≤ room_1.slots) (hl : lv_has ls 9 (lwL G b (nI (4 * k))))
    (kk : ∀ (S1 M1 : uS) (f1 : Nat → Int64) (H1 : Heap) (locs1 : List Loc) (ls1 : Array Slot), RelE S1 M1 → kS G kC S1 (kO G f1 :: kw kM G.2.2 (eU G M1)) A s.heap H1 locs1 → lv_has ls1 9 (lwL G b (nI (4 * k))) → W p l e room_1 s m args below meth c H1 locs1 (cells + 2) (slots + 12) QQ (F0 m 1130 ls1 [])) : W p l e room_1 s m args below meth c H locs cells slots QQ (F0 m 1116 ls []) := by
  obtain ⟨⟨⟨hP, hQ, hh, hY, hN6, ho⟩, ⟨h8, h9, h10, h11, h12, h13⟩, ⟨t0, t1, t2⟩, ⟨hm1, hm2, hm3, hm4, hm7⟩⟩, ⟨n1, n2, n3, n4⟩, -, -, -, -, hJ⟩ := id RR
  have p1 := m_pw P (by omega)
  have p2 := m_pw Q (by omega)
  refine lv_aload_n hx hb dL_law_1116 rfl (lv_at hl 3 rfl) ?_
  refine k_callV (C := RX4) (n := 0) (rest := []) ⟨hx, hb, hml, hown, hts⟩ (cX4c_digest l G (kO G f :: kw kM G.2.2 (eU G M)) S (2 ^ P) t0 p1 (2 ^ Q) t1 p2 (2 ^ P) t2 p1 N h13 (by omega)) (cwV 0 hts gL_law_X4_digest rfl rfl rfl (by decide +kernel) ⟨Nat.le_of_ble_eq_true rfl, Nat.le_of_ble_eq_true rfl⟩) (k_recv hK hw kC_0 rfl rfl) hK hN hZ hA hw (by omega) (by omega) rfl hl.1 rfl (Nat.le_of_ble_eq_true rfl) dL_law_1117 (fun H locs hw => ?_)
  refine W.eq (g2 := F0 m 1120 ls [.long (fX4_digest S (2 ^ P) (2 ^ Q) (2 ^ P) N)]) rfl ?_
  refine lv_aload_n hx hb dL_law_1120 rfl (lv_at hl 2 rfl) ?_
  refine k_callV (C := RX5) (n := 0) (rest := [.long (fX4_digest S (2 ^ P) (2 ^ Q) (2 ^ P) N)]) ⟨hx, hb, hml, hown, hts⟩ (cX5c_digest l G (kw kC G.2.2 (eU G S) ++ [kO G f]) M P hm1 hP Q hm2 hQ N hm7 hN6) (cwV 0 hts gL_law_X5_digest rfl rfl rfl (by decide +kernel) ⟨Nat.le_of_ble_eq_true rfl, Nat.le_of_ble_eq_true rfl⟩) (k_recv hK (kS_flip hw) kM_10 rfl rfl) hK hN hZ hA (kS_flip hw) (by omega) (by omega) rfl hl.1 rfl (Nat.le_of_ble_eq_true rfl) dL_law_1121 (fun H locs hw => ?_)
  refine W.eq (g2 := F0 m 1124 ls [.long ((fX5_digest M P Q N).1), .long (fX4_digest S (2 ^ P) (2 ^ Q) (2 ^ P) N)]) rfl ?_
  refine W.lcmp hx hb dL_law_1124 ?_
  exact lv_if_eq (tgt := 1130) hx hb dL_law_1125 (by decide) (fun _ => W.widen (by omega) (by omega) (kk S (uI M 10 0 0 (0 : Int32)) f H locs ls (rE_0 _ ⟨P, Q, h, Y, N, o, RR⟩) (kS_flop hw) hl)) (fun hne => absurd ((lg_cmp_eq _ _).mpr (A_digest RR)) hne)
end KL3
