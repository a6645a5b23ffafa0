set_option maxHeartbeats 4000000 in
set_option maxRecDepth 100000 in
theorem lo_token {G : eG} {x : CX} {ad : Nat → Nat → Nat} {q : Nat → Nat} {o : Nat} {g : mS} {h : hp} {b L i n1 n2 : Nat} {xs : Nat → Int32} (C : cxOk G RL cL_law room_1 7 x) (B : cxS G b L xs x) (hlf : ∀ l, cxL l x → l.stackTraces = false) (s : lst ad q o) (w : lwo G ad q o g h) (hi : i + 6 ≤ L) (hL : L ≤ 3072) (hr : n1 + 18 ≤ 601024 ∧ n2 + 138 ≤ 7293034) (K : ∀ g h, lwo G ad q o g h → VV G x (n1 + 18) (n2 + 138) h 1922 [(4, .int (nI i)), (3, .ref o), (2, .ref (q 0)), (1, .ref (ad 0 0)), (0, .ref b)] []) : VV G x n1 n2 h 160 [(4, .int (nI i)), (3, .ref o), (2, .ref (q 0)), (1, .ref (ad 0 0)), (0, .ref b)] [] := by
  refine r_aload_n C d_L_law_160 3 rfl ?_
  refine r_aload_n C d_L_law_161 4 rfl ?_
  refine r_iload C d_L_law_162 0 rfl ?_
  refine r_iconst C d_L_law_164 (v := nI 1) rfl ?_
  refine rn_iadd C d_L_law_165 ?_
  refine r_sld C B d_L_law_166 (i := i + 1) (by omega) hL ?_
  refine r_aload_n C d_L_law_167 4 rfl ?_
  refine r_iload C d_L_law_168 0 rfl ?_
  refine r_iconst C d_L_law_170 (v := nI 2) rfl ?_
  refine rn_iadd C d_L_law_171 ?_
  refine r_sld C B d_L_law_172 (i := i + 2) (by omega) hL ?_
  refine r_aload_n C d_L_law_173 4 rfl ?_
  refine r_iload C d_L_law_174 0 rfl ?_
  refine r_iconst C d_L_law_176 (v := nI 3) rfl ?_
  refine rn_iadd C d_L_law_177 ?_
  refine r_sld C B d_L_law_178 (i := i + 3) (by omega) hL ?_
  refine r_aload_n C d_L_law_179 4 rfl ?_
  refine r_iload C d_L_law_180 0 rfl ?_
  refine r_iconst C d_L_law_182 (v := nI 4) rfl ?_
  refine rn_iadd C d_L_law_183 ?_
  refine r_sld C B d_L_law_184 (i := i + 4) (by omega) hL ?_
  refine r_aload_n C d_L_law_185 1 rfl ?_
  refine r_callSH C d_L_law_186 ok_RL_102 (fun l hl => lwx_token (hlf l hl) s w) (As := [.ref (ad 0 0), .int (xs (i + 1)), .int (xs (i + 2)), .int (xs (i + 3)), .int (xs (i + 4)), .ref o]) rfl (rest := []) rfl (Nat.le_of_ble_eq_true rfl) ⟨⟨by decide, by decide⟩, (show n1 + 5 ≤ 601024 by omega), (show n2 + 30 ≤ 7293034 by omega)⟩ (fun v9 h1 e9 => ?_)
  obtain ⟨c, g9, f, rfl, hc4, wg, K9⟩ := e9
  show VV G x (n1 + 5) (n2 + 30) h1 189 [(4, .int (nI i)), (3, .ref o), (2, .ref (q 0)), (1, .ref (ad 0 0)), (0, .ref b)] [.int (nI c)]
  refine r_istore C d_L_law_189 (lv' := [(5, .int (nI c)), (4, .int (nI i)), (3, .ref o), (2, .ref (q 0)), (1, .ref (ad 0 0)), (0, .ref b)]) (by decide) rfl ?_
  refine r_aload_n C d_L_law_191 3 rfl ?_
  refine r_aload_n C d_L_law_192 5 rfl ?_
  refine r_iload C d_L_law_193 1 rfl ?_
  refine r_iconst C d_L_law_195 (v := nI 1) rfl ?_
  refine rn_iadd C d_L_law_196 ?_
  refine r_sld C B d_L_law_197 (i := i + 1) (by omega) hL ?_
  refine r_aload_n C d_L_law_198 5 rfl ?_
  refine r_iload C d_L_law_199 1 rfl ?_
  refine r_iconst C d_L_law_201 (v := nI 2) rfl ?_
  refine rn_iadd C d_L_law_202 ?_
  refine r_sld C B d_L_law_203 (i := i + 2) (by omega) hL ?_
  refine r_aload_n C d_L_law_204 5 rfl ?_
  refine r_iload C d_L_law_205 1 rfl ?_
  refine r_iconst C d_L_law_207 (v := nI 3) rfl ?_
  refine rn_iadd C d_L_law_208 ?_
  refine r_sld C B d_L_law_209 (i := i + 3) (by omega) hL ?_
  refine r_aload_n C d_L_law_210 5 rfl ?_
  refine r_iload C d_L_law_211 1 rfl ?_
  refine r_iconst C d_L_law_213 (v := nI 4) rfl ?_
  refine rn_iadd C d_L_law_214 ?_
  refine r_sld C B d_L_law_215 (i := i + 4) (by omega) hL ?_
  refine r_callV C d_L_law_216 ok_RL_107 (fun l _ => m_token g (xs (i + 1)) (xs (i + 2)) (xs (i + 3)) (xs (i + 4)) w.2.1.1 l G q h1 wg.2.1) wg.2.1.1 rfl rfl (As := [.int (xs (i + 1)), .int (xs (i + 2)), .int (xs (i + 3)), .int (xs (i + 4))]) rfl (rest := []) rfl (Nat.le_of_ble_eq_true rfl) ⟨⟨by decide, by decide⟩, (show n1 + 5 + 0 ≤ 601024 by omega), (show n2 + 30 + 0 ≤ 7293034 by omega)⟩ (fun v9 h2 e9 => ?_)
  obtain ⟨T9, e9, m2, f2⟩ := e9
  obtain ⟨k0, ka, ks⟩ := K9 v9 T9 e9
  obtain ⟨r9, rfl⟩ : ∃ r9, v9 = some (.int r9) := ⟨_, e9.1⟩
  show VV G x (n1 + 5) (n2 + 30) h2 219 [(5, .int (nI c)), (4, .int (nI i)), (3, .ref o), (2, .ref (q 0)), (1, .ref (ad 0 0)), (0, .ref b)] [.int r9]
  refine r_istore C d_L_law_219 (lv' := [(6, .int r9), (5, .int (nI c)), (4, .int (nI i)), (3, .ref o), (2, .ref (q 0)), (1, .ref (ad 0 0)), (0, .ref b)]) (by decide) rfl ?_
  refine r_aload_n C d_L_law_221 4 rfl ?_
  refine r_callV C d_L_law_222 ok_RL_108 (fun l _ => m_thrown T9 l G q h2 m2) m2.1 rfl rfl (As := []) rfl (rest := []) rfl (Nat.le_of_ble_eq_true rfl) ⟨⟨by decide, by decide⟩, (show n1 + 5 + 0 ≤ 601024 by omega), (show n2 + 30 + 0 ≤ 7293034 by omega)⟩ (fun v9 h3 e9 => ?_)
  obtain ⟨T3, ⟨rfl, rfl⟩, m3, f3⟩ := e9
  rw [k0]
  show VV G x (n1 + 5) (n2 + 30) h3 225 [(6, .int r9), (5, .int (nI c)), (4, .int (nI i)), (3, .ref o), (2, .ref (q 0)), (1, .ref (ad 0 0)), (0, .ref b)] [.int (nI c)]
  have fr : mfr q h1 h3 := fun a n => (f3 a n).trans (f2 a n)
  refine r_iload C d_L_law_225 1 rfl ?_
  refine r_icmp_eq C d_L_law_227 (tgt := 232) rfl (fun _ => ?_) (fun z => absurd rfl z)
  have fin : VV G x (n1 + 5) (n2 + 30) h3 249 [(6, .int r9), (5, .int (nI c)), (4, .int (nI i)), (3, .ref o), (2, .ref (q 0)), (1, .ref (ad 0 0)), (0, .ref b)] [] := r_goto C d_L_law_249 (tgt := 1922) rfl (r_lv [2, 3, 4, 5, 6] rfl (r_widen (by omega) (by omega) (K _ h3 (law_next s wg ks m3 fr))))
  refine r_iload C d_L_law_232 1 rfl ?_
  refine rn_if_ne C d_L_law_234 (tgt := 249) rfl (by omega) (fun _ => fin) (fun c0 => ?_)
  have ho : h3 o = some (aJ G 1 f) := by rw [fr o (fun j hj => s.2.2.1 j hj)]; exact wg.2.2
  refine r_aload_n C d_L_law_237 3 rfl ?_
  refine r_iconst C d_L_law_238 (v := nI 0) rfl ?_
  refine r_lald C d_L_law_239 ho (i := 0) (by decide) (by decide) ?_
  refine r_iload C d_L_law_240 0 rfl ?_
  refine r_i2l C d_L_law_242 ?_
  refine r_lcmp C d_L_law_243 ?_
  rw [ka c0 r9 rfl, lg_cmp_0]
  exact r_if_eq C d_L_law_244 (tgt := 249) rfl (fun _ => fin) (fun z => absurd rfl z)
set_option maxHeartbeats 4000000 in
set_option maxRecDepth 100000 in
theorem lo_end {G : eG} {x : CX} {ad : Nat → Nat → Nat} {q : Nat → Nat} {o : Nat} {g : mS} {h : hp} {b L i n1 n2 : Nat} {xs : Nat → Int32} (C : cxOk G RL cL_law room_1 7 x) (B : cxS G b L xs x) (hlf : ∀ l, cxL l x → l.stackTraces = false) (s : lst ad q o) (w : lwo G ad q o g h) (hi : i + 6 ≤ L) (hL : L ≤ 3072) (hr : n1 + 18 ≤ 601024 ∧ n2 + 138 ≤ 7293034) (K : ∀ g h, lwo G ad q o g h → VV G x (n1 + 18) (n2 + 138) h 1922 [(4, .int (nI i)), (3, .ref o), (2, .ref (q 0)), (1, .ref (ad 0 0)), (0, .ref b)] []) : VV G x n1 n2 h 252 [(4, .int (nI i)), (3, .ref o), (2, .ref (q 0)), (1, .ref (ad 0 0)), (0, .ref b)] [] := by
  refine r_aload_n C d_L_law_252 3 rfl ?_
  refine r_aload_n C d_L_law_253 4 rfl ?_
  refine r_iload C d_L_law_254 0 rfl ?_
  refine r_iconst C d_L_law_256 (v := nI 1) rfl ?_
  refine rn_iadd C d_L_law_257 ?_
  refine r_sld C B d_L_law_258 (i := i + 1) (by omega) hL ?_
  refine r_aload_n C d_L_law_259 4 rfl ?_
  refine r_iload C d_L_law_260 0 rfl ?_
  refine r_iconst C d_L_law_262 (v := nI 2) rfl ?_
  refine rn_iadd C d_L_law_263 ?_
  refine r_sld C B d_L_law_264 (i := i + 2) (by omega) hL ?_
  refine r_tob (a := xs (i + 2)) C d_L_law_265 rfl d_L_law_268 d_L_law_269 rfl d_L_law_272 ?_
  refine r_aload_n C d_L_law_273 1 rfl ?_
  refine r_callSH C d_L_law_274 ok_RL_111 (fun l hl => lwx_end (hlf l hl) s w) (As := [.ref (ad 0 0), .int (xs (i + 1)), .int (bI (decide (xs (i + 2) ≠ 0))), .ref o]) rfl (rest := []) rfl (Nat.le_of_ble_eq_true rfl) ⟨⟨by decide, by decide⟩, (show n1 + 2 ≤ 601024 by omega), (show n2 + 12 ≤ 7293034 by omega)⟩ (fun v9 h1 e9 => ?_)
  obtain ⟨c, g9, f, rfl, hc4, wg, K9⟩ := e9
  show VV G x (n1 + 2) (n2 + 12) h1 277 [(4, .int (nI i)), (3, .ref o), (2, .ref (q 0)), (1, .ref (ad 0 0)), (0, .ref b)] [.int (nI c)]
  refine r_istore C d_L_law_277 (lv' := [(5, .int (nI c)), (4, .int (nI i)), (3, .ref o), (2, .ref (q 0)), (1, .ref (ad 0 0)), (0, .ref b)]) (by decide) rfl ?_
  refine r_aload_n C d_L_law_279 3 rfl ?_
  refine r_aload_n C d_L_law_280 5 rfl ?_
  refine r_iload C d_L_law_281 1 rfl ?_
  refine r_iconst C d_L_law_283 (v := nI 1) rfl ?_
  refine rn_iadd C d_L_law_284 ?_
  refine r_sld C B d_L_law_285 (i := i + 1) (by omega) hL ?_
  refine r_aload_n C d_L_law_286 5 rfl ?_
  refine r_iload C d_L_law_287 1 rfl ?_
  refine r_iconst C d_L_law_289 (v := nI 2) rfl ?_
  refine rn_iadd C d_L_law_290 ?_
  refine r_sld C B d_L_law_291 (i := i + 2) (by omega) hL ?_
  refine r_tob (a := xs (i + 2)) C d_L_law_292 rfl d_L_law_295 d_L_law_296 rfl d_L_law_299 ?_
  refine r_callV C d_L_law_300 ok_RL_114 (fun l _ => m_end g (xs (i + 1)) (decide (xs (i + 2) ≠ 0)) w.2.1.1 l G q h1 wg.2.1) wg.2.1.1 rfl rfl (As := [.int (xs (i + 1)), .int (bI (decide (xs (i + 2) ≠ 0)))]) rfl (rest := []) rfl (Nat.le_of_ble_eq_true rfl) ⟨⟨by decide, by decide⟩, (show n1 + 2 + 0 ≤ 601024 by omega), (show n2 + 12 + 0 ≤ 7293034 by omega)⟩ (fun v9 h2 e9 => ?_)
  obtain ⟨T9, e9, m2, f2⟩ := e9
  obtain ⟨k0, ka, ks⟩ := K9 v9 T9 e9
  obtain ⟨r9, rfl⟩ : ∃ r9, v9 = some (.int r9) := ⟨_, e9.1⟩
  show VV G x (n1 + 2) (n2 + 12) h2 303 [(5, .int (nI c)), (4, .int (nI i)), (3, .ref o), (2, .ref (q 0)), (1, .ref (ad 0 0)), (0, .ref b)] [.int r9]
  refine r_istore C d_L_law_303 (lv' := [(6, .int r9), (5, .int (nI c)), (4, .int (nI i)), (3, .ref o), (2, .ref (q 0)), (1, .ref (ad 0 0)), (0, .ref b)]) (by decide) rfl ?_
  refine r_aload_n C d_L_law_305 4 rfl ?_
  refine r_callV C d_L_law_306 ok_RL_108 (fun l _ => m_thrown T9 l G q h2 m2) m2.1 rfl rfl (As := []) rfl (rest := []) rfl (Nat.le_of_ble_eq_true rfl) ⟨⟨by decide, by decide⟩, (show n1 + 2 + 0 ≤ 601024 by omega), (show n2 + 12 + 0 ≤ 7293034 by omega)⟩ (fun v9 h3 e9 => ?_)
  obtain ⟨T3, ⟨rfl, rfl⟩, m3, f3⟩ := e9
  rw [k0]
  show VV G x (n1 + 2) (n2 + 12) h3 309 [(6, .int r9), (5, .int (nI c)), (4, .int (nI i)), (3, .ref o), (2, .ref (q 0)), (1, .ref (ad 0 0)), (0, .ref b)] [.int (nI c)]
  have fr : mfr q h1 h3 := fun a n => (f3 a n).trans (f2 a n)
  refine r_iload C d_L_law_309 1 rfl ?_
  refine r_icmp_eq C d_L_law_311 (tgt := 316) rfl (fun _ => ?_) (fun z => absurd rfl z)
  have fin : VV G x (n1 + 2) (n2 + 12) h3 333 [(6, .int r9), (5, .int (nI c)), (4, .int (nI i)), (3, .ref o), (2, .ref (q 0)), (1, .ref (ad 0 0)), (0, .ref b)] [] := r_goto C d_L_law_333 (tgt := 1922) rfl (r_lv [2, 3, 4, 5, 6] rfl (r_widen (by omega) (by omega) (K _ h3 (law_next s wg ks m3 fr))))
  refine r_iload C d_L_law_316 1 rfl ?_
  refine rn_if_ne C d_L_law_318 (tgt := 333) rfl (by omega) (fun _ => fin) (fun c0 => ?_)
  have ho : h3 o = some (aJ G 1 f) := by rw [fr o (fun j hj => s.2.2.1 j hj)]; exact wg.2.2
  refine r_aload_n C d_L_law_321 3 rfl ?_
  refine r_iconst C d_L_law_322 (v := nI 0) rfl ?_
  refine r_lald C d_L_law_323 ho (i := 0) (by decide) (by decide) ?_
  refine r_iload C d_L_law_324 0 rfl ?_
  refine r_i2l C d_L_law_326 ?_
  refine r_lcmp C d_L_law_327 ?_
  rw [ka c0 r9 rfl, lg_cmp_0]
  exact r_if_eq C d_L_law_328 (tgt := 333) rfl (fun _ => fin) (fun z => absurd rfl z)
set_option maxHeartbeats 4000000 in
set_option maxRecDepth 100000 in
theorem lo_align {G : eG} {x : CX} {ad : Nat → Nat → Nat} {q : Nat → Nat} {o : Nat} {g : mS} {h : hp} {b L i n1 n2 : Nat} {xs : Nat → Int32} (C : cxOk G RL cL_law room_1 7 x) (B : cxS G b L xs x) (hlf : ∀ l, cxL l x → l.stackTraces = false) (s : lst ad q o) (w : lwo G ad q o g h) (hi : i + 6 ≤ L) (hL : L ≤ 3072) (hr : n1 + 18 ≤ 601024 ∧ n2 + 138 ≤ 7293034) (K : ∀ g h, lwo G ad q o g h → VV G x (n1 + 18) (n2 + 138) h 1922 [(4, .int (nI i)), (3, .ref o), (2, .ref (q 0)), (1, .ref (ad 0 0)), (0, .ref b)] []) : VV G x n1 n2 h 336 [(4, .int (nI i)), (3, .ref o), (2, .ref (q 0)), (1, .ref (ad 0 0)), (0, .ref b)] [] := by
  refine r_aload_n C d_L_law_336 3 rfl ?_
  refine r_aload_n C d_L_law_337 4 rfl ?_
  refine r_iload C d_L_law_338 0 rfl ?_
  refine r_iconst C d_L_law_340 (v := nI 1) rfl ?_
  refine rn_iadd C d_L_law_341 ?_
  refine r_sld C B d_L_law_342 (i := i + 1) (by omega) hL ?_
  refine r_aload_n C d_L_law_343 4 rfl ?_
  refine r_iload C d_L_law_344 0 rfl ?_
  refine r_iconst C d_L_law_346 (v := nI 2) rfl ?_
  refine rn_iadd C d_L_law_347 ?_
  refine r_sld C B d_L_law_348 (i := i + 2) (by omega) hL ?_
  refine r_aload_n C d_L_law_349 1 rfl ?_
  refine r_callSH C d_L_law_350 ok_RL_115 (fun l hl => lwx_align (hlf l hl) s w) (As := [.ref (ad 0 0), .int (xs (i + 1)), .int (xs (i + 2)), .ref o]) rfl (rest := []) rfl (Nat.le_of_ble_eq_true rfl) ⟨⟨by decide, by decide⟩, (show n1 + 1 ≤ 601024 by omega), (show n2 + 6 ≤ 7293034 by omega)⟩ (fun v9 h1 e9 => ?_)
  obtain ⟨c, g9, f, rfl, hc4, wg, K9⟩ := e9
  show VV G x (n1 + 1) (n2 + 6) h1 353 [(4, .int (nI i)), (3, .ref o), (2, .ref (q 0)), (1, .ref (ad 0 0)), (0, .ref b)] [.int (nI c)]
  refine r_istore C d_L_law_353 (lv' := [(5, .int (nI c)), (4, .int (nI i)), (3, .ref o), (2, .ref (q 0)), (1, .ref (ad 0 0)), (0, .ref b)]) (by decide) rfl ?_
  refine r_aload_n C d_L_law_355 3 rfl ?_
  refine r_aload_n C d_L_law_356 5 rfl ?_
  refine r_iload C d_L_law_357 1 rfl ?_
  refine r_iconst C d_L_law_359 (v := nI 1) rfl ?_
  refine rn_iadd C d_L_law_360 ?_
  refine r_sld C B d_L_law_361 (i := i + 1) (by omega) hL ?_
  refine r_aload_n C d_L_law_362 5 rfl ?_
  refine r_iload C d_L_law_363 1 rfl ?_
  refine r_iconst C d_L_law_365 (v := nI 2) rfl ?_
  refine rn_iadd C d_L_law_366 ?_
  refine r_sld C B d_L_law_367 (i := i + 2) (by omega) hL ?_
  refine r_callV C d_L_law_368 ok_RL_118 (fun l _ => m_align g (xs (i + 1)) (xs (i + 2)) w.2.1.1 l G q h1 wg.2.1) wg.2.1.1 rfl rfl (As := [.int (xs (i + 1)), .int (xs (i + 2))]) rfl (rest := []) rfl (Nat.le_of_ble_eq_true rfl) ⟨⟨by decide, by decide⟩, (show n1 + 1 + 0 ≤ 601024 by omega), (show n2 + 6 + 0 ≤ 7293034 by omega)⟩ (fun v9 h2 e9 => ?_)
  obtain ⟨T9, e9, m2, f2⟩ := e9
  obtain ⟨k0, ka, ks⟩ := K9 v9 T9 e9
  obtain ⟨r9, rfl⟩ : ∃ r9, v9 = some (.int r9) := ⟨_, e9.1⟩
  show VV G x (n1 + 1) (n2 + 6) h2 371 [(5, .int (nI c)), (4, .int (nI i)), (3, .ref o), (2, .ref (q 0)), (1, .ref (ad 0 0)), (0, .ref b)] [.int r9]
  refine r_istore C d_L_law_371 (lv' := [(6, .int r9), (5, .int (nI c)), (4, .int (nI i)), (3, .ref o), (2, .ref (q 0)), (1, .ref (ad 0 0)), (0, .ref b)]) (by decide) rfl ?_
  refine r_aload_n C d_L_law_373 4 rfl ?_
  refine r_callV C d_L_law_374 ok_RL_108 (fun l _ => m_thrown T9 l G q h2 m2) m2.1 rfl rfl (As := []) rfl (rest := []) rfl (Nat.le_of_ble_eq_true rfl) ⟨⟨by decide, by decide⟩, (show n1 + 1 + 0 ≤ 601024 by omega), (show n2 + 6 + 0 ≤ 7293034 by omega)⟩ (fun v9 h3 e9 => ?_)
  obtain ⟨T3, ⟨rfl, rfl⟩, m3, f3⟩ := e9
  rw [k0]
  show VV G x (n1 + 1) (n2 + 6) h3 377 [(6, .int r9), (5, .int (nI c)), (4, .int (nI i)), (3, .ref o), (2, .ref (q 0)), (1, .ref (ad 0 0)), (0, .ref b)] [.int (nI c)]
  have fr : mfr q h1 h3 := fun a n => (f3 a n).trans (f2 a n)
  refine r_iload C d_L_law_377 1 rfl ?_
  refine r_icmp_eq C d_L_law_379 (tgt := 384) rfl (fun _ => ?_) (fun z => absurd rfl z)
  have fin : VV G x (n1 + 1) (n2 + 6) h3 401 [(6, .int r9), (5, .int (nI c)), (4, .int (nI i)), (3, .ref o), (2, .ref (q 0)), (1, .ref (ad 0 0)), (0, .ref b)] [] := r_goto C d_L_law_401 (tgt := 1922) rfl (r_lv [2, 3, 4, 5, 6] rfl (r_widen (by omega) (by omega) (K _ h3 (law_next s wg ks m3 fr))))
  refine r_iload C d_L_law_384 1 rfl ?_
  refine rn_if_ne C d_L_law_386 (tgt := 401) rfl (by omega) (fun _ => fin) (fun c0 => ?_)
  have ho : h3 o = some (aJ G 1 f) := by rw [fr o (fun j hj => s.2.2.1 j hj)]; exact wg.2.2
  refine r_aload_n C d_L_law_389 3 rfl ?_
  refine r_iconst C d_L_law_390 (v := nI 0) rfl ?_
  refine r_lald C d_L_law_391 ho (i := 0) (by decide) (by decide) ?_
  refine r_iload C d_L_law_392 0 rfl ?_
  refine r_i2l C d_L_law_394 ?_
  refine r_lcmp C d_L_law_395 ?_
  rw [ka c0 r9 rfl, lg_cmp_0]
  exact r_if_eq C d_L_law_396 (tgt := 401) rfl (fun _ => fin) (fun z => absurd rfl z)
set_option maxHeartbeats 4000000 in
set_option maxRecDepth 100000 in
theorem lo_tokens {G : eG} {x : CX} {ad : Nat → Nat → Nat} {q : Nat → Nat} {o : Nat} {g : mS} {h : hp} {b L i n1 n2 : Nat} {xs : Nat → Int32} (C : cxOk G RL cL_law room_1 7 x) (B : cxS G b L xs x) (hlf : ∀ l, cxL l x → l.stackTraces = false) (s : lst ad q o) (w : lwo G ad q o g h) (hi : i + 6 ≤ L) (hL : L ≤ 3072) (hr : n1 + 18 ≤ 601024 ∧ n2 + 138 ≤ 7293034) (K : ∀ g h, lwo G ad q o g h → VV G x (n1 + 18) (n2 + 138) h 1922 [(4, .int (nI i)), (3, .ref o), (2, .ref (q 0)), (1, .ref (ad 0 0)), (0, .ref b)] []) : VV G x n1 n2 h 404 [(4, .int (nI i)), (3, .ref o), (2, .ref (q 0)), (1, .ref (ad 0 0)), (0, .ref b)] [] := by
  refine r_aload_n C d_L_law_404 3 rfl ?_
  refine r_aload_n C d_L_law_405 4 rfl ?_
  refine r_iload C d_L_law_406 0 rfl ?_
  refine r_iconst C d_L_law_408 (v := nI 1) rfl ?_
  refine rn_iadd C d_L_law_409 ?_
  refine r_sld C B d_L_law_410 (i := i + 1) (by omega) hL ?_
  refine r_aload_n C d_L_law_411 1 rfl ?_
  refine r_callSH C d_L_law_412 ok_RL_119 (fun l hl => lwx_tokens (hlf l hl) s w) (As := [.ref (ad 0 0), .int (xs (i + 1)), .ref o]) rfl (rest := []) rfl (Nat.le_of_ble_eq_true rfl) ⟨⟨by decide, by decide⟩, (show n1 + 1 ≤ 601024 by omega), (show n2 + 6 ≤ 7293034 by omega)⟩ (fun v9 h1 e9 => ?_)
  obtain ⟨c, g9, f, rfl, hc4, wg, K9⟩ := e9
  show VV G x (n1 + 1) (n2 + 6) h1 415 [(4, .int (nI i)), (3, .ref o), (2, .ref (q 0)), (1, .ref (ad 0 0)), (0, .ref b)] [.int (nI c)]
  refine r_istore C d_L_law_415 (lv' := [(5, .int (nI c)), (4, .int (nI i)), (3, .ref o), (2, .ref (q 0)), (1, .ref (ad 0 0)), (0, .ref b)]) (by decide) rfl ?_
  refine r_aload_n C d_L_law_417 3 rfl ?_
  refine r_aload_n C d_L_law_418 5 rfl ?_
  refine r_iload C d_L_law_419 1 rfl ?_
  refine r_iconst C d_L_law_421 (v := nI 1) rfl ?_
  refine rn_iadd C d_L_law_422 ?_
  refine r_sld C B d_L_law_423 (i := i + 1) (by omega) hL ?_
  refine r_callV C d_L_law_424 ok_RL_122 (fun l _ => m_tokens g (xs (i + 1)) l G q h1 wg.2.1) wg.2.1.1 rfl rfl (As := [.int (xs (i + 1))]) rfl (rest := []) rfl (Nat.le_of_ble_eq_true rfl) ⟨⟨by decide, by decide⟩, (show n1 + 1 + 0 ≤ 601024 by omega), (show n2 + 6 + 0 ≤ 7293034 by omega)⟩ (fun v9 h2 e9 => ?_)
  obtain ⟨T9, e9, m2, f2⟩ := e9
  obtain ⟨k0, ka, ks⟩ := K9 v9 T9 e9
  obtain ⟨r9, rfl⟩ : ∃ r9, v9 = some (.int r9) := ⟨_, e9.1⟩
  show VV G x (n1 + 1) (n2 + 6) h2 427 [(5, .int (nI c)), (4, .int (nI i)), (3, .ref o), (2, .ref (q 0)), (1, .ref (ad 0 0)), (0, .ref b)] [.int r9]
  refine r_istore C d_L_law_427 (lv' := [(6, .int r9), (5, .int (nI c)), (4, .int (nI i)), (3, .ref o), (2, .ref (q 0)), (1, .ref (ad 0 0)), (0, .ref b)]) (by decide) rfl ?_
  refine r_aload_n C d_L_law_429 4 rfl ?_
  refine r_callV C d_L_law_430 ok_RL_108 (fun l _ => m_thrown T9 l G q h2 m2) m2.1 rfl rfl (As := []) rfl (rest := []) rfl (Nat.le_of_ble_eq_true rfl) ⟨⟨by decide, by decide⟩, (show n1 + 1 + 0 ≤ 601024 by omega), (show n2 + 6 + 0 ≤ 7293034 by omega)⟩ (fun v9 h3 e9 => ?_)
  obtain ⟨T3, ⟨rfl, rfl⟩, m3, f3⟩ := e9
  rw [k0]
  show VV G x (n1 + 1) (n2 + 6) h3 433 [(6, .int r9), (5, .int (nI c)), (4, .int (nI i)), (3, .ref o), (2, .ref (q 0)), (1, .ref (ad 0 0)), (0, .ref b)] [.int (nI c)]
  have fr : mfr q h1 h3 := fun a n => (f3 a n).trans (f2 a n)
  refine r_iload C d_L_law_433 1 rfl ?_
  refine r_icmp_eq C d_L_law_435 (tgt := 440) rfl (fun _ => ?_) (fun z => absurd rfl z)
  have fin : VV G x (n1 + 1) (n2 + 6) h3 457 [(6, .int r9), (5, .int (nI c)), (4, .int (nI i)), (3, .ref o), (2, .ref (q 0)), (1, .ref (ad 0 0)), (0, .ref b)] [] := r_goto C d_L_law_457 (tgt := 1922) rfl (r_lv [2, 3, 4, 5, 6] rfl (r_widen (by omega) (by omega) (K _ h3 (law_next s wg ks m3 fr))))
  refine r_iload C d_L_law_440 1 rfl ?_
  refine rn_if_ne C d_L_law_442 (tgt := 457) rfl (by omega) (fun _ => fin) (fun c0 => ?_)
  have ho : h3 o = some (aJ G 1 f) := by rw [fr o (fun j hj => s.2.2.1 j hj)]; exact wg.2.2
  refine r_aload_n C d_L_law_445 3 rfl ?_
  refine r_iconst C d_L_law_446 (v := nI 0) rfl ?_
  refine r_lald C d_L_law_447 ho (i := 0) (by decide) (by decide) ?_
  refine r_iload C d_L_law_448 0 rfl ?_
  refine r_i2l C d_L_law_450 ?_
  refine r_lcmp C d_L_law_451 ?_
  rw [ka c0 r9 rfl, lg_cmp_0]
  exact r_if_eq C d_L_law_452 (tgt := 457) rfl (fun _ => fin) (fun z => absurd rfl z)
set_option maxHeartbeats 4000000 in
set_option maxRecDepth 100000 in
theorem lo_sentenceOf {G : eG} {x : CX} {ad : Nat → Nat → Nat} {q : Nat → Nat} {o : Nat} {g : mS} {h : hp} {b L i n1 n2 : Nat} {xs : Nat → Int32} (C : cxOk G RL cL_law room_1 7 x) (B : cxS G b L xs x) (hlf : ∀ l, cxL l x → l.stackTraces = false) (s : lst ad q o) (w : lwo G ad q o g h) (hi : i + 6 ≤ L) (hL : L ≤ 3072) (hr : n1 + 18 ≤ 601024 ∧ n2 + 138 ≤ 7293034) (K : ∀ g h, lwo G ad q o g h → VV G x (n1 + 18) (n2 + 138) h 1922 [(4, .int (nI i)), (3, .ref o), (2, .ref (q 0)), (1, .ref (ad 0 0)), (0, .ref b)] []) : VV G x n1 n2 h 460 [(4, .int (nI i)), (3, .ref o), (2, .ref (q 0)), (1, .ref (ad 0 0)), (0, .ref b)] [] := by
  refine r_aload_n C d_L_law_460 3 rfl ?_
  refine r_aload_n C d_L_law_461 4 rfl ?_
  refine r_iload C d_L_law_462 0 rfl ?_
  refine r_iconst C d_L_law_464 (v := nI 1) rfl ?_
  refine rn_iadd C d_L_law_465 ?_
  refine r_sld C B d_L_law_466 (i := i + 1) (by omega) hL ?_
  refine r_aload_n C d_L_law_467 4 rfl ?_
  refine r_iload C d_L_law_468 0 rfl ?_
  refine r_iconst C d_L_law_470 (v := nI 2) rfl ?_
  refine rn_iadd C d_L_law_471 ?_
  refine r_sld C B d_L_law_472 (i := i + 2) (by omega) hL ?_
  refine r_aload_n C d_L_law_473 1 rfl ?_
  refine r_callSH C d_L_law_474 ok_RL_123 (fun l hl => lwx_sentenceOf (hlf l hl) s w) (As := [.ref (ad 0 0), .int (xs (i + 1)), .int (xs (i + 2)), .ref o]) rfl (rest := []) rfl (Nat.le_of_ble_eq_true rfl) ⟨⟨by decide, by decide⟩, (show n1 + 2 ≤ 601024 by omega), (show n2 + 12 ≤ 7293034 by omega)⟩ (fun v9 h1 e9 => ?_)
  obtain ⟨c, g9, f, rfl, hc4, wg, K9⟩ := e9
  show VV G x (n1 + 2) (n2 + 12) h1 477 [(4, .int (nI i)), (3, .ref o), (2, .ref (q 0)), (1, .ref (ad 0 0)), (0, .ref b)] [.int (nI c)]
  refine r_istore C d_L_law_477 (lv' := [(5, .int (nI c)), (4, .int (nI i)), (3, .ref o), (2, .ref (q 0)), (1, .ref (ad 0 0)), (0, .ref b)]) (by decide) rfl ?_
  refine r_aload_n C d_L_law_479 3 rfl ?_
  refine r_aload_n C d_L_law_480 5 rfl ?_
  refine r_iload C d_L_law_481 1 rfl ?_
  refine r_iconst C d_L_law_483 (v := nI 1) rfl ?_
  refine rn_iadd C d_L_law_484 ?_
  refine r_sld C B d_L_law_485 (i := i + 1) (by omega) hL ?_
  refine r_aload_n C d_L_law_486 5 rfl ?_
  refine r_iload C d_L_law_487 1 rfl ?_
  refine r_iconst C d_L_law_489 (v := nI 2) rfl ?_
  refine rn_iadd C d_L_law_490 ?_
  refine r_sld C B d_L_law_491 (i := i + 2) (by omega) hL ?_
  refine r_callV C d_L_law_492 ok_RL_125 (fun l _ => m_sentenceOf g (xs (i + 1)) (xs (i + 2)) w.2.1.1 l G q h1 wg.2.1) wg.2.1.1 rfl rfl (As := [.int (xs (i + 1)), .int (xs (i + 2))]) rfl (rest := []) rfl (Nat.le_of_ble_eq_true rfl) ⟨⟨by decide, by decide⟩, (show n1 + 2 + 0 ≤ 601024 by omega), (show n2 + 12 + 0 ≤ 7293034 by omega)⟩ (fun v9 h2 e9 => ?_)
  obtain ⟨T9, e9, m2, f2⟩ := e9
  obtain ⟨k0, ka, ks⟩ := K9 v9 T9 e9
  obtain ⟨r9, rfl⟩ : ∃ r9, v9 = some (.int r9) := ⟨_, e9.1⟩
  show VV G x (n1 + 2) (n2 + 12) h2 495 [(5, .int (nI c)), (4, .int (nI i)), (3, .ref o), (2, .ref (q 0)), (1, .ref (ad 0 0)), (0, .ref b)] [.int r9]
  refine r_istore C d_L_law_495 (lv' := [(6, .int r9), (5, .int (nI c)), (4, .int (nI i)), (3, .ref o), (2, .ref (q 0)), (1, .ref (ad 0 0)), (0, .ref b)]) (by decide) rfl ?_
  refine r_aload_n C d_L_law_497 4 rfl ?_
  refine r_callV C d_L_law_498 ok_RL_108 (fun l _ => m_thrown T9 l G q h2 m2) m2.1 rfl rfl (As := []) rfl (rest := []) rfl (Nat.le_of_ble_eq_true rfl) ⟨⟨by decide, by decide⟩, (show n1 + 2 + 0 ≤ 601024 by omega), (show n2 + 12 + 0 ≤ 7293034 by omega)⟩ (fun v9 h3 e9 => ?_)
  obtain ⟨T3, ⟨rfl, rfl⟩, m3, f3⟩ := e9
  rw [k0]
  show VV G x (n1 + 2) (n2 + 12) h3 501 [(6, .int r9), (5, .int (nI c)), (4, .int (nI i)), (3, .ref o), (2, .ref (q 0)), (1, .ref (ad 0 0)), (0, .ref b)] [.int (nI c)]
  have fr : mfr q h1 h3 := fun a n => (f3 a n).trans (f2 a n)
  refine r_iload C d_L_law_501 1 rfl ?_
  refine r_icmp_eq C d_L_law_503 (tgt := 508) rfl (fun _ => ?_) (fun z => absurd rfl z)
  have fin : VV G x (n1 + 2) (n2 + 12) h3 525 [(6, .int r9), (5, .int (nI c)), (4, .int (nI i)), (3, .ref o), (2, .ref (q 0)), (1, .ref (ad 0 0)), (0, .ref b)] [] := r_goto C d_L_law_525 (tgt := 1922) rfl (r_lv [2, 3, 4, 5, 6] rfl (r_widen (by omega) (by omega) (K _ h3 (law_next s wg ks m3 fr))))
  refine r_iload C d_L_law_508 1 rfl ?_
  refine rn_if_ne C d_L_law_510 (tgt := 525) rfl (by omega) (fun _ => fin) (fun c0 => ?_)
  have ho : h3 o = some (aJ G 1 f) := by rw [fr o (fun j hj => s.2.2.1 j hj)]; exact wg.2.2
  refine r_aload_n C d_L_law_513 3 rfl ?_
  refine r_iconst C d_L_law_514 (v := nI 0) rfl ?_
  refine r_lald C d_L_law_515 ho (i := 0) (by decide) (by decide) ?_
  refine r_iload C d_L_law_516 0 rfl ?_
  refine r_i2l C d_L_law_518 ?_
  refine r_lcmp C d_L_law_519 ?_
  rw [ka c0 r9 rfl, lg_cmp_0]
  exact r_if_eq C d_L_law_520 (tgt := 525) rfl (fun _ => fin) (fun z => absurd rfl z)
set_option maxHeartbeats 4000000 in
set_option maxRecDepth 100000 in
theorem lo_occurs {G : eG} {x : CX} {ad : Nat → Nat → Nat} {q : Nat → Nat} {o : Nat} {g : mS} {h : hp} {b L i n1 n2 : Nat} {xs : Nat → Int32} (C : cxOk G RL cL_law room_1 7 x) (B : cxS G b L xs x) (hlf : ∀ l, cxL l x → l.stackTraces = false) (s : lst ad q o) (w : lwo G ad q o g h) (hi : i + 6 ≤ L) (hL : L ≤ 3072) (hr : n1 + 18 ≤ 601024 ∧ n2 + 138 ≤ 7293034) (K : ∀ g h, lwo G ad q o g h → VV G x (n1 + 18) (n2 + 138) h 1922 [(4, .int (nI i)), (3, .ref o), (2, .ref (q 0)), (1, .ref (ad 0 0)), (0, .ref b)] []) : VV G x n1 n2 h 528 [(4, .int (nI i)), (3, .ref o), (2, .ref (q 0)), (1, .ref (ad 0 0)), (0, .ref b)] [] := by
  refine r_aload_n C d_L_law_528 3 rfl ?_
  refine r_aload_n C d_L_law_529 4 rfl ?_
  refine r_iload C d_L_law_530 0 rfl ?_
  refine r_iconst C d_L_law_532 (v := nI 1) rfl ?_
  refine rn_iadd C d_L_law_533 ?_
  refine r_sld C B d_L_law_534 (i := i + 1) (by omega) hL ?_
  refine r_aload_n C d_L_law_535 4 rfl ?_
  refine r_iload C d_L_law_536 0 rfl ?_
  refine r_iconst C d_L_law_538 (v := nI 2) rfl ?_
  refine rn_iadd C d_L_law_539 ?_
  refine r_sld C B d_L_law_540 (i := i + 2) (by omega) hL ?_
  refine r_aload_n C d_L_law_541 4 rfl ?_
  refine r_iload C d_L_law_542 0 rfl ?_
  refine r_iconst C d_L_law_544 (v := nI 3) rfl ?_
  refine rn_iadd C d_L_law_545 ?_
  refine r_sld C B d_L_law_546 (i := i + 3) (by omega) hL ?_
  refine r_aload_n C d_L_law_547 1 rfl ?_
  refine r_callSH C d_L_law_548 ok_RL_126 (fun l hl => lwx_occurs (hlf l hl) s w) (As := [.ref (ad 0 0), .int (xs (i + 1)), .int (xs (i + 2)), .int (xs (i + 3)), .ref o]) rfl (rest := []) rfl (Nat.le_of_ble_eq_true rfl) ⟨⟨by decide, by decide⟩, (show n1 + 2 ≤ 601024 by omega), (show n2 + 12 ≤ 7293034 by omega)⟩ (fun v9 h1 e9 => ?_)
  obtain ⟨c, g9, f, rfl, hc4, wg, K9⟩ := e9
  show VV G x (n1 + 2) (n2 + 12) h1 551 [(4, .int (nI i)), (3, .ref o), (2, .ref (q 0)), (1, .ref (ad 0 0)), (0, .ref b)] [.int (nI c)]
  refine r_istore C d_L_law_551 (lv' := [(5, .int (nI c)), (4, .int (nI i)), (3, .ref o), (2, .ref (q 0)), (1, .ref (ad 0 0)), (0, .ref b)]) (by decide) rfl ?_
  refine r_aload_n C d_L_law_553 3 rfl ?_
  refine r_aload_n C d_L_law_554 5 rfl ?_
  refine r_iload C d_L_law_555 1 rfl ?_
  refine r_iconst C d_L_law_557 (v := nI 1) rfl ?_
  refine rn_iadd C d_L_law_558 ?_
  refine r_sld C B d_L_law_559 (i := i + 1) (by omega) hL ?_
  refine r_aload_n C d_L_law_560 5 rfl ?_
  refine r_iload C d_L_law_561 1 rfl ?_
  refine r_iconst C d_L_law_563 (v := nI 2) rfl ?_
  refine rn_iadd C d_L_law_564 ?_
  refine r_sld C B d_L_law_565 (i := i + 2) (by omega) hL ?_
  refine r_aload_n C d_L_law_566 5 rfl ?_
  refine r_iload C d_L_law_567 1 rfl ?_
  refine r_iconst C d_L_law_569 (v := nI 3) rfl ?_
  refine rn_iadd C d_L_law_570 ?_
  refine r_sld C B d_L_law_571 (i := i + 3) (by omega) hL ?_
  refine r_callV C d_L_law_572 ok_RL_129 (fun l _ => m_occurs g (xs (i + 1)) (xs (i + 2)) (xs (i + 3)) w.2.1.1 l G q h1 wg.2.1) wg.2.1.1 rfl rfl (As := [.int (xs (i + 1)), .int (xs (i + 2)), .int (xs (i + 3))]) rfl (rest := []) rfl (Nat.le_of_ble_eq_true rfl) ⟨⟨by decide, by decide⟩, (show n1 + 2 + 0 ≤ 601024 by omega), (show n2 + 12 + 0 ≤ 7293034 by omega)⟩ (fun v9 h2 e9 => ?_)
  obtain ⟨T9, e9, m2, f2⟩ := e9
  obtain ⟨k0, ka, ks⟩ := K9 v9 T9 e9
  obtain ⟨r9, rfl⟩ : ∃ r9, v9 = some (.int r9) := ⟨_, e9.1⟩
  show VV G x (n1 + 2) (n2 + 12) h2 575 [(5, .int (nI c)), (4, .int (nI i)), (3, .ref o), (2, .ref (q 0)), (1, .ref (ad 0 0)), (0, .ref b)] [.int r9]
  refine r_istore C d_L_law_575 (lv' := [(6, .int r9), (5, .int (nI c)), (4, .int (nI i)), (3, .ref o), (2, .ref (q 0)), (1, .ref (ad 0 0)), (0, .ref b)]) (by decide) rfl ?_
  refine r_aload_n C d_L_law_577 4 rfl ?_
  refine r_callV C d_L_law_578 ok_RL_108 (fun l _ => m_thrown T9 l G q h2 m2) m2.1 rfl rfl (As := []) rfl (rest := []) rfl (Nat.le_of_ble_eq_true rfl) ⟨⟨by decide, by decide⟩, (show n1 + 2 + 0 ≤ 601024 by omega), (show n2 + 12 + 0 ≤ 7293034 by omega)⟩ (fun v9 h3 e9 => ?_)
  obtain ⟨T3, ⟨rfl, rfl⟩, m3, f3⟩ := e9
  rw [k0]
  show VV G x (n1 + 2) (n2 + 12) h3 581 [(6, .int r9), (5, .int (nI c)), (4, .int (nI i)), (3, .ref o), (2, .ref (q 0)), (1, .ref (ad 0 0)), (0, .ref b)] [.int (nI c)]
  have fr : mfr q h1 h3 := fun a n => (f3 a n).trans (f2 a n)
  refine r_iload C d_L_law_581 1 rfl ?_
  refine r_icmp_eq C d_L_law_583 (tgt := 588) rfl (fun _ => ?_) (fun z => absurd rfl z)
  have fin : VV G x (n1 + 2) (n2 + 12) h3 605 [(6, .int r9), (5, .int (nI c)), (4, .int (nI i)), (3, .ref o), (2, .ref (q 0)), (1, .ref (ad 0 0)), (0, .ref b)] [] := r_goto C d_L_law_605 (tgt := 1922) rfl (r_lv [2, 3, 4, 5, 6] rfl (r_widen (by omega) (by omega) (K _ h3 (law_next s wg ks m3 fr))))
  refine r_iload C d_L_law_588 1 rfl ?_
  refine rn_if_ne C d_L_law_590 (tgt := 605) rfl (by omega) (fun _ => fin) (fun c0 => ?_)
  have ho : h3 o = some (aJ G 1 f) := by rw [fr o (fun j hj => s.2.2.1 j hj)]; exact wg.2.2
  refine r_aload_n C d_L_law_593 3 rfl ?_
  refine r_iconst C d_L_law_594 (v := nI 0) rfl ?_
  refine r_lald C d_L_law_595 ho (i := 0) (by decide) (by decide) ?_
  refine r_iload C d_L_law_596 0 rfl ?_
  refine r_i2l C d_L_law_598 ?_
  refine r_lcmp C d_L_law_599 ?_
  rw [ka c0 r9 rfl, lg_cmp_0]
  exact r_if_eq C d_L_law_600 (tgt := 605) rfl (fun _ => fin) (fun z => absurd rfl z)
set_option maxHeartbeats 4000000 in
set_option maxRecDepth 100000 in
theorem lo_test {G : eG} {x : CX} {ad : Nat → Nat → Nat} {q : Nat → Nat} {o : Nat} {g : mS} {h : hp} {b L i n1 n2 : Nat} {xs : Nat → Int32} (C : cxOk G RL cL_law room_1 7 x) (B : cxS G b L xs x) (hlf : ∀ l, cxL l x → l.stackTraces = false) (s : lst ad q o) (w : lwo G ad q o g h) (hi : i + 6 ≤ L) (hL : L ≤ 3072) (hr : n1 + 18 ≤ 601024 ∧ n2 + 138 ≤ 7293034) (K : ∀ g h, lwo G ad q o g h → VV G x (n1 + 18) (n2 + 138) h 1922 [(4, .int (nI i)), (3, .ref o), (2, .ref (q 0)), (1, .ref (ad 0 0)), (0, .ref b)] []) : VV G x n1 n2 h 608 [(4, .int (nI i)), (3, .ref o), (2, .ref (q 0)), (1, .ref (ad 0 0)), (0, .ref b)] [] := by
  refine r_aload_n C d_L_law_608 3 rfl ?_
  refine r_aload_n C d_L_law_609 4 rfl ?_
  refine r_iload C d_L_law_610 0 rfl ?_
  refine r_iconst C d_L_law_612 (v := nI 1) rfl ?_
  refine rn_iadd C d_L_law_613 ?_
  refine r_sld C B d_L_law_614 (i := i + 1) (by omega) hL ?_
  refine r_aload_n C d_L_law_615 4 rfl ?_
  refine r_iload C d_L_law_616 0 rfl ?_
  refine r_iconst C d_L_law_618 (v := nI 2) rfl ?_
  refine rn_iadd C d_L_law_619 ?_
  refine r_sld C B d_L_law_620 (i := i + 2) (by omega) hL ?_
  refine r_aload_n C d_L_law_621 4 rfl ?_
  refine r_iload C d_L_law_622 0 rfl ?_
  refine r_iconst C d_L_law_624 (v := nI 3) rfl ?_
  refine rn_iadd C d_L_law_625 ?_
  refine r_sld C B d_L_law_626 (i := i + 3) (by omega) hL ?_
  refine r_tob (a := xs (i + 3)) C d_L_law_627 rfl d_L_law_630 d_L_law_631 rfl d_L_law_634 ?_
  refine r_aload_n C d_L_law_635 1 rfl ?_
  refine r_callSH C d_L_law_636 ok_RL_130 (fun l hl => lwx_test (hlf l hl) s w) (As := [.ref (ad 0 0), .int (xs (i + 1)), .int (xs (i + 2)), .int (bI (decide (xs (i + 3) ≠ 0))), .ref o]) rfl (rest := []) rfl (Nat.le_of_ble_eq_true rfl) ⟨⟨by decide, by decide⟩, (show n1 + 9 ≤ 601024 by omega), (show n2 + 51 ≤ 7293034 by omega)⟩ (fun v9 h1 e9 => ?_)
  obtain ⟨c, g9, f, rfl, hc4, wg, K9⟩ := e9
  show VV G x (n1 + 9) (n2 + 51) h1 639 [(4, .int (nI i)), (3, .ref o), (2, .ref (q 0)), (1, .ref (ad 0 0)), (0, .ref b)] [.int (nI c)]
  refine r_istore C d_L_law_639 (lv' := [(5, .int (nI c)), (4, .int (nI i)), (3, .ref o), (2, .ref (q 0)), (1, .ref (ad 0 0)), (0, .ref b)]) (by decide) rfl ?_
  refine r_aload_n C d_L_law_641 3 rfl ?_
  refine r_aload_n C d_L_law_642 5 rfl ?_
  refine r_iload C d_L_law_643 1 rfl ?_
  refine r_iconst C d_L_law_645 (v := nI 1) rfl ?_
  refine rn_iadd C d_L_law_646 ?_
  refine r_sld C B d_L_law_647 (i := i + 1) (by omega) hL ?_
  refine r_aload_n C d_L_law_648 5 rfl ?_
  refine r_iload C d_L_law_649 1 rfl ?_
  refine r_iconst C d_L_law_651 (v := nI 2) rfl ?_
  refine rn_iadd C d_L_law_652 ?_
  refine r_sld C B d_L_law_653 (i := i + 2) (by omega) hL ?_
  refine r_aload_n C d_L_law_654 5 rfl ?_
  refine r_iload C d_L_law_655 1 rfl ?_
  refine r_iconst C d_L_law_657 (v := nI 3) rfl ?_
  refine rn_iadd C d_L_law_658 ?_
  refine r_sld C B d_L_law_659 (i := i + 3) (by omega) hL ?_
  refine r_tob (a := xs (i + 3)) C d_L_law_660 rfl d_L_law_663 d_L_law_664 rfl d_L_law_667 ?_
  refine r_callV C d_L_law_668 ok_RL_133 (fun l _ => m_test g (xs (i + 1)) (xs (i + 2)) (decide (xs (i + 3) ≠ 0)) w.2.1.1 l G q h1 wg.2.1) wg.2.1.1 rfl rfl (As := [.int (xs (i + 1)), .int (xs (i + 2)), .int (bI (decide (xs (i + 3) ≠ 0)))]) rfl (rest := []) rfl (Nat.le_of_ble_eq_true rfl) ⟨⟨by decide, by decide⟩, (show n1 + 9 + 0 ≤ 601024 by omega), (show n2 + 51 + 0 ≤ 7293034 by omega)⟩ (fun v9 h2 e9 => ?_)
  obtain ⟨T9, e9, m2, f2⟩ := e9
  obtain ⟨k0, ka, ks⟩ := K9 v9 T9 e9
  obtain ⟨r9, rfl⟩ : ∃ r9, v9 = some (.int r9) := ⟨_, e9.1⟩
  show VV G x (n1 + 9) (n2 + 51) h2 671 [(5, .int (nI c)), (4, .int (nI i)), (3, .ref o), (2, .ref (q 0)), (1, .ref (ad 0 0)), (0, .ref b)] [.int r9]
  refine r_istore C d_L_law_671 (lv' := [(6, .int r9), (5, .int (nI c)), (4, .int (nI i)), (3, .ref o), (2, .ref (q 0)), (1, .ref (ad 0 0)), (0, .ref b)]) (by decide) rfl ?_
  refine r_aload_n C d_L_law_673 4 rfl ?_
  refine r_callV C d_L_law_674 ok_RL_108 (fun l _ => m_thrown T9 l G q h2 m2) m2.1 rfl rfl (As := []) rfl (rest := []) rfl (Nat.le_of_ble_eq_true rfl) ⟨⟨by decide, by decide⟩, (show n1 + 9 + 0 ≤ 601024 by omega), (show n2 + 51 + 0 ≤ 7293034 by omega)⟩ (fun v9 h3 e9 => ?_)
  obtain ⟨T3, ⟨rfl, rfl⟩, m3, f3⟩ := e9
  rw [k0]
  show VV G x (n1 + 9) (n2 + 51) h3 677 [(6, .int r9), (5, .int (nI c)), (4, .int (nI i)), (3, .ref o), (2, .ref (q 0)), (1, .ref (ad 0 0)), (0, .ref b)] [.int (nI c)]
  have fr : mfr q h1 h3 := fun a n => (f3 a n).trans (f2 a n)
  refine r_iload C d_L_law_677 1 rfl ?_
  refine r_icmp_eq C d_L_law_679 (tgt := 684) rfl (fun _ => ?_) (fun z => absurd rfl z)
  have fin : VV G x (n1 + 9) (n2 + 51) h3 701 [(6, .int r9), (5, .int (nI c)), (4, .int (nI i)), (3, .ref o), (2, .ref (q 0)), (1, .ref (ad 0 0)), (0, .ref b)] [] := r_goto C d_L_law_701 (tgt := 1922) rfl (r_lv [2, 3, 4, 5, 6] rfl (r_widen (by omega) (by omega) (K _ h3 (law_next s wg ks m3 fr))))
  refine r_iload C d_L_law_684 1 rfl ?_
  refine rn_if_ne C d_L_law_686 (tgt := 701) rfl (by omega) (fun _ => fin) (fun c0 => ?_)
  have ho : h3 o = some (aJ G 1 f) := by rw [fr o (fun j hj => s.2.2.1 j hj)]; exact wg.2.2
  refine r_aload_n C d_L_law_689 3 rfl ?_
  refine r_iconst C d_L_law_690 (v := nI 0) rfl ?_
  refine r_lald C d_L_law_691 ho (i := 0) (by decide) (by decide) ?_
  refine r_iload C d_L_law_692 0 rfl ?_
  refine r_i2l C d_L_law_694 ?_
  refine r_lcmp C d_L_law_695 ?_
  rw [ka c0 r9 rfl, lg_cmp_0]
  exact r_if_eq C d_L_law_696 (tgt := 701) rfl (fun _ => fin) (fun z => absurd rfl z)
set_option maxHeartbeats 4000000 in
set_option maxRecDepth 100000 in
theorem lo_any {G : eG} {x : CX} {ad : Nat → Nat → Nat} {q : Nat → Nat} {o : Nat} {g : mS} {h : hp} {b L i n1 n2 : Nat} {xs : Nat → Int32} (C : cxOk G RL cL_law room_1 7 x) (B : cxS G b L xs x) (hlf : ∀ l, cxL l x → l.stackTraces = false) (s : lst ad q o) (w : lwo G ad q o g h) (hi : i + 6 ≤ L) (hL : L ≤ 3072) (hr : n1 + 18 ≤ 601024 ∧ n2 + 138 ≤ 7293034) (K : ∀ g h, lwo G ad q o g h → VV G x (n1 + 18) (n2 + 138) h 1922 [(4, .int (nI i)), (3, .ref o), (2, .ref (q 0)), (1, .ref (ad 0 0)), (0, .ref b)] []) : VV G x n1 n2 h 704 [(4, .int (nI i)), (3, .ref o), (2, .ref (q 0)), (1, .ref (ad 0 0)), (0, .ref b)] [] := by
  refine r_aload_n C d_L_law_704 3 rfl ?_
  refine r_aload_n C d_L_law_705 1 rfl ?_
  refine r_callSH C d_L_law_706 ok_RL_134 (fun l hl => lwx_any (hlf l hl) s w) (As := [.ref (ad 0 0), .ref o]) rfl (rest := []) rfl (Nat.le_of_ble_eq_true rfl) ⟨⟨by decide, by decide⟩, (show n1 + 7 ≤ 601024 by omega), (show n2 + 39 ≤ 7293034 by omega)⟩ (fun v9 h1 e9 => ?_)
  obtain ⟨c, g9, f, rfl, hc4, wg, K9⟩ := e9
  show VV G x (n1 + 7) (n2 + 39) h1 709 [(4, .int (nI i)), (3, .ref o), (2, .ref (q 0)), (1, .ref (ad 0 0)), (0, .ref b)] [.int (nI c)]
  refine r_istore C d_L_law_709 (lv' := [(5, .int (nI c)), (4, .int (nI i)), (3, .ref o), (2, .ref (q 0)), (1, .ref (ad 0 0)), (0, .ref b)]) (by decide) rfl ?_
  refine r_aload_n C d_L_law_711 3 rfl ?_
  refine r_callV C d_L_law_712 ok_RL_137 (fun l _ => m_any g w.2.1.1 l G q h1 wg.2.1) wg.2.1.1 rfl rfl (As := []) rfl (rest := []) rfl (Nat.le_of_ble_eq_true rfl) ⟨⟨by decide, by decide⟩, (show n1 + 7 + 0 ≤ 601024 by omega), (show n2 + 39 + 0 ≤ 7293034 by omega)⟩ (fun v9 h2 e9 => ?_)
  obtain ⟨T9, e9, m2, f2⟩ := e9
  obtain ⟨k0, ka, ks⟩ := K9 v9 T9 e9
  obtain ⟨r9, rfl⟩ : ∃ r9, v9 = some (.int r9) := ⟨_, e9.1⟩
  show VV G x (n1 + 7) (n2 + 39) h2 715 [(5, .int (nI c)), (4, .int (nI i)), (3, .ref o), (2, .ref (q 0)), (1, .ref (ad 0 0)), (0, .ref b)] [.int r9]
  refine r_istore C d_L_law_715 (lv' := [(6, .int r9), (5, .int (nI c)), (4, .int (nI i)), (3, .ref o), (2, .ref (q 0)), (1, .ref (ad 0 0)), (0, .ref b)]) (by decide) rfl ?_
  refine r_aload_n C d_L_law_717 4 rfl ?_
  refine r_callV C d_L_law_718 ok_RL_108 (fun l _ => m_thrown T9 l G q h2 m2) m2.1 rfl rfl (As := []) rfl (rest := []) rfl (Nat.le_of_ble_eq_true rfl) ⟨⟨by decide, by decide⟩, (show n1 + 7 + 0 ≤ 601024 by omega), (show n2 + 39 + 0 ≤ 7293034 by omega)⟩ (fun v9 h3 e9 => ?_)
  obtain ⟨T3, ⟨rfl, rfl⟩, m3, f3⟩ := e9
  rw [k0]
  show VV G x (n1 + 7) (n2 + 39) h3 721 [(6, .int r9), (5, .int (nI c)), (4, .int (nI i)), (3, .ref o), (2, .ref (q 0)), (1, .ref (ad 0 0)), (0, .ref b)] [.int (nI c)]
  have fr : mfr q h1 h3 := fun a n => (f3 a n).trans (f2 a n)
  refine r_iload C d_L_law_721 1 rfl ?_
  refine r_icmp_eq C d_L_law_723 (tgt := 728) rfl (fun _ => ?_) (fun z => absurd rfl z)
  have fin : VV G x (n1 + 7) (n2 + 39) h3 745 [(6, .int r9), (5, .int (nI c)), (4, .int (nI i)), (3, .ref o), (2, .ref (q 0)), (1, .ref (ad 0 0)), (0, .ref b)] [] := r_goto C d_L_law_745 (tgt := 1922) rfl (r_lv [2, 3, 4, 5, 6] rfl (r_widen (by omega) (by omega) (K _ h3 (law_next s wg ks m3 fr))))
  refine r_iload C d_L_law_728 1 rfl ?_
  refine rn_if_ne C d_L_law_730 (tgt := 745) rfl (by omega) (fun _ => fin) (fun c0 => ?_)
  have ho : h3 o = some (aJ G 1 f) := by rw [fr o (fun j hj => s.2.2.1 j hj)]; exact wg.2.2
  refine r_aload_n C d_L_law_733 3 rfl ?_
  refine r_iconst C d_L_law_734 (v := nI 0) rfl ?_
  refine r_lald C d_L_law_735 ho (i := 0) (by decide) (by decide) ?_
  refine r_iload C d_L_law_736 0 rfl ?_
  refine r_i2l C d_L_law_738 ?_
  refine r_lcmp C d_L_law_739 ?_
  rw [ka c0 r9 rfl, lg_cmp_0]
  exact r_if_eq C d_L_law_740 (tgt := 745) rfl (fun _ => fin) (fun z => absurd rfl z)
set_option maxHeartbeats 4000000 in
set_option maxRecDepth 100000 in
theorem lo_same {G : eG} {x : CX} {ad : Nat → Nat → Nat} {q : Nat → Nat} {o : Nat} {g : mS} {h : hp} {b L i n1 n2 : Nat} {xs : Nat → Int32} (C : cxOk G RL cL_law room_1 7 x) (B : cxS G b L xs x) (hlf : ∀ l, cxL l x → l.stackTraces = false) (s : lst ad q o) (w : lwo G ad q o g h) (hi : i + 6 ≤ L) (hL : L ≤ 3072) (hr : n1 + 18 ≤ 601024 ∧ n2 + 138 ≤ 7293034) (K : ∀ g h, lwo G ad q o g h → VV G x (n1 + 18) (n2 + 138) h 1922 [(4, .int (nI i)), (3, .ref o), (2, .ref (q 0)), (1, .ref (ad 0 0)), (0, .ref b)] []) : VV G x n1 n2 h 748 [(4, .int (nI i)), (3, .ref o), (2, .ref (q 0)), (1, .ref (ad 0 0)), (0, .ref b)] [] := by
  refine r_aload_n C d_L_law_748 3 rfl ?_
  refine r_aload_n C d_L_law_749 4 rfl ?_
  refine r_iload C d_L_law_750 0 rfl ?_
  refine r_iconst C d_L_law_752 (v := nI 1) rfl ?_
  refine rn_iadd C d_L_law_753 ?_
  refine r_sld C B d_L_law_754 (i := i + 1) (by omega) hL ?_
  refine r_aload_n C d_L_law_755 4 rfl ?_
  refine r_iload C d_L_law_756 0 rfl ?_
  refine r_iconst C d_L_law_758 (v := nI 2) rfl ?_
  refine rn_iadd C d_L_law_759 ?_
  refine r_sld C B d_L_law_760 (i := i + 2) (by omega) hL ?_
  refine r_aload_n C d_L_law_761 1 rfl ?_
  refine r_callSH C d_L_law_762 ok_RL_138 (fun l hl => lwx_same (hlf l hl) s w) (As := [.ref (ad 0 0), .int (xs (i + 1)), .int (xs (i + 2)), .ref o]) rfl (rest := []) rfl (Nat.le_of_ble_eq_true rfl) ⟨⟨by decide, by decide⟩, (show n1 + 9 ≤ 601024 by omega), (show n2 + 51 ≤ 7293034 by omega)⟩ (fun v9 h1 e9 => ?_)
  obtain ⟨c, g9, f, rfl, hc4, wg, K9⟩ := e9
  show VV G x (n1 + 9) (n2 + 51) h1 765 [(4, .int (nI i)), (3, .ref o), (2, .ref (q 0)), (1, .ref (ad 0 0)), (0, .ref b)] [.int (nI c)]
  refine r_istore C d_L_law_765 (lv' := [(5, .int (nI c)), (4, .int (nI i)), (3, .ref o), (2, .ref (q 0)), (1, .ref (ad 0 0)), (0, .ref b)]) (by decide) rfl ?_
  refine r_aload_n C d_L_law_767 3 rfl ?_
  refine r_aload_n C d_L_law_768 5 rfl ?_
  refine r_iload C d_L_law_769 1 rfl ?_
  refine r_iconst C d_L_law_771 (v := nI 1) rfl ?_
  refine rn_iadd C d_L_law_772 ?_
  refine r_sld C B d_L_law_773 (i := i + 1) (by omega) hL ?_
  refine r_aload_n C d_L_law_774 5 rfl ?_
  refine r_iload C d_L_law_775 1 rfl ?_
  refine r_iconst C d_L_law_777 (v := nI 2) rfl ?_
  refine rn_iadd C d_L_law_778 ?_
  refine r_sld C B d_L_law_779 (i := i + 2) (by omega) hL ?_
  refine r_callV C d_L_law_780 ok_RL_140 (fun l _ => m_same g (xs (i + 1)) (xs (i + 2)) w.2.1.1 l G q h1 wg.2.1) wg.2.1.1 rfl rfl (As := [.int (xs (i + 1)), .int (xs (i + 2))]) rfl (rest := []) rfl (Nat.le_of_ble_eq_true rfl) ⟨⟨by decide, by decide⟩, (show n1 + 9 + 0 ≤ 601024 by omega), (show n2 + 51 + 0 ≤ 7293034 by omega)⟩ (fun v9 h2 e9 => ?_)
  obtain ⟨T9, e9, m2, f2⟩ := e9
  obtain ⟨k0, ka, ks⟩ := K9 v9 T9 e9
  obtain ⟨r9, rfl⟩ : ∃ r9, v9 = some (.int r9) := ⟨_, e9.1⟩
  show VV G x (n1 + 9) (n2 + 51) h2 783 [(5, .int (nI c)), (4, .int (nI i)), (3, .ref o), (2, .ref (q 0)), (1, .ref (ad 0 0)), (0, .ref b)] [.int r9]
  refine r_istore C d_L_law_783 (lv' := [(6, .int r9), (5, .int (nI c)), (4, .int (nI i)), (3, .ref o), (2, .ref (q 0)), (1, .ref (ad 0 0)), (0, .ref b)]) (by decide) rfl ?_
  refine r_aload_n C d_L_law_785 4 rfl ?_
  refine r_callV C d_L_law_786 ok_RL_108 (fun l _ => m_thrown T9 l G q h2 m2) m2.1 rfl rfl (As := []) rfl (rest := []) rfl (Nat.le_of_ble_eq_true rfl) ⟨⟨by decide, by decide⟩, (show n1 + 9 + 0 ≤ 601024 by omega), (show n2 + 51 + 0 ≤ 7293034 by omega)⟩ (fun v9 h3 e9 => ?_)
  obtain ⟨T3, ⟨rfl, rfl⟩, m3, f3⟩ := e9
  rw [k0]
  show VV G x (n1 + 9) (n2 + 51) h3 789 [(6, .int r9), (5, .int (nI c)), (4, .int (nI i)), (3, .ref o), (2, .ref (q 0)), (1, .ref (ad 0 0)), (0, .ref b)] [.int (nI c)]
  have fr : mfr q h1 h3 := fun a n => (f3 a n).trans (f2 a n)
  refine r_iload C d_L_law_789 1 rfl ?_
  refine r_icmp_eq C d_L_law_791 (tgt := 796) rfl (fun _ => ?_) (fun z => absurd rfl z)
  have fin : VV G x (n1 + 9) (n2 + 51) h3 813 [(6, .int r9), (5, .int (nI c)), (4, .int (nI i)), (3, .ref o), (2, .ref (q 0)), (1, .ref (ad 0 0)), (0, .ref b)] [] := r_goto C d_L_law_813 (tgt := 1922) rfl (r_lv [2, 3, 4, 5, 6] rfl (r_widen (by omega) (by omega) (K _ h3 (law_next s wg ks m3 fr))))
  refine r_iload C d_L_law_796 1 rfl ?_
  refine rn_if_ne C d_L_law_798 (tgt := 813) rfl (by omega) (fun _ => fin) (fun c0 => ?_)
  have ho : h3 o = some (aJ G 1 f) := by rw [fr o (fun j hj => s.2.2.1 j hj)]; exact wg.2.2
  refine r_aload_n C d_L_law_801 3 rfl ?_
  refine r_iconst C d_L_law_802 (v := nI 0) rfl ?_
  refine r_lald C d_L_law_803 ho (i := 0) (by decide) (by decide) ?_
  refine r_iload C d_L_law_804 0 rfl ?_
  refine r_i2l C d_L_law_806 ?_
  refine r_lcmp C d_L_law_807 ?_
  rw [ka c0 r9 rfl, lg_cmp_0]
  exact r_if_eq C d_L_law_808 (tgt := 813) rfl (fun _ => fin) (fun z => absurd rfl z)
set_option maxHeartbeats 4000000 in
set_option maxRecDepth 100000 in
theorem lo_label {G : eG} {x : CX} {ad : Nat → Nat → Nat} {q : Nat → Nat} {o : Nat} {g : mS} {h : hp} {b L i n1 n2 : Nat} {xs : Nat → Int32} (C : cxOk G RL cL_law room_1 7 x) (B : cxS G b L xs x) (hlf : ∀ l, cxL l x → l.stackTraces = false) (s : lst ad q o) (w : lwo G ad q o g h) (hi : i + 6 ≤ L) (hL : L ≤ 3072) (hr : n1 + 18 ≤ 601024 ∧ n2 + 138 ≤ 7293034) (K : ∀ g h, lwo G ad q o g h → VV G x (n1 + 18) (n2 + 138) h 1922 [(4, .int (nI i)), (3, .ref o), (2, .ref (q 0)), (1, .ref (ad 0 0)), (0, .ref b)] []) : VV G x n1 n2 h 816 [(4, .int (nI i)), (3, .ref o), (2, .ref (q 0)), (1, .ref (ad 0 0)), (0, .ref b)] [] := by
  refine r_aload_n C d_L_law_816 3 rfl ?_
  refine r_aload_n C d_L_law_817 4 rfl ?_
  refine r_iload C d_L_law_818 0 rfl ?_
  refine r_iconst C d_L_law_820 (v := nI 1) rfl ?_
  refine rn_iadd C d_L_law_821 ?_
  refine r_sld C B d_L_law_822 (i := i + 1) (by omega) hL ?_
  refine r_callSH C d_L_law_823 ok_RL_141 (fun l hl => lwx_label (hlf l hl) s w) (As := [.ref (ad 0 0), .int (xs (i + 1))]) rfl (rest := []) rfl (Nat.le_of_ble_eq_true rfl) ⟨⟨by decide, by decide⟩, (show n1 + 8 ≤ 601024 by omega), (show n2 + 50 ≤ 7293034 by omega)⟩ (fun v9 h1 e9 => ?_)
  obtain ⟨c, g9, f, rfl, hc4, wg, K9⟩ := e9
  show VV G x (n1 + 8) (n2 + 50) h1 826 [(4, .int (nI i)), (3, .ref o), (2, .ref (q 0)), (1, .ref (ad 0 0)), (0, .ref b)] [.int (nI c)]
  refine r_istore C d_L_law_826 (lv' := [(5, .int (nI c)), (4, .int (nI i)), (3, .ref o), (2, .ref (q 0)), (1, .ref (ad 0 0)), (0, .ref b)]) (by decide) rfl ?_
  refine r_aload_n C d_L_law_828 3 rfl ?_
  refine r_aload_n C d_L_law_829 5 rfl ?_
  refine r_iload C d_L_law_830 1 rfl ?_
  refine r_iconst C d_L_law_832 (v := nI 1) rfl ?_
  refine rn_iadd C d_L_law_833 ?_
  refine r_sld C B d_L_law_834 (i := i + 1) (by omega) hL ?_
  refine r_callV C d_L_law_835 ok_RL_144 (fun l _ => m_label g (xs (i + 1)) w.2.1.1 l G q h1 wg.2.1) wg.2.1.1 rfl rfl (As := [.int (xs (i + 1))]) rfl (rest := []) rfl (Nat.le_of_ble_eq_true rfl) ⟨⟨by decide, by decide⟩, (show n1 + 8 + 0 ≤ 601024 by omega), (show n2 + 50 + 0 ≤ 7293034 by omega)⟩ (fun v9 h2 e9 => ?_)
  obtain ⟨T9, e9, m2, f2⟩ := e9
  obtain ⟨k0, ka, ks⟩ := K9 v9 T9 e9
  obtain ⟨rfl, e9⟩ := e9
  show VV G x (n1 + 8) (n2 + 50) h2 838 [(5, .int (nI c)), (4, .int (nI i)), (3, .ref o), (2, .ref (q 0)), (1, .ref (ad 0 0)), (0, .ref b)] []
  refine r_aload_n C d_L_law_838 3 rfl ?_
  refine r_callV C d_L_law_839 ok_RL_108 (fun l _ => m_thrown T9 l G q h2 m2) m2.1 rfl rfl (As := []) rfl (rest := []) rfl (Nat.le_of_ble_eq_true rfl) ⟨⟨by decide, by decide⟩, (show n1 + 8 + 0 ≤ 601024 by omega), (show n2 + 50 + 0 ≤ 7293034 by omega)⟩ (fun v9 h3 e9 => ?_)
  obtain ⟨T3, ⟨rfl, rfl⟩, m3, f3⟩ := e9
  rw [k0]
  show VV G x (n1 + 8) (n2 + 50) h3 842 [(5, .int (nI c)), (4, .int (nI i)), (3, .ref o), (2, .ref (q 0)), (1, .ref (ad 0 0)), (0, .ref b)] [.int (nI c)]
  have fr : mfr q h1 h3 := fun a n => (f3 a n).trans (f2 a n)
  refine r_iload C d_L_law_842 0 rfl ?_
  refine r_icmp_eq C d_L_law_844 (tgt := 849) rfl (fun _ => ?_) (fun z => absurd rfl z)
  have fin : VV G x (n1 + 8) (n2 + 50) h3 849 [(5, .int (nI c)), (4, .int (nI i)), (3, .ref o), (2, .ref (q 0)), (1, .ref (ad 0 0)), (0, .ref b)] [] := r_goto C d_L_law_849 (tgt := 1922) rfl (r_lv [1, 2, 3, 4, 5] rfl (r_widen (by omega) (by omega) (K _ h3 (law_next s wg ks m3 fr))))
  exact fin
set_option maxHeartbeats 4000000 in
set_option maxRecDepth 100000 in
theorem lo_both {G : eG} {x : CX} {ad : Nat → Nat → Nat} {q : Nat → Nat} {o : Nat} {g : mS} {h : hp} {b L i n1 n2 : Nat} {xs : Nat → Int32} (C : cxOk G RL cL_law room_1 7 x) (B : cxS G b L xs x) (hlf : ∀ l, cxL l x → l.stackTraces = false) (s : lst ad q o) (w : lwo G ad q o g h) (hi : i + 6 ≤ L) (hL : L ≤ 3072) (hr : n1 + 18 ≤ 601024 ∧ n2 + 138 ≤ 7293034) (K : ∀ g h, lwo G ad q o g h → VV G x (n1 + 18) (n2 + 138) h 1922 [(4, .int (nI i)), (3, .ref o), (2, .ref (q 0)), (1, .ref (ad 0 0)), (0, .ref b)] []) : VV G x n1 n2 h 852 [(4, .int (nI i)), (3, .ref o), (2, .ref (q 0)), (1, .ref (ad 0 0)), (0, .ref b)] [] := by
  refine r_aload_n C d_L_law_852 3 rfl ?_
  refine r_aload_n C d_L_law_853 1 rfl ?_
  refine r_callSH C d_L_law_854 ok_RL_145 (fun l hl => lwx_both (hlf l hl) s w) (As := [.ref (ad 0 0), .ref o]) rfl (rest := []) rfl (Nat.le_of_ble_eq_true rfl) ⟨⟨by decide, by decide⟩, (show n1 + 9 ≤ 601024 by omega), (show n2 + 56 ≤ 7293034 by omega)⟩ (fun v9 h1 e9 => ?_)
  obtain ⟨c, g9, f, rfl, hc4, wg, K9⟩ := e9
  show VV G x (n1 + 9) (n2 + 56) h1 857 [(4, .int (nI i)), (3, .ref o), (2, .ref (q 0)), (1, .ref (ad 0 0)), (0, .ref b)] [.int (nI c)]
  refine r_istore C d_L_law_857 (lv' := [(5, .int (nI c)), (4, .int (nI i)), (3, .ref o), (2, .ref (q 0)), (1, .ref (ad 0 0)), (0, .ref b)]) (by decide) rfl ?_
  refine r_aload_n C d_L_law_859 3 rfl ?_
  refine r_callV C d_L_law_860 ok_RL_147 (fun l _ => m_both g w.2.1.1 l G q h1 wg.2.1) wg.2.1.1 rfl rfl (As := []) rfl (rest := []) rfl (Nat.le_of_ble_eq_true rfl) ⟨⟨by decide, by decide⟩, (show n1 + 9 + 0 ≤ 601024 by omega), (show n2 + 56 + 0 ≤ 7293034 by omega)⟩ (fun v9 h2 e9 => ?_)
  obtain ⟨T9, e9, m2, f2⟩ := e9
  obtain ⟨k0, ka, ks⟩ := K9 v9 T9 e9
  obtain ⟨r9, rfl⟩ : ∃ r9, v9 = some (.int r9) := ⟨_, e9.1⟩
  show VV G x (n1 + 9) (n2 + 56) h2 863 [(5, .int (nI c)), (4, .int (nI i)), (3, .ref o), (2, .ref (q 0)), (1, .ref (ad 0 0)), (0, .ref b)] [.int r9]
  refine r_istore C d_L_law_863 (lv' := [(6, .int r9), (5, .int (nI c)), (4, .int (nI i)), (3, .ref o), (2, .ref (q 0)), (1, .ref (ad 0 0)), (0, .ref b)]) (by decide) rfl ?_
  refine r_aload_n C d_L_law_865 4 rfl ?_
  refine r_callV C d_L_law_866 ok_RL_108 (fun l _ => m_thrown T9 l G q h2 m2) m2.1 rfl rfl (As := []) rfl (rest := []) rfl (Nat.le_of_ble_eq_true rfl) ⟨⟨by decide, by decide⟩, (show n1 + 9 + 0 ≤ 601024 by omega), (show n2 + 56 + 0 ≤ 7293034 by omega)⟩ (fun v9 h3 e9 => ?_)
  obtain ⟨T3, ⟨rfl, rfl⟩, m3, f3⟩ := e9
  rw [k0]
  show VV G x (n1 + 9) (n2 + 56) h3 869 [(6, .int r9), (5, .int (nI c)), (4, .int (nI i)), (3, .ref o), (2, .ref (q 0)), (1, .ref (ad 0 0)), (0, .ref b)] [.int (nI c)]
  have fr : mfr q h1 h3 := fun a n => (f3 a n).trans (f2 a n)
  refine r_iload C d_L_law_869 1 rfl ?_
  refine r_icmp_eq C d_L_law_871 (tgt := 876) rfl (fun _ => ?_) (fun z => absurd rfl z)
  have fin : VV G x (n1 + 9) (n2 + 56) h3 893 [(6, .int r9), (5, .int (nI c)), (4, .int (nI i)), (3, .ref o), (2, .ref (q 0)), (1, .ref (ad 0 0)), (0, .ref b)] [] := r_goto C d_L_law_893 (tgt := 1922) rfl (r_lv [2, 3, 4, 5, 6] rfl (r_widen (by omega) (by omega) (K _ h3 (law_next s wg ks m3 fr))))
  refine r_iload C d_L_law_876 1 rfl ?_
  refine rn_if_ne C d_L_law_878 (tgt := 893) rfl (by omega) (fun _ => fin) (fun c0 => ?_)
  have ho : h3 o = some (aJ G 1 f) := by rw [fr o (fun j hj => s.2.2.1 j hj)]; exact wg.2.2
  refine r_aload_n C d_L_law_881 3 rfl ?_
  refine r_iconst C d_L_law_882 (v := nI 0) rfl ?_
  refine r_lald C d_L_law_883 ho (i := 0) (by decide) (by decide) ?_
  refine r_iload C d_L_law_884 0 rfl ?_
  refine r_i2l C d_L_law_886 ?_
  refine r_lcmp C d_L_law_887 ?_
  rw [ka c0 r9 rfl, lg_cmp_0]
  exact r_if_eq C d_L_law_888 (tgt := 893) rfl (fun _ => fin) (fun z => absurd rfl z)
set_option maxHeartbeats 4000000 in
set_option maxRecDepth 100000 in
theorem lo_chain {G : eG} {x : CX} {ad : Nat → Nat → Nat} {q : Nat → Nat} {o : Nat} {g : mS} {h : hp} {b L i n1 n2 : Nat} {xs : Nat → Int32} (C : cxOk G RL cL_law room_1 7 x) (B : cxS G b L xs x) (hlf : ∀ l, cxL l x → l.stackTraces = false) (s : lst ad q o) (w : lwo G ad q o g h) (hi : i + 6 ≤ L) (hL : L ≤ 3072) (hr : n1 + 18 ≤ 601024 ∧ n2 + 138 ≤ 7293034) (K : ∀ g h, lwo G ad q o g h → VV G x (n1 + 18) (n2 + 138) h 1922 [(4, .int (nI i)), (3, .ref o), (2, .ref (q 0)), (1, .ref (ad 0 0)), (0, .ref b)] []) : VV G x n1 n2 h 896 [(4, .int (nI i)), (3, .ref o), (2, .ref (q 0)), (1, .ref (ad 0 0)), (0, .ref b)] [] := by
  refine r_aload_n C d_L_law_896 3 rfl ?_
  refine r_aload_n C d_L_law_897 1 rfl ?_
  refine r_callSH C d_L_law_898 ok_RL_148 (fun l hl => lwx_chain (hlf l hl) s w) (As := [.ref (ad 0 0), .ref o]) rfl (rest := []) rfl (Nat.le_of_ble_eq_true rfl) ⟨⟨by decide, by decide⟩, (show n1 + 6 ≤ 601024 by omega), (show n2 + 42 ≤ 7293034 by omega)⟩ (fun v9 h1 e9 => ?_)
  obtain ⟨c, g9, f, rfl, hc4, wg, K9⟩ := e9
  show VV G x (n1 + 6) (n2 + 42) h1 901 [(4, .int (nI i)), (3, .ref o), (2, .ref (q 0)), (1, .ref (ad 0 0)), (0, .ref b)] [.int (nI c)]
  refine r_istore C d_L_law_901 (lv' := [(5, .int (nI c)), (4, .int (nI i)), (3, .ref o), (2, .ref (q 0)), (1, .ref (ad 0 0)), (0, .ref b)]) (by decide) rfl ?_
  refine r_aload_n C d_L_law_903 3 rfl ?_
  refine r_callV C d_L_law_904 ok_RL_150 (fun l _ => m_chain g w.2.1.1 l G q h1 wg.2.1) wg.2.1.1 rfl rfl (As := []) rfl (rest := []) rfl (Nat.le_of_ble_eq_true rfl) ⟨⟨by decide, by decide⟩, (show n1 + 6 + 0 ≤ 601024 by omega), (show n2 + 42 + 0 ≤ 7293034 by omega)⟩ (fun v9 h2 e9 => ?_)
  obtain ⟨T9, e9, m2, f2⟩ := e9
  obtain ⟨k0, ka, ks⟩ := K9 v9 T9 e9
  obtain ⟨r9, rfl⟩ : ∃ r9, v9 = some (.int r9) := ⟨_, e9.1⟩
  show VV G x (n1 + 6) (n2 + 42) h2 907 [(5, .int (nI c)), (4, .int (nI i)), (3, .ref o), (2, .ref (q 0)), (1, .ref (ad 0 0)), (0, .ref b)] [.int r9]
  refine r_istore C d_L_law_907 (lv' := [(6, .int r9), (5, .int (nI c)), (4, .int (nI i)), (3, .ref o), (2, .ref (q 0)), (1, .ref (ad 0 0)), (0, .ref b)]) (by decide) rfl ?_
  refine r_aload_n C d_L_law_909 4 rfl ?_
  refine r_callV C d_L_law_910 ok_RL_108 (fun l _ => m_thrown T9 l G q h2 m2) m2.1 rfl rfl (As := []) rfl (rest := []) rfl (Nat.le_of_ble_eq_true rfl) ⟨⟨by decide, by decide⟩, (show n1 + 6 + 0 ≤ 601024 by omega), (show n2 + 42 + 0 ≤ 7293034 by omega)⟩ (fun v9 h3 e9 => ?_)
  obtain ⟨T3, ⟨rfl, rfl⟩, m3, f3⟩ := e9
  rw [k0]
  show VV G x (n1 + 6) (n2 + 42) h3 913 [(6, .int r9), (5, .int (nI c)), (4, .int (nI i)), (3, .ref o), (2, .ref (q 0)), (1, .ref (ad 0 0)), (0, .ref b)] [.int (nI c)]
  have fr : mfr q h1 h3 := fun a n => (f3 a n).trans (f2 a n)
  refine r_iload C d_L_law_913 1 rfl ?_
  refine r_icmp_eq C d_L_law_915 (tgt := 920) rfl (fun _ => ?_) (fun z => absurd rfl z)
  have fin : VV G x (n1 + 6) (n2 + 42) h3 937 [(6, .int r9), (5, .int (nI c)), (4, .int (nI i)), (3, .ref o), (2, .ref (q 0)), (1, .ref (ad 0 0)), (0, .ref b)] [] := r_goto C d_L_law_937 (tgt := 1922) rfl (r_lv [2, 3, 4, 5, 6] rfl (r_widen (by omega) (by omega) (K _ h3 (law_next s wg ks m3 fr))))
  refine r_iload C d_L_law_920 1 rfl ?_
  refine rn_if_ne C d_L_law_922 (tgt := 937) rfl (by omega) (fun _ => fin) (fun c0 => ?_)
  have ho : h3 o = some (aJ G 1 f) := by rw [fr o (fun j hj => s.2.2.1 j hj)]; exact wg.2.2
  refine r_aload_n C d_L_law_925 3 rfl ?_
  refine r_iconst C d_L_law_926 (v := nI 0) rfl ?_
  refine r_lald C d_L_law_927 ho (i := 0) (by decide) (by decide) ?_
  refine r_iload C d_L_law_928 0 rfl ?_
  refine r_i2l C d_L_law_930 ?_
  refine r_lcmp C d_L_law_931 ?_
  rw [ka c0 r9 rfl, lg_cmp_0]
  exact r_if_eq C d_L_law_932 (tgt := 937) rfl (fun _ => fin) (fun z => absurd rfl z)
set_option maxHeartbeats 4000000 in
set_option maxRecDepth 100000 in
theorem lo_either {G : eG} {x : CX} {ad : Nat → Nat → Nat} {q : Nat → Nat} {o : Nat} {g : mS} {h : hp} {b L i n1 n2 : Nat} {xs : Nat → Int32} (C : cxOk G RL cL_law room_1 7 x) (B : cxS G b L xs x) (hlf : ∀ l, cxL l x → l.stackTraces = false) (s : lst ad q o) (w : lwo G ad q o g h) (hi : i + 6 ≤ L) (hL : L ≤ 3072) (hr : n1 + 18 ≤ 601024 ∧ n2 + 138 ≤ 7293034) (K : ∀ g h, lwo G ad q o g h → VV G x (n1 + 18) (n2 + 138) h 1922 [(4, .int (nI i)), (3, .ref o), (2, .ref (q 0)), (1, .ref (ad 0 0)), (0, .ref b)] []) : VV G x n1 n2 h 940 [(4, .int (nI i)), (3, .ref o), (2, .ref (q 0)), (1, .ref (ad 0 0)), (0, .ref b)] [] := by
  refine r_aload_n C d_L_law_940 3 rfl ?_
  refine r_aload_n C d_L_law_941 1 rfl ?_
  refine r_callSH C d_L_law_942 ok_RL_151 (fun l hl => lwx_either (hlf l hl) s w) (As := [.ref (ad 0 0), .ref o]) rfl (rest := []) rfl (Nat.le_of_ble_eq_true rfl) ⟨⟨by decide, by decide⟩, (show n1 + 6 ≤ 601024 by omega), (show n2 + 42 ≤ 7293034 by omega)⟩ (fun v9 h1 e9 => ?_)
  obtain ⟨c, g9, f, rfl, hc4, wg, K9⟩ := e9
  show VV G x (n1 + 6) (n2 + 42) h1 945 [(4, .int (nI i)), (3, .ref o), (2, .ref (q 0)), (1, .ref (ad 0 0)), (0, .ref b)] [.int (nI c)]
  refine r_istore C d_L_law_945 (lv' := [(5, .int (nI c)), (4, .int (nI i)), (3, .ref o), (2, .ref (q 0)), (1, .ref (ad 0 0)), (0, .ref b)]) (by decide) rfl ?_
  refine r_aload_n C d_L_law_947 3 rfl ?_
  refine r_callV C d_L_law_948 ok_RL_153 (fun l _ => m_either g w.2.1.1 l G q h1 wg.2.1) wg.2.1.1 rfl rfl (As := []) rfl (rest := []) rfl (Nat.le_of_ble_eq_true rfl) ⟨⟨by decide, by decide⟩, (show n1 + 6 + 0 ≤ 601024 by omega), (show n2 + 42 + 0 ≤ 7293034 by omega)⟩ (fun v9 h2 e9 => ?_)
  obtain ⟨T9, e9, m2, f2⟩ := e9
  obtain ⟨k0, ka, ks⟩ := K9 v9 T9 e9
  obtain ⟨r9, rfl⟩ : ∃ r9, v9 = some (.int r9) := ⟨_, e9.1⟩
  show VV G x (n1 + 6) (n2 + 42) h2 951 [(5, .int (nI c)), (4, .int (nI i)), (3, .ref o), (2, .ref (q 0)), (1, .ref (ad 0 0)), (0, .ref b)] [.int r9]
  refine r_istore C d_L_law_951 (lv' := [(6, .int r9), (5, .int (nI c)), (4, .int (nI i)), (3, .ref o), (2, .ref (q 0)), (1, .ref (ad 0 0)), (0, .ref b)]) (by decide) rfl ?_
  refine r_aload_n C d_L_law_953 4 rfl ?_
  refine r_callV C d_L_law_954 ok_RL_108 (fun l _ => m_thrown T9 l G q h2 m2) m2.1 rfl rfl (As := []) rfl (rest := []) rfl (Nat.le_of_ble_eq_true rfl) ⟨⟨by decide, by decide⟩, (show n1 + 6 + 0 ≤ 601024 by omega), (show n2 + 42 + 0 ≤ 7293034 by omega)⟩ (fun v9 h3 e9 => ?_)
  obtain ⟨T3, ⟨rfl, rfl⟩, m3, f3⟩ := e9
  rw [k0]
  show VV G x (n1 + 6) (n2 + 42) h3 957 [(6, .int r9), (5, .int (nI c)), (4, .int (nI i)), (3, .ref o), (2, .ref (q 0)), (1, .ref (ad 0 0)), (0, .ref b)] [.int (nI c)]
  have fr : mfr q h1 h3 := fun a n => (f3 a n).trans (f2 a n)
  refine r_iload C d_L_law_957 1 rfl ?_
  refine r_icmp_eq C d_L_law_959 (tgt := 964) rfl (fun _ => ?_) (fun z => absurd rfl z)
  have fin : VV G x (n1 + 6) (n2 + 42) h3 981 [(6, .int r9), (5, .int (nI c)), (4, .int (nI i)), (3, .ref o), (2, .ref (q 0)), (1, .ref (ad 0 0)), (0, .ref b)] [] := r_goto C d_L_law_981 (tgt := 1922) rfl (r_lv [2, 3, 4, 5, 6] rfl (r_widen (by omega) (by omega) (K _ h3 (law_next s wg ks m3 fr))))
  refine r_iload C d_L_law_964 1 rfl ?_
  refine rn_if_ne C d_L_law_966 (tgt := 981) rfl (by omega) (fun _ => fin) (fun c0 => ?_)
  have ho : h3 o = some (aJ G 1 f) := by rw [fr o (fun j hj => s.2.2.1 j hj)]; exact wg.2.2
  refine r_aload_n C d_L_law_969 3 rfl ?_
  refine r_iconst C d_L_law_970 (v := nI 0) rfl ?_
  refine r_lald C d_L_law_971 ho (i := 0) (by decide) (by decide) ?_
  refine r_iload C d_L_law_972 0 rfl ?_
  refine r_i2l C d_L_law_974 ?_
  refine r_lcmp C d_L_law_975 ?_
  rw [ka c0 r9 rfl, lg_cmp_0]
  exact r_if_eq C d_L_law_976 (tgt := 981) rfl (fun _ => fin) (fun z => absurd rfl z)
set_option maxHeartbeats 4000000 in
set_option maxRecDepth 100000 in
theorem lo_repeat {G : eG} {x : CX} {ad : Nat → Nat → Nat} {q : Nat → Nat} {o : Nat} {g : mS} {h : hp} {b L i n1 n2 : Nat} {xs : Nat → Int32} (C : cxOk G RL cL_law room_1 7 x) (B : cxS G b L xs x) (hlf : ∀ l, cxL l x → l.stackTraces = false) (s : lst ad q o) (w : lwo G ad q o g h) (hi : i + 6 ≤ L) (hL : L ≤ 3072) (hr : n1 + 18 ≤ 601024 ∧ n2 + 138 ≤ 7293034) (K : ∀ g h, lwo G ad q o g h → VV G x (n1 + 18) (n2 + 138) h 1922 [(4, .int (nI i)), (3, .ref o), (2, .ref (q 0)), (1, .ref (ad 0 0)), (0, .ref b)] []) : VV G x n1 n2 h 984 [(4, .int (nI i)), (3, .ref o), (2, .ref (q 0)), (1, .ref (ad 0 0)), (0, .ref b)] [] := by
  refine r_aload_n C d_L_law_984 3 rfl ?_
  refine r_aload_n C d_L_law_985 4 rfl ?_
  refine r_iload C d_L_law_986 0 rfl ?_
  refine r_iconst C d_L_law_988 (v := nI 1) rfl ?_
  refine rn_iadd C d_L_law_989 ?_
  refine r_sld C B d_L_law_990 (i := i + 1) (by omega) hL ?_
  refine r_aload_n C d_L_law_991 4 rfl ?_
  refine r_iload C d_L_law_992 0 rfl ?_
  refine r_iconst C d_L_law_994 (v := nI 2) rfl ?_
  refine rn_iadd C d_L_law_995 ?_
  refine r_sld C B d_L_law_996 (i := i + 2) (by omega) hL ?_
  refine r_aload_n C d_L_law_997 1 rfl ?_
  refine r_callSH C d_L_law_998 ok_RL_154 (fun l hl => lwx_repeat (hlf l hl) s w) (As := [.ref (ad 0 0), .int (xs (i + 1)), .int (xs (i + 2)), .ref o]) rfl (rest := []) rfl (Nat.le_of_ble_eq_true rfl) ⟨⟨by decide, by decide⟩, (show n1 + 18 ≤ 601024 by omega), (show n2 + 133 ≤ 7293034 by omega)⟩ (fun v9 h1 e9 => ?_)
  obtain ⟨c, g9, f, rfl, hc4, wg, K9⟩ := e9
  show VV G x (n1 + 18) (n2 + 133) h1 1001 [(4, .int (nI i)), (3, .ref o), (2, .ref (q 0)), (1, .ref (ad 0 0)), (0, .ref b)] [.int (nI c)]
  refine r_istore C d_L_law_1001 (lv' := [(5, .int (nI c)), (4, .int (nI i)), (3, .ref o), (2, .ref (q 0)), (1, .ref (ad 0 0)), (0, .ref b)]) (by decide) rfl ?_
  refine r_aload_n C d_L_law_1003 3 rfl ?_
  refine r_aload_n C d_L_law_1004 5 rfl ?_
  refine r_iload C d_L_law_1005 1 rfl ?_
  refine r_iconst C d_L_law_1007 (v := nI 1) rfl ?_
  refine rn_iadd C d_L_law_1008 ?_
  refine r_sld C B d_L_law_1009 (i := i + 1) (by omega) hL ?_
  refine r_aload_n C d_L_law_1010 5 rfl ?_
  refine r_iload C d_L_law_1011 1 rfl ?_
  refine r_iconst C d_L_law_1013 (v := nI 2) rfl ?_
  refine rn_iadd C d_L_law_1014 ?_
  refine r_sld C B d_L_law_1015 (i := i + 2) (by omega) hL ?_
  refine r_callV C d_L_law_1016 ok_RL_156 (fun l _ => m_repeat g (xs (i + 1)) (xs (i + 2)) w.2.1.1 l G q h1 wg.2.1) wg.2.1.1 rfl rfl (As := [.int (xs (i + 1)), .int (xs (i + 2))]) rfl (rest := []) rfl (Nat.le_of_ble_eq_true rfl) ⟨⟨by decide, by decide⟩, (show n1 + 18 + 0 ≤ 601024 by omega), (show n2 + 133 + 0 ≤ 7293034 by omega)⟩ (fun v9 h2 e9 => ?_)
  obtain ⟨T9, e9, m2, f2⟩ := e9
  obtain ⟨k0, ka, ks⟩ := K9 v9 T9 e9
  obtain ⟨r9, rfl⟩ : ∃ r9, v9 = some (.int r9) := ⟨_, e9.1⟩
  show VV G x (n1 + 18) (n2 + 133) h2 1019 [(5, .int (nI c)), (4, .int (nI i)), (3, .ref o), (2, .ref (q 0)), (1, .ref (ad 0 0)), (0, .ref b)] [.int r9]
  refine r_istore C d_L_law_1019 (lv' := [(6, .int r9), (5, .int (nI c)), (4, .int (nI i)), (3, .ref o), (2, .ref (q 0)), (1, .ref (ad 0 0)), (0, .ref b)]) (by decide) rfl ?_
  refine r_aload_n C d_L_law_1021 4 rfl ?_
  refine r_callV C d_L_law_1022 ok_RL_108 (fun l _ => m_thrown T9 l G q h2 m2) m2.1 rfl rfl (As := []) rfl (rest := []) rfl (Nat.le_of_ble_eq_true rfl) ⟨⟨by decide, by decide⟩, (show n1 + 18 + 0 ≤ 601024 by omega), (show n2 + 133 + 0 ≤ 7293034 by omega)⟩ (fun v9 h3 e9 => ?_)
  obtain ⟨T3, ⟨rfl, rfl⟩, m3, f3⟩ := e9
  rw [k0]
  show VV G x (n1 + 18) (n2 + 133) h3 1025 [(6, .int r9), (5, .int (nI c)), (4, .int (nI i)), (3, .ref o), (2, .ref (q 0)), (1, .ref (ad 0 0)), (0, .ref b)] [.int (nI c)]
  have fr : mfr q h1 h3 := fun a n => (f3 a n).trans (f2 a n)
  refine r_iload C d_L_law_1025 1 rfl ?_
  refine r_icmp_eq C d_L_law_1027 (tgt := 1032) rfl (fun _ => ?_) (fun z => absurd rfl z)
  have fin : VV G x (n1 + 18) (n2 + 133) h3 1049 [(6, .int r9), (5, .int (nI c)), (4, .int (nI i)), (3, .ref o), (2, .ref (q 0)), (1, .ref (ad 0 0)), (0, .ref b)] [] := r_goto C d_L_law_1049 (tgt := 1922) rfl (r_lv [2, 3, 4, 5, 6] rfl (r_widen (by omega) (by omega) (K _ h3 (law_next s wg ks m3 fr))))
  refine r_iload C d_L_law_1032 1 rfl ?_
  refine rn_if_ne C d_L_law_1034 (tgt := 1049) rfl (by omega) (fun _ => fin) (fun c0 => ?_)
  have ho : h3 o = some (aJ G 1 f) := by rw [fr o (fun j hj => s.2.2.1 j hj)]; exact wg.2.2
  refine r_aload_n C d_L_law_1037 3 rfl ?_
  refine r_iconst C d_L_law_1038 (v := nI 0) rfl ?_
  refine r_lald C d_L_law_1039 ho (i := 0) (by decide) (by decide) ?_
  refine r_iload C d_L_law_1040 0 rfl ?_
  refine r_i2l C d_L_law_1042 ?_
  refine r_lcmp C d_L_law_1043 ?_
  rw [ka c0 r9 rfl, lg_cmp_0]
  exact r_if_eq C d_L_law_1044 (tgt := 1049) rfl (fun _ => fin) (fun z => absurd rfl z)
set_option maxHeartbeats 4000000 in
set_option maxRecDepth 100000 in
theorem lo_keep {G : eG} {x : CX} {ad : Nat → Nat → Nat} {q : Nat → Nat} {o : Nat} {g : mS} {h : hp} {b L i n1 n2 : Nat} {xs : Nat → Int32} (C : cxOk G RL cL_law room_1 7 x) (B : cxS G b L xs x) (hlf : ∀ l, cxL l x → l.stackTraces = false) (s : lst ad q o) (w : lwo G ad q o g h) (hi : i + 6 ≤ L) (hL : L ≤ 3072) (hr : n1 + 18 ≤ 601024 ∧ n2 + 138 ≤ 7293034) (K : ∀ g h, lwo G ad q o g h → VV G x (n1 + 18) (n2 + 138) h 1922 [(4, .int (nI i)), (3, .ref o), (2, .ref (q 0)), (1, .ref (ad 0 0)), (0, .ref b)] []) : VV G x n1 n2 h 1052 [(4, .int (nI i)), (3, .ref o), (2, .ref (q 0)), (1, .ref (ad 0 0)), (0, .ref b)] [] := by
  refine r_aload_n C d_L_law_1052 3 rfl ?_
  refine r_aload_n C d_L_law_1053 1 rfl ?_
  refine r_callSH C d_L_law_1054 ok_RL_157 (fun l hl => lwx_keep (hlf l hl) s w) (As := [.ref (ad 0 0), .ref o]) rfl (rest := []) rfl (Nat.le_of_ble_eq_true rfl) ⟨⟨by decide, by decide⟩, (show n1 + 1 ≤ 601024 by omega), (show n2 + 6 ≤ 7293034 by omega)⟩ (fun v9 h1 e9 => ?_)
  obtain ⟨c, g9, f, rfl, hc4, wg, K9⟩ := e9
  show VV G x (n1 + 1) (n2 + 6) h1 1057 [(4, .int (nI i)), (3, .ref o), (2, .ref (q 0)), (1, .ref (ad 0 0)), (0, .ref b)] [.int (nI c)]
  refine r_istore C d_L_law_1057 (lv' := [(5, .int (nI c)), (4, .int (nI i)), (3, .ref o), (2, .ref (q 0)), (1, .ref (ad 0 0)), (0, .ref b)]) (by decide) rfl ?_
  refine r_aload_n C d_L_law_1059 3 rfl ?_
  refine r_callV C d_L_law_1060 ok_RL_159 (fun l _ => m_keep g w.2.1.1 l G q h1 wg.2.1) wg.2.1.1 rfl rfl (As := []) rfl (rest := []) rfl (Nat.le_of_ble_eq_true rfl) ⟨⟨by decide, by decide⟩, (show n1 + 1 + 0 ≤ 601024 by omega), (show n2 + 6 + 0 ≤ 7293034 by omega)⟩ (fun v9 h2 e9 => ?_)
  obtain ⟨T9, e9, m2, f2⟩ := e9
  obtain ⟨k0, ka, ks⟩ := K9 v9 T9 e9
  obtain ⟨r9, rfl⟩ : ∃ r9, v9 = some (.int r9) := ⟨_, e9.1⟩
  show VV G x (n1 + 1) (n2 + 6) h2 1063 [(5, .int (nI c)), (4, .int (nI i)), (3, .ref o), (2, .ref (q 0)), (1, .ref (ad 0 0)), (0, .ref b)] [.int r9]
  refine r_istore C d_L_law_1063 (lv' := [(6, .int r9), (5, .int (nI c)), (4, .int (nI i)), (3, .ref o), (2, .ref (q 0)), (1, .ref (ad 0 0)), (0, .ref b)]) (by decide) rfl ?_
  refine r_aload_n C d_L_law_1065 4 rfl ?_
  refine r_callV C d_L_law_1066 ok_RL_108 (fun l _ => m_thrown T9 l G q h2 m2) m2.1 rfl rfl (As := []) rfl (rest := []) rfl (Nat.le_of_ble_eq_true rfl) ⟨⟨by decide, by decide⟩, (show n1 + 1 + 0 ≤ 601024 by omega), (show n2 + 6 + 0 ≤ 7293034 by omega)⟩ (fun v9 h3 e9 => ?_)
  obtain ⟨T3, ⟨rfl, rfl⟩, m3, f3⟩ := e9
  rw [k0]
  show VV G x (n1 + 1) (n2 + 6) h3 1069 [(6, .int r9), (5, .int (nI c)), (4, .int (nI i)), (3, .ref o), (2, .ref (q 0)), (1, .ref (ad 0 0)), (0, .ref b)] [.int (nI c)]
  have fr : mfr q h1 h3 := fun a n => (f3 a n).trans (f2 a n)
  refine r_iload C d_L_law_1069 1 rfl ?_
  refine r_icmp_eq C d_L_law_1071 (tgt := 1076) rfl (fun _ => ?_) (fun z => absurd rfl z)
  have fin : VV G x (n1 + 1) (n2 + 6) h3 1093 [(6, .int r9), (5, .int (nI c)), (4, .int (nI i)), (3, .ref o), (2, .ref (q 0)), (1, .ref (ad 0 0)), (0, .ref b)] [] := r_goto C d_L_law_1093 (tgt := 1922) rfl (r_lv [2, 3, 4, 5, 6] rfl (r_widen (by omega) (by omega) (K _ h3 (law_next s wg ks m3 fr))))
  refine r_iload C d_L_law_1076 1 rfl ?_
  refine rn_if_ne C d_L_law_1078 (tgt := 1093) rfl (by omega) (fun _ => fin) (fun c0 => ?_)
  have ho : h3 o = some (aJ G 1 f) := by rw [fr o (fun j hj => s.2.2.1 j hj)]; exact wg.2.2
  refine r_aload_n C d_L_law_1081 3 rfl ?_
  refine r_iconst C d_L_law_1082 (v := nI 0) rfl ?_
  refine r_lald C d_L_law_1083 ho (i := 0) (by decide) (by decide) ?_
  refine r_iload C d_L_law_1084 0 rfl ?_
  refine r_i2l C d_L_law_1086 ?_
  refine r_lcmp C d_L_law_1087 ?_
  rw [ka c0 r9 rfl, lg_cmp_0]
  exact r_if_eq C d_L_law_1088 (tgt := 1093) rfl (fun _ => fin) (fun z => absurd rfl z)
set_option maxHeartbeats 4000000 in
set_option maxRecDepth 100000 in
theorem lo_wipe {G : eG} {x : CX} {ad : Nat → Nat → Nat} {q : Nat → Nat} {o : Nat} {g : mS} {h : hp} {b L i n1 n2 : Nat} {xs : Nat → Int32} (C : cxOk G RL cL_law room_1 7 x) (B : cxS G b L xs x) (hlf : ∀ l, cxL l x → l.stackTraces = false) (s : lst ad q o) (w : lwo G ad q o g h) (hi : i + 6 ≤ L) (hL : L ≤ 3072) (hr : n1 + 18 ≤ 601024 ∧ n2 + 138 ≤ 7293034) (K : ∀ g h, lwo G ad q o g h → VV G x (n1 + 18) (n2 + 138) h 1922 [(4, .int (nI i)), (3, .ref o), (2, .ref (q 0)), (1, .ref (ad 0 0)), (0, .ref b)] []) : VV G x n1 n2 h 1096 [(4, .int (nI i)), (3, .ref o), (2, .ref (q 0)), (1, .ref (ad 0 0)), (0, .ref b)] [] := by
  obtain ⟨⟨f, w1⟩, A, T, X, Y, k⟩ := w
  refine r_aload_n C d_L_law_1096 3 rfl ?_
  refine r_callV C d_L_law_1097 ok_RL_160 (fun l _ => k_wipe w1.1 (pile_le A.1)) (w1.1.1 0 0 rfl) rfl rfl (As := []) rfl (rest := []) rfl (Nat.le_of_ble_eq_true rfl) ⟨⟨by decide, by decide⟩, (show n1 + 0 ≤ 601024 by omega), (show n2 + 0 ≤ 7293034 by omega)⟩ (fun v9 h1 e9 => ?_)
  obtain ⟨g9, ⟨rfl, rfl⟩, hm1, hF⟩ := e9
  have wg := lge_cfr s w1 hF hm1
  show VV G x n1 n2 h1 1100 [(4, .int (nI i)), (3, .ref o), (2, .ref (q 0)), (1, .ref (ad 0 0)), (0, .ref b)] [.int (nI (mK g 16))]
  refine r_aload_n C d_L_law_1100 2 rfl ?_
  refine r_callV C d_L_law_1101 ok_RL_163 (fun l _ => m_wipe g l G q h1 wg.2.1) wg.2.1.1 rfl rfl (As := []) rfl (rest := [.int (nI (mK g 16))]) rfl (Nat.le_of_ble_eq_true rfl) ⟨⟨by decide, by decide⟩, (show n1 + 0 ≤ 601024 by omega), (show n2 + 0 ≤ 7293034 by omega)⟩ (fun v9 h2 e9 => ?_)
  obtain ⟨T9, ⟨rfl, rfl⟩, m2, f2⟩ := e9
  show VV G x n1 n2 h2 1104 [(4, .int (nI i)), (3, .ref o), (2, .ref (q 0)), (1, .ref (ad 0 0)), (0, .ref b)] [.int (nI (mK g 16)), .int (nI (mK g 16))]
  have ks : stpO G ad h1 (uK (uK g 0 0) 16 0) (poS g (mK g 16)) := (fun ⟨a, b, c⟩ => ⟨a, b, T, X, Y, c⟩) (step_wipe A k hF)
  exact r_icmp_eq C d_L_law_1104 (tgt := 1922) rfl (fun _ => r_widen (by omega) (by omega) (K _ h2 (law_next s wg ks m2 f2))) (fun z => absurd rfl z)
set_option maxHeartbeats 4000000 in
set_option maxRecDepth 100000 in
theorem lo_run {G : eG} {x : CX} {ad : Nat → Nat → Nat} {q : Nat → Nat} {o : Nat} {g : mS} {h : hp} {b L i n1 n2 : Nat} {xs : Nat → Int32} (C : cxOk G RL cL_law room_1 7 x) (B : cxS G b L xs x) (hlf : ∀ l, cxL l x → l.stackTraces = false) (s : lst ad q o) (w : lwo G ad q o g h) (hi : i + 6 ≤ L) (hL : L ≤ 3072) (hr : n1 + 18 ≤ 601024 ∧ n2 + 138 ≤ 7293034) (K : ∀ g h, lwo G ad q o g h → VV G x (n1 + 18) (n2 + 138) h 1922 [(4, .int (nI i)), (3, .ref o), (2, .ref (q 0)), (1, .ref (ad 0 0)), (0, .ref b)] []) : VV G x n1 n2 h 1109 [(4, .int (nI i)), (3, .ref o), (2, .ref (q 0)), (1, .ref (ad 0 0)), (0, .ref b)] [] := by
  refine r_aload_n C d_L_law_1109 3 rfl ?_
  refine r_aload_n C d_L_law_1110 4 rfl ?_
  refine r_iload C d_L_law_1111 0 rfl ?_
  refine r_iconst C d_L_law_1113 (v := nI 1) rfl ?_
  refine rn_iadd C d_L_law_1114 ?_
  refine r_sld C B d_L_law_1115 (i := i + 1) (by omega) hL ?_
  refine r_aload_n C d_L_law_1116 4 rfl ?_
  refine r_iload C d_L_law_1117 0 rfl ?_
  refine r_iconst C d_L_law_1119 (v := nI 2) rfl ?_
  refine rn_iadd C d_L_law_1120 ?_
  refine r_sld C B d_L_law_1121 (i := i + 2) (by omega) hL ?_
  refine r_aload_n C d_L_law_1122 4 rfl ?_
  refine r_iload C d_L_law_1123 0 rfl ?_
  refine r_iconst C d_L_law_1125 (v := nI 3) rfl ?_
  refine rn_iadd C d_L_law_1126 ?_
  refine r_sld C B d_L_law_1127 (i := i + 3) (by omega) hL ?_
  refine r_aload_n C d_L_law_1128 4 rfl ?_
  refine r_iload C d_L_law_1129 0 rfl ?_
  refine r_iconst C d_L_law_1131 (v := nI 4) rfl ?_
  refine rn_iadd C d_L_law_1132 ?_
  refine r_sld C B d_L_law_1133 (i := i + 4) (by omega) hL ?_
  refine r_aload_n C d_L_law_1134 4 rfl ?_
  refine r_iload C d_L_law_1135 0 rfl ?_
  refine r_iconst C d_L_law_1137 (v := nI 5) rfl ?_
  refine rn_iadd C d_L_law_1138 ?_
  refine r_sld C B d_L_law_1139 (i := i + 5) (by omega) hL ?_
  refine r_tob (a := xs (i + 5)) C d_L_law_1140 rfl d_L_law_1143 d_L_law_1144 rfl d_L_law_1147 ?_
  refine r_aload_n C d_L_law_1148 1 rfl ?_
  refine r_callSH C d_L_law_1149 ok_RL_164 (fun l hl => lwx_run (hlf l hl) s w) (As := [.ref (ad 0 0), .int (xs (i + 1)), .int (xs (i + 2)), .int (xs (i + 3)), .int (xs (i + 4)), .int (bI (decide (xs (i + 5) ≠ 0))), .ref o]) rfl (rest := []) rfl (Nat.le_of_ble_eq_true rfl) ⟨⟨by decide, by decide⟩, (show n1 + 4 ≤ 601024 by omega), (show n2 + 24 ≤ 7293034 by omega)⟩ (fun v9 h1 e9 => ?_)
  obtain ⟨c, g9, f, rfl, hc4, wg, K9⟩ := e9
  show VV G x (n1 + 4) (n2 + 24) h1 1152 [(4, .int (nI i)), (3, .ref o), (2, .ref (q 0)), (1, .ref (ad 0 0)), (0, .ref b)] [.int (nI c)]
  refine r_istore C d_L_law_1152 (lv' := [(5, .int (nI c)), (4, .int (nI i)), (3, .ref o), (2, .ref (q 0)), (1, .ref (ad 0 0)), (0, .ref b)]) (by decide) rfl ?_
  refine r_aload_n C d_L_law_1154 3 rfl ?_
  refine r_aload_n C d_L_law_1155 5 rfl ?_
  refine r_iload C d_L_law_1156 1 rfl ?_
  refine r_iconst C d_L_law_1158 (v := nI 1) rfl ?_
  refine rn_iadd C d_L_law_1159 ?_
  refine r_sld C B d_L_law_1160 (i := i + 1) (by omega) hL ?_
  refine r_aload_n C d_L_law_1161 5 rfl ?_
  refine r_iload C d_L_law_1162 1 rfl ?_
  refine r_iconst C d_L_law_1164 (v := nI 2) rfl ?_
  refine rn_iadd C d_L_law_1165 ?_
  refine r_sld C B d_L_law_1166 (i := i + 2) (by omega) hL ?_
  refine r_aload_n C d_L_law_1167 5 rfl ?_
  refine r_iload C d_L_law_1168 1 rfl ?_
  refine r_iconst C d_L_law_1170 (v := nI 3) rfl ?_
  refine rn_iadd C d_L_law_1171 ?_
  refine r_sld C B d_L_law_1172 (i := i + 3) (by omega) hL ?_
  refine r_aload_n C d_L_law_1173 5 rfl ?_
  refine r_iload C d_L_law_1174 1 rfl ?_
  refine r_iconst C d_L_law_1176 (v := nI 4) rfl ?_
  refine rn_iadd C d_L_law_1177 ?_
  refine r_sld C B d_L_law_1178 (i := i + 4) (by omega) hL ?_
  refine r_aload_n C d_L_law_1179 5 rfl ?_
  refine r_iload C d_L_law_1180 1 rfl ?_
  refine r_iconst C d_L_law_1182 (v := nI 5) rfl ?_
  refine rn_iadd C d_L_law_1183 ?_
  refine r_sld C B d_L_law_1184 (i := i + 5) (by omega) hL ?_
  refine r_tob (a := xs (i + 5)) C d_L_law_1185 rfl d_L_law_1188 d_L_law_1189 rfl d_L_law_1192 ?_
  refine r_callV C d_L_law_1193 ok_RL_167 (fun l _ => m_run g (xs (i + 1)) (xs (i + 2)) (xs (i + 3)) (xs (i + 4)) (decide (xs (i + 5) ≠ 0)) w.2.1.1 l G q h1 wg.2.1) wg.2.1.1 rfl rfl (As := [.int (xs (i + 1)), .int (xs (i + 2)), .int (xs (i + 3)), .int (xs (i + 4)), .int (bI (decide (xs (i + 5) ≠ 0)))]) rfl (rest := []) rfl (Nat.le_of_ble_eq_true rfl) ⟨⟨by decide, by decide⟩, (show n1 + 4 + 0 ≤ 601024 by omega), (show n2 + 24 + 0 ≤ 7293034 by omega)⟩ (fun v9 h2 e9 => ?_)
  obtain ⟨T9, e9, m2, f2⟩ := e9
  obtain ⟨k0, ka, ks⟩ := K9 v9 T9 e9
  obtain ⟨r9, rfl⟩ : ∃ r9, v9 = some (.int r9) := ⟨_, e9.1⟩
  show VV G x (n1 + 4) (n2 + 24) h2 1196 [(5, .int (nI c)), (4, .int (nI i)), (3, .ref o), (2, .ref (q 0)), (1, .ref (ad 0 0)), (0, .ref b)] [.int r9]
  refine r_istore C d_L_law_1196 (lv' := [(6, .int r9), (5, .int (nI c)), (4, .int (nI i)), (3, .ref o), (2, .ref (q 0)), (1, .ref (ad 0 0)), (0, .ref b)]) (by decide) rfl ?_
  refine r_aload_n C d_L_law_1198 4 rfl ?_
  refine r_callV C d_L_law_1199 ok_RL_108 (fun l _ => m_thrown T9 l G q h2 m2) m2.1 rfl rfl (As := []) rfl (rest := []) rfl (Nat.le_of_ble_eq_true rfl) ⟨⟨by decide, by decide⟩, (show n1 + 4 + 0 ≤ 601024 by omega), (show n2 + 24 + 0 ≤ 7293034 by omega)⟩ (fun v9 h3 e9 => ?_)
  obtain ⟨T3, ⟨rfl, rfl⟩, m3, f3⟩ := e9
  rw [k0]
  show VV G x (n1 + 4) (n2 + 24) h3 1202 [(6, .int r9), (5, .int (nI c)), (4, .int (nI i)), (3, .ref o), (2, .ref (q 0)), (1, .ref (ad 0 0)), (0, .ref b)] [.int (nI c)]
  have fr : mfr q h1 h3 := fun a n => (f3 a n).trans (f2 a n)
  refine r_iload C d_L_law_1202 1 rfl ?_
  refine r_icmp_eq C d_L_law_1204 (tgt := 1209) rfl (fun _ => ?_) (fun z => absurd rfl z)
  have fin : VV G x (n1 + 4) (n2 + 24) h3 1226 [(6, .int r9), (5, .int (nI c)), (4, .int (nI i)), (3, .ref o), (2, .ref (q 0)), (1, .ref (ad 0 0)), (0, .ref b)] [] := r_goto C d_L_law_1226 (tgt := 1922) rfl (r_lv [2, 3, 4, 5, 6] rfl (r_widen (by omega) (by omega) (K _ h3 (law_next s wg ks m3 fr))))
  refine r_iload C d_L_law_1209 1 rfl ?_
  refine rn_if_ne C d_L_law_1211 (tgt := 1226) rfl (by omega) (fun _ => fin) (fun c0 => ?_)
  have ho : h3 o = some (aJ G 1 f) := by rw [fr o (fun j hj => s.2.2.1 j hj)]; exact wg.2.2
  refine r_aload_n C d_L_law_1214 3 rfl ?_
  refine r_iconst C d_L_law_1215 (v := nI 0) rfl ?_
  refine r_lald C d_L_law_1216 ho (i := 0) (by decide) (by decide) ?_
  refine r_iload C d_L_law_1217 0 rfl ?_
  refine r_i2l C d_L_law_1219 ?_
  refine r_lcmp C d_L_law_1220 ?_
  rw [ka c0 r9 rfl, lg_cmp_0]
  exact r_if_eq C d_L_law_1221 (tgt := 1226) rfl (fun _ => fin) (fun z => absurd rfl z)
set_option maxHeartbeats 4000000 in
set_option maxRecDepth 100000 in
theorem lo_walk {G : eG} {x : CX} {ad : Nat → Nat → Nat} {q : Nat → Nat} {o : Nat} {g : mS} {h : hp} {b L i n1 n2 : Nat} {xs : Nat → Int32} (C : cxOk G RL cL_law room_1 7 x) (B : cxS G b L xs x) (hlf : ∀ l, cxL l x → l.stackTraces = false) (s : lst ad q o) (w : lwo G ad q o g h) (hi : i + 6 ≤ L) (hL : L ≤ 3072) (hr : n1 + 18 ≤ 601024 ∧ n2 + 138 ≤ 7293034) (K : ∀ g h, lwo G ad q o g h → VV G x (n1 + 18) (n2 + 138) h 1922 [(4, .int (nI i)), (3, .ref o), (2, .ref (q 0)), (1, .ref (ad 0 0)), (0, .ref b)] []) : VV G x n1 n2 h 1229 [(4, .int (nI i)), (3, .ref o), (2, .ref (q 0)), (1, .ref (ad 0 0)), (0, .ref b)] [] := by
  refine r_aload_n C d_L_law_1229 3 rfl ?_
  refine r_aload_n C d_L_law_1230 4 rfl ?_
  refine r_iload C d_L_law_1231 0 rfl ?_
  refine r_iconst C d_L_law_1233 (v := nI 1) rfl ?_
  refine rn_iadd C d_L_law_1234 ?_
  refine r_sld C B d_L_law_1235 (i := i + 1) (by omega) hL ?_
  refine r_aload_n C d_L_law_1236 4 rfl ?_
  refine r_iload C d_L_law_1237 0 rfl ?_
  refine r_iconst C d_L_law_1239 (v := nI 2) rfl ?_
  refine rn_iadd C d_L_law_1240 ?_
  refine r_sld C B d_L_law_1241 (i := i + 2) (by omega) hL ?_
  refine r_aload_n C d_L_law_1242 4 rfl ?_
  refine r_iload C d_L_law_1243 0 rfl ?_
  refine r_iconst C d_L_law_1245 (v := nI 3) rfl ?_
  refine rn_iadd C d_L_law_1246 ?_
  refine r_sld C B d_L_law_1247 (i := i + 3) (by omega) hL ?_
  refine r_aload_n C d_L_law_1248 4 rfl ?_
  refine r_iload C d_L_law_1249 0 rfl ?_
  refine r_iconst C d_L_law_1251 (v := nI 4) rfl ?_
  refine rn_iadd C d_L_law_1252 ?_
  refine r_sld C B d_L_law_1253 (i := i + 4) (by omega) hL ?_
  refine r_tob (a := xs (i + 4)) C d_L_law_1254 rfl d_L_law_1257 d_L_law_1258 rfl d_L_law_1261 ?_
  refine r_aload_n C d_L_law_1262 1 rfl ?_
  refine r_callSH C d_L_law_1263 ok_RL_168 (fun l hl => lwx_walk (hlf l hl) s w) (As := [.ref (ad 0 0), .int (xs (i + 1)), .int (xs (i + 2)), .int (xs (i + 3)), .int (bI (decide (xs (i + 4) ≠ 0))), .ref o]) rfl (rest := []) rfl (Nat.le_of_ble_eq_true rfl) ⟨⟨by decide, by decide⟩, (show n1 + 3 ≤ 601024 by omega), (show n2 + 18 ≤ 7293034 by omega)⟩ (fun v9 h1 e9 => ?_)
  obtain ⟨c, g9, f, rfl, hc4, wg, K9⟩ := e9
  show VV G x (n1 + 3) (n2 + 18) h1 1266 [(4, .int (nI i)), (3, .ref o), (2, .ref (q 0)), (1, .ref (ad 0 0)), (0, .ref b)] [.int (nI c)]
  refine r_istore C d_L_law_1266 (lv' := [(5, .int (nI c)), (4, .int (nI i)), (3, .ref o), (2, .ref (q 0)), (1, .ref (ad 0 0)), (0, .ref b)]) (by decide) rfl ?_
  refine r_aload_n C d_L_law_1268 3 rfl ?_
  refine r_aload_n C d_L_law_1269 5 rfl ?_
  refine r_iload C d_L_law_1270 1 rfl ?_
  refine r_iconst C d_L_law_1272 (v := nI 1) rfl ?_
  refine rn_iadd C d_L_law_1273 ?_
  refine r_sld C B d_L_law_1274 (i := i + 1) (by omega) hL ?_
  refine r_aload_n C d_L_law_1275 5 rfl ?_
  refine r_iload C d_L_law_1276 1 rfl ?_
  refine r_iconst C d_L_law_1278 (v := nI 2) rfl ?_
  refine rn_iadd C d_L_law_1279 ?_
  refine r_sld C B d_L_law_1280 (i := i + 2) (by omega) hL ?_
  refine r_aload_n C d_L_law_1281 5 rfl ?_
  refine r_iload C d_L_law_1282 1 rfl ?_
  refine r_iconst C d_L_law_1284 (v := nI 3) rfl ?_
  refine rn_iadd C d_L_law_1285 ?_
  refine r_sld C B d_L_law_1286 (i := i + 3) (by omega) hL ?_
  refine r_aload_n C d_L_law_1287 5 rfl ?_
  refine r_iload C d_L_law_1288 1 rfl ?_
  refine r_iconst C d_L_law_1290 (v := nI 4) rfl ?_
  refine rn_iadd C d_L_law_1291 ?_
  refine r_sld C B d_L_law_1292 (i := i + 4) (by omega) hL ?_
  refine r_tob (a := xs (i + 4)) C d_L_law_1293 rfl d_L_law_1296 d_L_law_1297 rfl d_L_law_1300 ?_
  refine r_callV C d_L_law_1301 ok_RL_171 (fun l _ => m_walk g (xs (i + 1)) (xs (i + 2)) (xs (i + 3)) (decide (xs (i + 4) ≠ 0)) w.2.1.1 l G q h1 wg.2.1) wg.2.1.1 rfl rfl (As := [.int (xs (i + 1)), .int (xs (i + 2)), .int (xs (i + 3)), .int (bI (decide (xs (i + 4) ≠ 0)))]) rfl (rest := []) rfl (Nat.le_of_ble_eq_true rfl) ⟨⟨by decide, by decide⟩, (show n1 + 3 + 0 ≤ 601024 by omega), (show n2 + 18 + 0 ≤ 7293034 by omega)⟩ (fun v9 h2 e9 => ?_)
  obtain ⟨T9, e9, m2, f2⟩ := e9
  obtain ⟨k0, ka, ks⟩ := K9 v9 T9 e9
  obtain ⟨r9, rfl⟩ : ∃ r9, v9 = some (.int r9) := ⟨_, e9.1⟩
  show VV G x (n1 + 3) (n2 + 18) h2 1304 [(5, .int (nI c)), (4, .int (nI i)), (3, .ref o), (2, .ref (q 0)), (1, .ref (ad 0 0)), (0, .ref b)] [.int r9]
  refine r_istore C d_L_law_1304 (lv' := [(6, .int r9), (5, .int (nI c)), (4, .int (nI i)), (3, .ref o), (2, .ref (q 0)), (1, .ref (ad 0 0)), (0, .ref b)]) (by decide) rfl ?_
  refine r_aload_n C d_L_law_1306 4 rfl ?_
  refine r_callV C d_L_law_1307 ok_RL_108 (fun l _ => m_thrown T9 l G q h2 m2) m2.1 rfl rfl (As := []) rfl (rest := []) rfl (Nat.le_of_ble_eq_true rfl) ⟨⟨by decide, by decide⟩, (show n1 + 3 + 0 ≤ 601024 by omega), (show n2 + 18 + 0 ≤ 7293034 by omega)⟩ (fun v9 h3 e9 => ?_)
  obtain ⟨T3, ⟨rfl, rfl⟩, m3, f3⟩ := e9
  rw [k0]
  show VV G x (n1 + 3) (n2 + 18) h3 1310 [(6, .int r9), (5, .int (nI c)), (4, .int (nI i)), (3, .ref o), (2, .ref (q 0)), (1, .ref (ad 0 0)), (0, .ref b)] [.int (nI c)]
  have fr : mfr q h1 h3 := fun a n => (f3 a n).trans (f2 a n)
  refine r_iload C d_L_law_1310 1 rfl ?_
  refine r_icmp_eq C d_L_law_1312 (tgt := 1317) rfl (fun _ => ?_) (fun z => absurd rfl z)
  have fin : VV G x (n1 + 3) (n2 + 18) h3 1334 [(6, .int r9), (5, .int (nI c)), (4, .int (nI i)), (3, .ref o), (2, .ref (q 0)), (1, .ref (ad 0 0)), (0, .ref b)] [] := r_goto C d_L_law_1334 (tgt := 1922) rfl (r_lv [2, 3, 4, 5, 6] rfl (r_widen (by omega) (by omega) (K _ h3 (law_next s wg ks m3 fr))))
  refine r_iload C d_L_law_1317 1 rfl ?_
  refine rn_if_ne C d_L_law_1319 (tgt := 1334) rfl (by omega) (fun _ => fin) (fun c0 => ?_)
  have ho : h3 o = some (aJ G 1 f) := by rw [fr o (fun j hj => s.2.2.1 j hj)]; exact wg.2.2
  refine r_aload_n C d_L_law_1322 3 rfl ?_
  refine r_iconst C d_L_law_1323 (v := nI 0) rfl ?_
  refine r_lald C d_L_law_1324 ho (i := 0) (by decide) (by decide) ?_
  refine r_iload C d_L_law_1325 0 rfl ?_
  refine r_i2l C d_L_law_1327 ?_
  refine r_lcmp C d_L_law_1328 ?_
  rw [ka c0 r9 rfl, lg_cmp_0]
  exact r_if_eq C d_L_law_1329 (tgt := 1334) rfl (fun _ => fin) (fun z => absurd rfl z)
set_option maxHeartbeats 4000000 in
set_option maxRecDepth 100000 in
theorem lo_join {G : eG} {x : CX} {ad : Nat → Nat → Nat} {q : Nat → Nat} {o : Nat} {g : mS} {h : hp} {b L i n1 n2 : Nat} {xs : Nat → Int32} (C : cxOk G RL cL_law room_1 7 x) (B : cxS G b L xs x) (hlf : ∀ l, cxL l x → l.stackTraces = false) (s : lst ad q o) (w : lwo G ad q o g h) (hi : i + 6 ≤ L) (hL : L ≤ 3072) (hr : n1 + 18 ≤ 601024 ∧ n2 + 138 ≤ 7293034) (K : ∀ g h, lwo G ad q o g h → VV G x (n1 + 18) (n2 + 138) h 1922 [(4, .int (nI i)), (3, .ref o), (2, .ref (q 0)), (1, .ref (ad 0 0)), (0, .ref b)] []) : VV G x n1 n2 h 1337 [(4, .int (nI i)), (3, .ref o), (2, .ref (q 0)), (1, .ref (ad 0 0)), (0, .ref b)] [] := by
  refine r_aload_n C d_L_law_1337 3 rfl ?_
  refine r_aload_n C d_L_law_1338 4 rfl ?_
  refine r_iload C d_L_law_1339 0 rfl ?_
  refine r_iconst C d_L_law_1341 (v := nI 1) rfl ?_
  refine rn_iadd C d_L_law_1342 ?_
  refine r_sld C B d_L_law_1343 (i := i + 1) (by omega) hL ?_
  refine r_aload_n C d_L_law_1344 4 rfl ?_
  refine r_iload C d_L_law_1345 0 rfl ?_
  refine r_iconst C d_L_law_1347 (v := nI 2) rfl ?_
  refine rn_iadd C d_L_law_1348 ?_
  refine r_sld C B d_L_law_1349 (i := i + 2) (by omega) hL ?_
  refine r_aload_n C d_L_law_1350 4 rfl ?_
  refine r_iload C d_L_law_1351 0 rfl ?_
  refine r_iconst C d_L_law_1353 (v := nI 3) rfl ?_
  refine rn_iadd C d_L_law_1354 ?_
  refine r_sld C B d_L_law_1355 (i := i + 3) (by omega) hL ?_
  refine r_aload_n C d_L_law_1356 1 rfl ?_
  refine r_callSH C d_L_law_1357 ok_RL_172 (fun l hl => lwx_join (hlf l hl) s w) (As := [.ref (ad 0 0), .int (xs (i + 1)), .int (xs (i + 2)), .int (xs (i + 3)), .ref o]) rfl (rest := []) rfl (Nat.le_of_ble_eq_true rfl) ⟨⟨by decide, by decide⟩, (show n1 + 4 ≤ 601024 by omega), (show n2 + 24 ≤ 7293034 by omega)⟩ (fun v9 h1 e9 => ?_)
  obtain ⟨c, g9, f, rfl, hc4, wg, K9⟩ := e9
  show VV G x (n1 + 4) (n2 + 24) h1 1360 [(4, .int (nI i)), (3, .ref o), (2, .ref (q 0)), (1, .ref (ad 0 0)), (0, .ref b)] [.int (nI c)]
  refine r_istore C d_L_law_1360 (lv' := [(5, .int (nI c)), (4, .int (nI i)), (3, .ref o), (2, .ref (q 0)), (1, .ref (ad 0 0)), (0, .ref b)]) (by decide) rfl ?_
  refine r_aload_n C d_L_law_1362 3 rfl ?_
  refine r_aload_n C d_L_law_1363 5 rfl ?_
  refine r_iload C d_L_law_1364 1 rfl ?_
  refine r_iconst C d_L_law_1366 (v := nI 1) rfl ?_
  refine rn_iadd C d_L_law_1367 ?_
  refine r_sld C B d_L_law_1368 (i := i + 1) (by omega) hL ?_
  refine r_aload_n C d_L_law_1369 5 rfl ?_
  refine r_iload C d_L_law_1370 1 rfl ?_
  refine r_iconst C d_L_law_1372 (v := nI 2) rfl ?_
  refine rn_iadd C d_L_law_1373 ?_
  refine r_sld C B d_L_law_1374 (i := i + 2) (by omega) hL ?_
  refine r_aload_n C d_L_law_1375 5 rfl ?_
  refine r_iload C d_L_law_1376 1 rfl ?_
  refine r_iconst C d_L_law_1378 (v := nI 3) rfl ?_
  refine rn_iadd C d_L_law_1379 ?_
  refine r_sld C B d_L_law_1380 (i := i + 3) (by omega) hL ?_
  refine r_callV C d_L_law_1381 ok_RL_174 (fun l _ => m_join g (xs (i + 1)) (xs (i + 2)) (xs (i + 3)) w.2.1.1 l G q h1 wg.2.1) wg.2.1.1 rfl rfl (As := [.int (xs (i + 1)), .int (xs (i + 2)), .int (xs (i + 3))]) rfl (rest := []) rfl (Nat.le_of_ble_eq_true rfl) ⟨⟨by decide, by decide⟩, (show n1 + 4 + 0 ≤ 601024 by omega), (show n2 + 24 + 0 ≤ 7293034 by omega)⟩ (fun v9 h2 e9 => ?_)
  obtain ⟨T9, e9, m2, f2⟩ := e9
  obtain ⟨k0, ka, ks⟩ := K9 v9 T9 e9
  obtain ⟨r9, rfl⟩ : ∃ r9, v9 = some (.int r9) := ⟨_, e9.1⟩
  show VV G x (n1 + 4) (n2 + 24) h2 1384 [(5, .int (nI c)), (4, .int (nI i)), (3, .ref o), (2, .ref (q 0)), (1, .ref (ad 0 0)), (0, .ref b)] [.int r9]
  refine r_istore C d_L_law_1384 (lv' := [(6, .int r9), (5, .int (nI c)), (4, .int (nI i)), (3, .ref o), (2, .ref (q 0)), (1, .ref (ad 0 0)), (0, .ref b)]) (by decide) rfl ?_
  refine r_aload_n C d_L_law_1386 4 rfl ?_
  refine r_callV C d_L_law_1387 ok_RL_108 (fun l _ => m_thrown T9 l G q h2 m2) m2.1 rfl rfl (As := []) rfl (rest := []) rfl (Nat.le_of_ble_eq_true rfl) ⟨⟨by decide, by decide⟩, (show n1 + 4 + 0 ≤ 601024 by omega), (show n2 + 24 + 0 ≤ 7293034 by omega)⟩ (fun v9 h3 e9 => ?_)
  obtain ⟨T3, ⟨rfl, rfl⟩, m3, f3⟩ := e9
  rw [k0]
  show VV G x (n1 + 4) (n2 + 24) h3 1390 [(6, .int r9), (5, .int (nI c)), (4, .int (nI i)), (3, .ref o), (2, .ref (q 0)), (1, .ref (ad 0 0)), (0, .ref b)] [.int (nI c)]
  have fr : mfr q h1 h3 := fun a n => (f3 a n).trans (f2 a n)
  refine r_iload C d_L_law_1390 1 rfl ?_
  refine r_icmp_eq C d_L_law_1392 (tgt := 1397) rfl (fun _ => ?_) (fun z => absurd rfl z)
  have fin : VV G x (n1 + 4) (n2 + 24) h3 1414 [(6, .int r9), (5, .int (nI c)), (4, .int (nI i)), (3, .ref o), (2, .ref (q 0)), (1, .ref (ad 0 0)), (0, .ref b)] [] := r_goto C d_L_law_1414 (tgt := 1922) rfl (r_lv [2, 3, 4, 5, 6] rfl (r_widen (by omega) (by omega) (K _ h3 (law_next s wg ks m3 fr))))
  refine r_iload C d_L_law_1397 1 rfl ?_
  refine rn_if_ne C d_L_law_1399 (tgt := 1414) rfl (by omega) (fun _ => fin) (fun c0 => ?_)
  have ho : h3 o = some (aJ G 1 f) := by rw [fr o (fun j hj => s.2.2.1 j hj)]; exact wg.2.2
  refine r_aload_n C d_L_law_1402 3 rfl ?_
  refine r_iconst C d_L_law_1403 (v := nI 0) rfl ?_
  refine r_lald C d_L_law_1404 ho (i := 0) (by decide) (by decide) ?_
  refine r_iload C d_L_law_1405 0 rfl ?_
  refine r_i2l C d_L_law_1407 ?_
  refine r_lcmp C d_L_law_1408 ?_
  rw [ka c0 r9 rfl, lg_cmp_0]
  exact r_if_eq C d_L_law_1409 (tgt := 1414) rfl (fun _ => fin) (fun z => absurd rfl z)
set_option maxHeartbeats 4000000 in
set_option maxRecDepth 100000 in
theorem lo_thin {G : eG} {x : CX} {ad : Nat → Nat → Nat} {q : Nat → Nat} {o : Nat} {g : mS} {h : hp} {b L i n1 n2 : Nat} {xs : Nat → Int32} (C : cxOk G RL cL_law room_1 7 x) (B : cxS G b L xs x) (hlf : ∀ l, cxL l x → l.stackTraces = false) (s : lst ad q o) (w : lwo G ad q o g h) (hi : i + 6 ≤ L) (hL : L ≤ 3072) (hr : n1 + 18 ≤ 601024 ∧ n2 + 138 ≤ 7293034) (K : ∀ g h, lwo G ad q o g h → VV G x (n1 + 18) (n2 + 138) h 1922 [(4, .int (nI i)), (3, .ref o), (2, .ref (q 0)), (1, .ref (ad 0 0)), (0, .ref b)] []) : VV G x n1 n2 h 1417 [(4, .int (nI i)), (3, .ref o), (2, .ref (q 0)), (1, .ref (ad 0 0)), (0, .ref b)] [] := by
  refine r_aload_n C d_L_law_1417 3 rfl ?_
  refine r_aload_n C d_L_law_1418 4 rfl ?_
  refine r_iload C d_L_law_1419 0 rfl ?_
  refine r_iconst C d_L_law_1421 (v := nI 1) rfl ?_
  refine rn_iadd C d_L_law_1422 ?_
  refine r_sld C B d_L_law_1423 (i := i + 1) (by omega) hL ?_
  refine r_aload_n C d_L_law_1424 1 rfl ?_
  refine r_callSH C d_L_law_1425 ok_RL_175 (fun l hl => lwx_thin (hlf l hl) s w) (As := [.ref (ad 0 0), .int (xs (i + 1)), .ref o]) rfl (rest := []) rfl (Nat.le_of_ble_eq_true rfl) ⟨⟨by decide, by decide⟩, (show n1 + 1 ≤ 601024 by omega), (show n2 + 6 ≤ 7293034 by omega)⟩ (fun v9 h1 e9 => ?_)
  obtain ⟨c, g9, f, rfl, hc4, wg, K9⟩ := e9
  show VV G x (n1 + 1) (n2 + 6) h1 1428 [(4, .int (nI i)), (3, .ref o), (2, .ref (q 0)), (1, .ref (ad 0 0)), (0, .ref b)] [.int (nI c)]
  refine r_istore C d_L_law_1428 (lv' := [(5, .int (nI c)), (4, .int (nI i)), (3, .ref o), (2, .ref (q 0)), (1, .ref (ad 0 0)), (0, .ref b)]) (by decide) rfl ?_
  refine r_aload_n C d_L_law_1430 3 rfl ?_
  refine r_aload_n C d_L_law_1431 5 rfl ?_
  refine r_iload C d_L_law_1432 1 rfl ?_
  refine r_iconst C d_L_law_1434 (v := nI 1) rfl ?_
  refine rn_iadd C d_L_law_1435 ?_
  refine r_sld C B d_L_law_1436 (i := i + 1) (by omega) hL ?_
  refine r_callV C d_L_law_1437 ok_RL_177 (fun l _ => m_thin g (xs (i + 1)) w.2.1.1 l G q h1 wg.2.1) wg.2.1.1 rfl rfl (As := [.int (xs (i + 1))]) rfl (rest := []) rfl (Nat.le_of_ble_eq_true rfl) ⟨⟨by decide, by decide⟩, (show n1 + 1 + 0 ≤ 601024 by omega), (show n2 + 6 + 0 ≤ 7293034 by omega)⟩ (fun v9 h2 e9 => ?_)
  obtain ⟨T9, e9, m2, f2⟩ := e9
  obtain ⟨k0, ka, ks⟩ := K9 v9 T9 e9
  obtain ⟨r9, rfl⟩ : ∃ r9, v9 = some (.int r9) := ⟨_, e9.1⟩
  show VV G x (n1 + 1) (n2 + 6) h2 1440 [(5, .int (nI c)), (4, .int (nI i)), (3, .ref o), (2, .ref (q 0)), (1, .ref (ad 0 0)), (0, .ref b)] [.int r9]
  refine r_istore C d_L_law_1440 (lv' := [(6, .int r9), (5, .int (nI c)), (4, .int (nI i)), (3, .ref o), (2, .ref (q 0)), (1, .ref (ad 0 0)), (0, .ref b)]) (by decide) rfl ?_
  refine r_aload_n C d_L_law_1442 4 rfl ?_
  refine r_callV C d_L_law_1443 ok_RL_108 (fun l _ => m_thrown T9 l G q h2 m2) m2.1 rfl rfl (As := []) rfl (rest := []) rfl (Nat.le_of_ble_eq_true rfl) ⟨⟨by decide, by decide⟩, (show n1 + 1 + 0 ≤ 601024 by omega), (show n2 + 6 + 0 ≤ 7293034 by omega)⟩ (fun v9 h3 e9 => ?_)
  obtain ⟨T3, ⟨rfl, rfl⟩, m3, f3⟩ := e9
  rw [k0]
  show VV G x (n1 + 1) (n2 + 6) h3 1446 [(6, .int r9), (5, .int (nI c)), (4, .int (nI i)), (3, .ref o), (2, .ref (q 0)), (1, .ref (ad 0 0)), (0, .ref b)] [.int (nI c)]
  have fr : mfr q h1 h3 := fun a n => (f3 a n).trans (f2 a n)
  refine r_iload C d_L_law_1446 1 rfl ?_
  refine r_icmp_eq C d_L_law_1448 (tgt := 1453) rfl (fun _ => ?_) (fun z => absurd rfl z)
  have fin : VV G x (n1 + 1) (n2 + 6) h3 1470 [(6, .int r9), (5, .int (nI c)), (4, .int (nI i)), (3, .ref o), (2, .ref (q 0)), (1, .ref (ad 0 0)), (0, .ref b)] [] := r_goto C d_L_law_1470 (tgt := 1922) rfl (r_lv [2, 3, 4, 5, 6] rfl (r_widen (by omega) (by omega) (K _ h3 (law_next s wg ks m3 fr))))
  refine r_iload C d_L_law_1453 1 rfl ?_
  refine rn_if_ne C d_L_law_1455 (tgt := 1470) rfl (by omega) (fun _ => fin) (fun c0 => ?_)
  have ho : h3 o = some (aJ G 1 f) := by rw [fr o (fun j hj => s.2.2.1 j hj)]; exact wg.2.2
  refine r_aload_n C d_L_law_1458 3 rfl ?_
  refine r_iconst C d_L_law_1459 (v := nI 0) rfl ?_
  refine r_lald C d_L_law_1460 ho (i := 0) (by decide) (by decide) ?_
  refine r_iload C d_L_law_1461 0 rfl ?_
  refine r_i2l C d_L_law_1463 ?_
  refine r_lcmp C d_L_law_1464 ?_
  rw [ka c0 r9 rfl, lg_cmp_0]
  exact r_if_eq C d_L_law_1465 (tgt := 1470) rfl (fun _ => fin) (fun z => absurd rfl z)
set_option maxHeartbeats 4000000 in
set_option maxRecDepth 100000 in
theorem lo_aligned {G : eG} {x : CX} {ad : Nat → Nat → Nat} {q : Nat → Nat} {o : Nat} {g : mS} {h : hp} {b L i n1 n2 : Nat} {xs : Nat → Int32} (C : cxOk G RL cL_law room_1 7 x) (B : cxS G b L xs x) (hlf : ∀ l, cxL l x → l.stackTraces = false) (s : lst ad q o) (w : lwo G ad q o g h) (hi : i + 6 ≤ L) (hL : L ≤ 3072) (hr : n1 + 18 ≤ 601024 ∧ n2 + 138 ≤ 7293034) (K : ∀ g h, lwo G ad q o g h → VV G x (n1 + 18) (n2 + 138) h 1922 [(4, .int (nI i)), (3, .ref o), (2, .ref (q 0)), (1, .ref (ad 0 0)), (0, .ref b)] []) : VV G x n1 n2 h 1473 [(4, .int (nI i)), (3, .ref o), (2, .ref (q 0)), (1, .ref (ad 0 0)), (0, .ref b)] [] := by
  refine r_aload_n C d_L_law_1473 3 rfl ?_
  refine r_aload_n C d_L_law_1474 4 rfl ?_
  refine r_iload C d_L_law_1475 0 rfl ?_
  refine r_iconst C d_L_law_1477 (v := nI 1) rfl ?_
  refine rn_iadd C d_L_law_1478 ?_
  refine r_sld C B d_L_law_1479 (i := i + 1) (by omega) hL ?_
  refine r_aload_n C d_L_law_1480 4 rfl ?_
  refine r_iload C d_L_law_1481 0 rfl ?_
  refine r_iconst C d_L_law_1483 (v := nI 2) rfl ?_
  refine rn_iadd C d_L_law_1484 ?_
  refine r_sld C B d_L_law_1485 (i := i + 2) (by omega) hL ?_
  refine r_aload_n C d_L_law_1486 4 rfl ?_
  refine r_iload C d_L_law_1487 0 rfl ?_
  refine r_iconst C d_L_law_1489 (v := nI 3) rfl ?_
  refine rn_iadd C d_L_law_1490 ?_
  refine r_sld C B d_L_law_1491 (i := i + 3) (by omega) hL ?_
  refine r_tob (a := xs (i + 3)) C d_L_law_1492 rfl d_L_law_1495 d_L_law_1496 rfl d_L_law_1499 ?_
  refine r_aload_n C d_L_law_1500 1 rfl ?_
  refine r_callSH C d_L_law_1501 ok_RL_178 (fun l hl => lwx_aligned (hlf l hl) s w) (As := [.ref (ad 0 0), .int (xs (i + 1)), .int (xs (i + 2)), .int (bI (decide (xs (i + 3) ≠ 0))), .ref o]) rfl (rest := []) rfl (Nat.le_of_ble_eq_true rfl) ⟨⟨by decide, by decide⟩, (show n1 + 2 ≤ 601024 by omega), (show n2 + 12 ≤ 7293034 by omega)⟩ (fun v9 h1 e9 => ?_)
  obtain ⟨c, g9, f, rfl, hc4, wg, K9⟩ := e9
  show VV G x (n1 + 2) (n2 + 12) h1 1504 [(4, .int (nI i)), (3, .ref o), (2, .ref (q 0)), (1, .ref (ad 0 0)), (0, .ref b)] [.int (nI c)]
  refine r_istore C d_L_law_1504 (lv' := [(5, .int (nI c)), (4, .int (nI i)), (3, .ref o), (2, .ref (q 0)), (1, .ref (ad 0 0)), (0, .ref b)]) (by decide) rfl ?_
  refine r_aload_n C d_L_law_1506 3 rfl ?_
  refine r_aload_n C d_L_law_1507 5 rfl ?_
  refine r_iload C d_L_law_1508 1 rfl ?_
  refine r_iconst C d_L_law_1510 (v := nI 1) rfl ?_
  refine rn_iadd C d_L_law_1511 ?_
  refine r_sld C B d_L_law_1512 (i := i + 1) (by omega) hL ?_
  refine r_aload_n C d_L_law_1513 5 rfl ?_
  refine r_iload C d_L_law_1514 1 rfl ?_
  refine r_iconst C d_L_law_1516 (v := nI 2) rfl ?_
  refine rn_iadd C d_L_law_1517 ?_
  refine r_sld C B d_L_law_1518 (i := i + 2) (by omega) hL ?_
  refine r_aload_n C d_L_law_1519 5 rfl ?_
  refine r_iload C d_L_law_1520 1 rfl ?_
  refine r_iconst C d_L_law_1522 (v := nI 3) rfl ?_
  refine rn_iadd C d_L_law_1523 ?_
  refine r_sld C B d_L_law_1524 (i := i + 3) (by omega) hL ?_
  refine r_tob (a := xs (i + 3)) C d_L_law_1525 rfl d_L_law_1528 d_L_law_1529 rfl d_L_law_1532 ?_
  refine r_callV C d_L_law_1533 ok_RL_180 (fun l _ => m_aligned g (xs (i + 1)) (xs (i + 2)) (decide (xs (i + 3) ≠ 0)) w.2.1.1 l G q h1 wg.2.1) wg.2.1.1 rfl rfl (As := [.int (xs (i + 1)), .int (xs (i + 2)), .int (bI (decide (xs (i + 3) ≠ 0)))]) rfl (rest := []) rfl (Nat.le_of_ble_eq_true rfl) ⟨⟨by decide, by decide⟩, (show n1 + 2 + 0 ≤ 601024 by omega), (show n2 + 12 + 0 ≤ 7293034 by omega)⟩ (fun v9 h2 e9 => ?_)
  obtain ⟨T9, e9, m2, f2⟩ := e9
  obtain ⟨k0, ka, ks⟩ := K9 v9 T9 e9
  obtain ⟨r9, rfl⟩ : ∃ r9, v9 = some (.int r9) := ⟨_, e9.1⟩
  show VV G x (n1 + 2) (n2 + 12) h2 1536 [(5, .int (nI c)), (4, .int (nI i)), (3, .ref o), (2, .ref (q 0)), (1, .ref (ad 0 0)), (0, .ref b)] [.int r9]
  refine r_istore C d_L_law_1536 (lv' := [(6, .int r9), (5, .int (nI c)), (4, .int (nI i)), (3, .ref o), (2, .ref (q 0)), (1, .ref (ad 0 0)), (0, .ref b)]) (by decide) rfl ?_
  refine r_aload_n C d_L_law_1538 4 rfl ?_
  refine r_callV C d_L_law_1539 ok_RL_108 (fun l _ => m_thrown T9 l G q h2 m2) m2.1 rfl rfl (As := []) rfl (rest := []) rfl (Nat.le_of_ble_eq_true rfl) ⟨⟨by decide, by decide⟩, (show n1 + 2 + 0 ≤ 601024 by omega), (show n2 + 12 + 0 ≤ 7293034 by omega)⟩ (fun v9 h3 e9 => ?_)
  obtain ⟨T3, ⟨rfl, rfl⟩, m3, f3⟩ := e9
  rw [k0]
  show VV G x (n1 + 2) (n2 + 12) h3 1542 [(6, .int r9), (5, .int (nI c)), (4, .int (nI i)), (3, .ref o), (2, .ref (q 0)), (1, .ref (ad 0 0)), (0, .ref b)] [.int (nI c)]
  have fr : mfr q h1 h3 := fun a n => (f3 a n).trans (f2 a n)
  refine r_iload C d_L_law_1542 1 rfl ?_
  refine r_icmp_eq C d_L_law_1544 (tgt := 1549) rfl (fun _ => ?_) (fun z => absurd rfl z)
  have fin : VV G x (n1 + 2) (n2 + 12) h3 1566 [(6, .int r9), (5, .int (nI c)), (4, .int (nI i)), (3, .ref o), (2, .ref (q 0)), (1, .ref (ad 0 0)), (0, .ref b)] [] := r_goto C d_L_law_1566 (tgt := 1922) rfl (r_lv [2, 3, 4, 5, 6] rfl (r_widen (by omega) (by omega) (K _ h3 (law_next s wg ks m3 fr))))
  refine r_iload C d_L_law_1549 1 rfl ?_
  refine rn_if_ne C d_L_law_1551 (tgt := 1566) rfl (by omega) (fun _ => fin) (fun c0 => ?_)
  have ho : h3 o = some (aJ G 1 f) := by rw [fr o (fun j hj => s.2.2.1 j hj)]; exact wg.2.2
  refine r_aload_n C d_L_law_1554 3 rfl ?_
  refine r_iconst C d_L_law_1555 (v := nI 0) rfl ?_
  refine r_lald C d_L_law_1556 ho (i := 0) (by decide) (by decide) ?_
  refine r_iload C d_L_law_1557 0 rfl ?_
  refine r_i2l C d_L_law_1559 ?_
  refine r_lcmp C d_L_law_1560 ?_
  rw [ka c0 r9 rfl, lg_cmp_0]
  exact r_if_eq C d_L_law_1561 (tgt := 1566) rfl (fun _ => fin) (fun z => absurd rfl z)
set_option maxHeartbeats 4000000 in
set_option maxRecDepth 100000 in
theorem lo_drop {G : eG} {x : CX} {ad : Nat → Nat → Nat} {q : Nat → Nat} {o : Nat} {g : mS} {h : hp} {b L i n1 n2 : Nat} {xs : Nat → Int32} (C : cxOk G RL cL_law room_1 7 x) (B : cxS G b L xs x) (hlf : ∀ l, cxL l x → l.stackTraces = false) (s : lst ad q o) (w : lwo G ad q o g h) (hi : i + 6 ≤ L) (hL : L ≤ 3072) (hr : n1 + 18 ≤ 601024 ∧ n2 + 138 ≤ 7293034) (K : ∀ g h, lwo G ad q o g h → VV G x (n1 + 18) (n2 + 138) h 1922 [(4, .int (nI i)), (3, .ref o), (2, .ref (q 0)), (1, .ref (ad 0 0)), (0, .ref b)] []) : VV G x n1 n2 h 1569 [(4, .int (nI i)), (3, .ref o), (2, .ref (q 0)), (1, .ref (ad 0 0)), (0, .ref b)] [] := by
  refine r_aload_n C d_L_law_1569 3 rfl ?_
  refine r_aload_n C d_L_law_1570 4 rfl ?_
  refine r_iload C d_L_law_1571 0 rfl ?_
  refine r_iconst C d_L_law_1573 (v := nI 1) rfl ?_
  refine rn_iadd C d_L_law_1574 ?_
  refine r_sld C B d_L_law_1575 (i := i + 1) (by omega) hL ?_
  refine r_aload_n C d_L_law_1576 1 rfl ?_
  refine r_callSH C d_L_law_1577 ok_RL_181 (fun l hl => lwx_drop (hlf l hl) s w) (As := [.ref (ad 0 0), .int (xs (i + 1)), .ref o]) rfl (rest := []) rfl (Nat.le_of_ble_eq_true rfl) ⟨⟨by decide, by decide⟩, (show n1 + 1 ≤ 601024 by omega), (show n2 + 6 ≤ 7293034 by omega)⟩ (fun v9 h1 e9 => ?_)
  obtain ⟨c, g9, f, rfl, hc4, wg, K9⟩ := e9
  show VV G x (n1 + 1) (n2 + 6) h1 1580 [(4, .int (nI i)), (3, .ref o), (2, .ref (q 0)), (1, .ref (ad 0 0)), (0, .ref b)] [.int (nI c)]
  refine r_istore C d_L_law_1580 (lv' := [(5, .int (nI c)), (4, .int (nI i)), (3, .ref o), (2, .ref (q 0)), (1, .ref (ad 0 0)), (0, .ref b)]) (by decide) rfl ?_
  refine r_aload_n C d_L_law_1582 3 rfl ?_
  refine r_aload_n C d_L_law_1583 5 rfl ?_
  refine r_iload C d_L_law_1584 1 rfl ?_
  refine r_iconst C d_L_law_1586 (v := nI 1) rfl ?_
  refine rn_iadd C d_L_law_1587 ?_
  refine r_sld C B d_L_law_1588 (i := i + 1) (by omega) hL ?_
  refine r_callV C d_L_law_1589 ok_RL_183 (fun l _ => m_drop g (xs (i + 1)) w.2.1.1 l G q h1 wg.2.1) wg.2.1.1 rfl rfl (As := [.int (xs (i + 1))]) rfl (rest := []) rfl (Nat.le_of_ble_eq_true rfl) ⟨⟨by decide, by decide⟩, (show n1 + 1 + 0 ≤ 601024 by omega), (show n2 + 6 + 0 ≤ 7293034 by omega)⟩ (fun v9 h2 e9 => ?_)
  obtain ⟨T9, e9, m2, f2⟩ := e9
  obtain ⟨k0, ka, ks⟩ := K9 v9 T9 e9
  obtain ⟨r9, rfl⟩ : ∃ r9, v9 = some (.int r9) := ⟨_, e9.1⟩
  show VV G x (n1 + 1) (n2 + 6) h2 1592 [(5, .int (nI c)), (4, .int (nI i)), (3, .ref o), (2, .ref (q 0)), (1, .ref (ad 0 0)), (0, .ref b)] [.int r9]
  refine r_istore C d_L_law_1592 (lv' := [(6, .int r9), (5, .int (nI c)), (4, .int (nI i)), (3, .ref o), (2, .ref (q 0)), (1, .ref (ad 0 0)), (0, .ref b)]) (by decide) rfl ?_
  refine r_aload_n C d_L_law_1594 4 rfl ?_
  refine r_callV C d_L_law_1595 ok_RL_108 (fun l _ => m_thrown T9 l G q h2 m2) m2.1 rfl rfl (As := []) rfl (rest := []) rfl (Nat.le_of_ble_eq_true rfl) ⟨⟨by decide, by decide⟩, (show n1 + 1 + 0 ≤ 601024 by omega), (show n2 + 6 + 0 ≤ 7293034 by omega)⟩ (fun v9 h3 e9 => ?_)
  obtain ⟨T3, ⟨rfl, rfl⟩, m3, f3⟩ := e9
  rw [k0]
  show VV G x (n1 + 1) (n2 + 6) h3 1598 [(6, .int r9), (5, .int (nI c)), (4, .int (nI i)), (3, .ref o), (2, .ref (q 0)), (1, .ref (ad 0 0)), (0, .ref b)] [.int (nI c)]
  have fr : mfr q h1 h3 := fun a n => (f3 a n).trans (f2 a n)
  refine r_iload C d_L_law_1598 1 rfl ?_
  refine r_icmp_eq C d_L_law_1600 (tgt := 1605) rfl (fun _ => ?_) (fun z => absurd rfl z)
  have fin : VV G x (n1 + 1) (n2 + 6) h3 1622 [(6, .int r9), (5, .int (nI c)), (4, .int (nI i)), (3, .ref o), (2, .ref (q 0)), (1, .ref (ad 0 0)), (0, .ref b)] [] := r_goto C d_L_law_1622 (tgt := 1922) rfl (r_lv [2, 3, 4, 5, 6] rfl (r_widen (by omega) (by omega) (K _ h3 (law_next s wg ks m3 fr))))
  refine r_iload C d_L_law_1605 1 rfl ?_
  refine rn_if_ne C d_L_law_1607 (tgt := 1622) rfl (by omega) (fun _ => fin) (fun c0 => ?_)
  have ho : h3 o = some (aJ G 1 f) := by rw [fr o (fun j hj => s.2.2.1 j hj)]; exact wg.2.2
  refine r_aload_n C d_L_law_1610 3 rfl ?_
  refine r_iconst C d_L_law_1611 (v := nI 0) rfl ?_
  refine r_lald C d_L_law_1612 ho (i := 0) (by decide) (by decide) ?_
  refine r_iload C d_L_law_1613 0 rfl ?_
  refine r_i2l C d_L_law_1615 ?_
  refine r_lcmp C d_L_law_1616 ?_
  rw [ka c0 r9 rfl, lg_cmp_0]
  exact r_if_eq C d_L_law_1617 (tgt := 1622) rfl (fun _ => fin) (fun z => absurd rfl z)
set_option maxHeartbeats 4000000 in
set_option maxRecDepth 100000 in
theorem lo_size {G : eG} {x : CX} {ad : Nat → Nat → Nat} {q : Nat → Nat} {o : Nat} {g : mS} {h : hp} {b L i n1 n2 : Nat} {xs : Nat → Int32} (C : cxOk G RL cL_law room_1 7 x) (B : cxS G b L xs x) (hlf : ∀ l, cxL l x → l.stackTraces = false) (s : lst ad q o) (w : lwo G ad q o g h) (hi : i + 6 ≤ L) (hL : L ≤ 3072) (hr : n1 + 18 ≤ 601024 ∧ n2 + 138 ≤ 7293034) (K : ∀ g h, lwo G ad q o g h → VV G x (n1 + 18) (n2 + 138) h 1922 [(4, .int (nI i)), (3, .ref o), (2, .ref (q 0)), (1, .ref (ad 0 0)), (0, .ref b)] []) : VV G x n1 n2 h 1625 [(4, .int (nI i)), (3, .ref o), (2, .ref (q 0)), (1, .ref (ad 0 0)), (0, .ref b)] [] := by
  obtain ⟨⟨f, w1⟩, A, T, X, Y, k⟩ := w
  refine r_aload_n C d_L_law_1625 3 rfl ?_
  refine r_aload_n C d_L_law_1626 4 rfl ?_
  refine r_iload C d_L_law_1627 0 rfl ?_
  refine r_iconst C d_L_law_1629 (v := nI 1) rfl ?_
  refine rn_iadd C d_L_law_1630 ?_
  refine r_sld C B d_L_law_1631 (i := i + 1) (by omega) hL ?_
  refine r_callV C d_L_law_1632 ok_RL_184 (fun l _ => k_size w1.1 A.1 A.2.1) (w1.1.1 0 0 rfl) rfl rfl (As := [.int (xs (i + 1))]) rfl (rest := []) rfl (Nat.le_of_ble_eq_true rfl) ⟨⟨by decide, by decide⟩, (show n1 + 0 ≤ 601024 by omega), (show n2 + 0 ≤ 7293034 by omega)⟩ (fun v9 h1 e9 => ?_)
  obtain ⟨g9, ⟨rfl, rfl⟩, hm1, hF⟩ := e9
  show VV G x n1 n2 h1 1635 [(4, .int (nI i)), (3, .ref o), (2, .ref (q 0)), (1, .ref (ad 0 0)), (0, .ref b)] [.int (rSz g9 (xs (i + 1)))]
  have wg := lge_cfr s w1 hF hm1
  refine r_aload_n C d_L_law_1635 2 rfl ?_
  refine r_aload_n C d_L_law_1636 4 rfl ?_
  refine r_iload C d_L_law_1637 0 rfl ?_
  refine r_iconst C d_L_law_1639 (v := nI 1) rfl ?_
  refine rn_iadd C d_L_law_1640 ?_
  refine r_sld C B d_L_law_1641 (i := i + 1) (by omega) hL ?_
  refine r_callV C d_L_law_1642 ok_RL_187 (fun l _ => m_size g9 (xs (i + 1)) A.1 l G q h1 wg.2.1) wg.2.1.1 rfl rfl (As := [.int (xs (i + 1))]) rfl (rest := [.int (rSz g9 (xs (i + 1)))]) rfl (Nat.le_of_ble_eq_true rfl) ⟨⟨by decide, by decide⟩, (show n1 + 0 ≤ 601024 by omega), (show n2 + 0 ≤ 7293034 by omega)⟩ (fun v9 h2 e9 => ?_)
  obtain ⟨T9, ⟨rfl, rfl⟩, m2, f2⟩ := e9
  show VV G x n1 n2 h2 1645 [(4, .int (nI i)), (3, .ref o), (2, .ref (q 0)), (1, .ref (ad 0 0)), (0, .ref b)] [.int (rSz g9 (xs (i + 1))), .int (rSz g9 (xs (i + 1)))]
  exact r_icmp_eq C d_L_law_1645 (tgt := 1922) rfl (fun _ => r_widen (by omega) (by omega) (K _ h2 (law_next s wg (step_K A k hF) m2 f2))) (fun z => absurd rfl z)
set_option maxHeartbeats 4000000 in
set_option maxRecDepth 100000 in
theorem lo_match {G : eG} {x : CX} {ad : Nat → Nat → Nat} {q : Nat → Nat} {o : Nat} {g : mS} {h : hp} {b L i n1 n2 : Nat} {xs : Nat → Int32} (C : cxOk G RL cL_law room_1 7 x) (B : cxS G b L xs x) (hlf : ∀ l, cxL l x → l.stackTraces = false) (s : lst ad q o) (w : lwo G ad q o g h) (hi : i + 6 ≤ L) (hL : L ≤ 3072) (hr : n1 + 18 ≤ 601024 ∧ n2 + 138 ≤ 7293034) (K : ∀ g h, lwo G ad q o g h → VV G x (n1 + 18) (n2 + 138) h 1922 [(4, .int (nI i)), (3, .ref o), (2, .ref (q 0)), (1, .ref (ad 0 0)), (0, .ref b)] []) : VV G x n1 n2 h 1650 [(4, .int (nI i)), (3, .ref o), (2, .ref (q 0)), (1, .ref (ad 0 0)), (0, .ref b)] [] := by
  refine r_aload_n C d_L_law_1650 3 rfl ?_
  refine r_aload_n C d_L_law_1651 4 rfl ?_
  refine r_iload C d_L_law_1652 0 rfl ?_
  refine r_iconst C d_L_law_1654 (v := nI 1) rfl ?_
  refine rn_iadd C d_L_law_1655 ?_
  refine r_sld C B d_L_law_1656 (i := i + 1) (by omega) hL ?_
  refine r_aload_n C d_L_law_1657 4 rfl ?_
  refine r_iload C d_L_law_1658 0 rfl ?_
  refine r_iconst C d_L_law_1660 (v := nI 2) rfl ?_
  refine rn_iadd C d_L_law_1661 ?_
  refine r_sld C B d_L_law_1662 (i := i + 2) (by omega) hL ?_
  refine r_aload_n C d_L_law_1663 1 rfl ?_
  refine r_callSH C d_L_law_1664 ok_RL_188 (fun l hl => lwx_match (hlf l hl) s w) (As := [.ref (ad 0 0), .int (xs (i + 1)), .int (xs (i + 2)), .ref o]) rfl (rest := []) rfl (Nat.le_of_ble_eq_true rfl) ⟨⟨by decide, by decide⟩, (show n1 + 2 ≤ 601024 by omega), (show n2 + 12 ≤ 7293034 by omega)⟩ (fun v9 h1 e9 => ?_)
  obtain ⟨c, g9, f, rfl, hc4, wg, K9⟩ := e9
  show VV G x (n1 + 2) (n2 + 12) h1 1667 [(4, .int (nI i)), (3, .ref o), (2, .ref (q 0)), (1, .ref (ad 0 0)), (0, .ref b)] [.int (nI c)]
  refine r_istore C d_L_law_1667 (lv' := [(5, .int (nI c)), (4, .int (nI i)), (3, .ref o), (2, .ref (q 0)), (1, .ref (ad 0 0)), (0, .ref b)]) (by decide) rfl ?_
  refine r_aload_n C d_L_law_1669 3 rfl ?_
  refine r_aload_n C d_L_law_1670 5 rfl ?_
  refine r_iload C d_L_law_1671 1 rfl ?_
  refine r_iconst C d_L_law_1673 (v := nI 1) rfl ?_
  refine rn_iadd C d_L_law_1674 ?_
  refine r_sld C B d_L_law_1675 (i := i + 1) (by omega) hL ?_
  refine r_aload_n C d_L_law_1676 5 rfl ?_
  refine r_iload C d_L_law_1677 1 rfl ?_
  refine r_iconst C d_L_law_1679 (v := nI 2) rfl ?_
  refine rn_iadd C d_L_law_1680 ?_
  refine r_sld C B d_L_law_1681 (i := i + 2) (by omega) hL ?_
  refine r_callV C d_L_law_1682 ok_RL_190 (fun l _ => m_match g (xs (i + 1)) (xs (i + 2)) w.2.1.1 l G q h1 wg.2.1) wg.2.1.1 rfl rfl (As := [.int (xs (i + 1)), .int (xs (i + 2))]) rfl (rest := []) rfl (Nat.le_of_ble_eq_true rfl) ⟨⟨by decide, by decide⟩, (show n1 + 2 + 0 ≤ 601024 by omega), (show n2 + 12 + 0 ≤ 7293034 by omega)⟩ (fun v9 h2 e9 => ?_)
  obtain ⟨T9, e9, m2, f2⟩ := e9
  obtain ⟨k0, ka, ks⟩ := K9 v9 T9 e9
  obtain ⟨r9, rfl⟩ : ∃ r9, v9 = some (.int r9) := ⟨_, e9.1⟩
  show VV G x (n1 + 2) (n2 + 12) h2 1685 [(5, .int (nI c)), (4, .int (nI i)), (3, .ref o), (2, .ref (q 0)), (1, .ref (ad 0 0)), (0, .ref b)] [.int r9]
  refine r_istore C d_L_law_1685 (lv' := [(6, .int r9), (5, .int (nI c)), (4, .int (nI i)), (3, .ref o), (2, .ref (q 0)), (1, .ref (ad 0 0)), (0, .ref b)]) (by decide) rfl ?_
  refine r_aload_n C d_L_law_1687 4 rfl ?_
  refine r_callV C d_L_law_1688 ok_RL_108 (fun l _ => m_thrown T9 l G q h2 m2) m2.1 rfl rfl (As := []) rfl (rest := []) rfl (Nat.le_of_ble_eq_true rfl) ⟨⟨by decide, by decide⟩, (show n1 + 2 + 0 ≤ 601024 by omega), (show n2 + 12 + 0 ≤ 7293034 by omega)⟩ (fun v9 h3 e9 => ?_)
  obtain ⟨T3, ⟨rfl, rfl⟩, m3, f3⟩ := e9
  rw [k0]
  show VV G x (n1 + 2) (n2 + 12) h3 1691 [(6, .int r9), (5, .int (nI c)), (4, .int (nI i)), (3, .ref o), (2, .ref (q 0)), (1, .ref (ad 0 0)), (0, .ref b)] [.int (nI c)]
  have fr : mfr q h1 h3 := fun a n => (f3 a n).trans (f2 a n)
  refine r_iload C d_L_law_1691 1 rfl ?_
  refine r_icmp_eq C d_L_law_1693 (tgt := 1698) rfl (fun _ => ?_) (fun z => absurd rfl z)
  have fin : VV G x (n1 + 2) (n2 + 12) h3 1715 [(6, .int r9), (5, .int (nI c)), (4, .int (nI i)), (3, .ref o), (2, .ref (q 0)), (1, .ref (ad 0 0)), (0, .ref b)] [] := r_goto C d_L_law_1715 (tgt := 1922) rfl (r_lv [2, 3, 4, 5, 6] rfl (r_widen (by omega) (by omega) (K _ h3 (law_next s wg ks m3 fr))))
  refine r_iload C d_L_law_1698 1 rfl ?_
  refine rn_if_ne C d_L_law_1700 (tgt := 1715) rfl (by omega) (fun _ => fin) (fun c0 => ?_)
  have ho : h3 o = some (aJ G 1 f) := by rw [fr o (fun j hj => s.2.2.1 j hj)]; exact wg.2.2
  refine r_aload_n C d_L_law_1703 3 rfl ?_
  refine r_iconst C d_L_law_1704 (v := nI 0) rfl ?_
  refine r_lald C d_L_law_1705 ho (i := 0) (by decide) (by decide) ?_
  refine r_iload C d_L_law_1706 0 rfl ?_
  refine r_i2l C d_L_law_1708 ?_
  refine r_lcmp C d_L_law_1709 ?_
  rw [ka c0 r9 rfl, lg_cmp_0]
  exact r_if_eq C d_L_law_1710 (tgt := 1715) rfl (fun _ => fin) (fun z => absurd rfl z)
set_option maxHeartbeats 4000000 in
set_option maxRecDepth 100000 in
theorem lo_groups {G : eG} {x : CX} {ad : Nat → Nat → Nat} {q : Nat → Nat} {o : Nat} {g : mS} {h : hp} {b L i n1 n2 : Nat} {xs : Nat → Int32} (C : cxOk G RL cL_law room_1 7 x) (B : cxS G b L xs x) (hlf : ∀ l, cxL l x → l.stackTraces = false) (s : lst ad q o) (w : lwo G ad q o g h) (hi : i + 6 ≤ L) (hL : L ≤ 3072) (hr : n1 + 18 ≤ 601024 ∧ n2 + 138 ≤ 7293034) (K : ∀ g h, lwo G ad q o g h → VV G x (n1 + 18) (n2 + 138) h 1922 [(4, .int (nI i)), (3, .ref o), (2, .ref (q 0)), (1, .ref (ad 0 0)), (0, .ref b)] []) : VV G x n1 n2 h 1718 [(4, .int (nI i)), (3, .ref o), (2, .ref (q 0)), (1, .ref (ad 0 0)), (0, .ref b)] [] := by
  refine r_aload_n C d_L_law_1718 3 rfl ?_
  refine r_aload_n C d_L_law_1719 4 rfl ?_
  refine r_iload C d_L_law_1720 0 rfl ?_
  refine r_iconst C d_L_law_1722 (v := nI 1) rfl ?_
  refine rn_iadd C d_L_law_1723 ?_
  refine r_sld C B d_L_law_1724 (i := i + 1) (by omega) hL ?_
  refine r_aload_n C d_L_law_1725 4 rfl ?_
  refine r_iload C d_L_law_1726 0 rfl ?_
  refine r_iconst C d_L_law_1728 (v := nI 2) rfl ?_
  refine rn_iadd C d_L_law_1729 ?_
  refine r_sld C B d_L_law_1730 (i := i + 2) (by omega) hL ?_
  refine r_aload_n C d_L_law_1731 4 rfl ?_
  refine r_iload C d_L_law_1732 0 rfl ?_
  refine r_iconst C d_L_law_1734 (v := nI 3) rfl ?_
  refine rn_iadd C d_L_law_1735 ?_
  refine r_sld C B d_L_law_1736 (i := i + 3) (by omega) hL ?_
  refine r_tob (a := xs (i + 3)) C d_L_law_1737 rfl d_L_law_1740 d_L_law_1741 rfl d_L_law_1744 ?_
  refine r_aload_n C d_L_law_1745 1 rfl ?_
  refine r_callSH C d_L_law_1746 ok_RL_191 (fun l hl => lwx_groups (hlf l hl) s w) (As := [.ref (ad 0 0), .int (xs (i + 1)), .int (xs (i + 2)), .int (bI (decide (xs (i + 3) ≠ 0))), .ref o]) rfl (rest := []) rfl (Nat.le_of_ble_eq_true rfl) ⟨⟨by decide, by decide⟩, (show n1 + 2 ≤ 601024 by omega), (show n2 + 12 ≤ 7293034 by omega)⟩ (fun v9 h1 e9 => ?_)
  obtain ⟨c, g9, f, rfl, hc4, wg, K9⟩ := e9
  show VV G x (n1 + 2) (n2 + 12) h1 1749 [(4, .int (nI i)), (3, .ref o), (2, .ref (q 0)), (1, .ref (ad 0 0)), (0, .ref b)] [.int (nI c)]
  refine r_istore C d_L_law_1749 (lv' := [(5, .int (nI c)), (4, .int (nI i)), (3, .ref o), (2, .ref (q 0)), (1, .ref (ad 0 0)), (0, .ref b)]) (by decide) rfl ?_
  refine r_aload_n C d_L_law_1751 3 rfl ?_
  refine r_aload_n C d_L_law_1752 5 rfl ?_
  refine r_iload C d_L_law_1753 1 rfl ?_
  refine r_iconst C d_L_law_1755 (v := nI 1) rfl ?_
  refine rn_iadd C d_L_law_1756 ?_
  refine r_sld C B d_L_law_1757 (i := i + 1) (by omega) hL ?_
  refine r_aload_n C d_L_law_1758 5 rfl ?_
  refine r_iload C d_L_law_1759 1 rfl ?_
  refine r_iconst C d_L_law_1761 (v := nI 2) rfl ?_
  refine rn_iadd C d_L_law_1762 ?_
  refine r_sld C B d_L_law_1763 (i := i + 2) (by omega) hL ?_
  refine r_aload_n C d_L_law_1764 5 rfl ?_
  refine r_iload C d_L_law_1765 1 rfl ?_
  refine r_iconst C d_L_law_1767 (v := nI 3) rfl ?_
  refine rn_iadd C d_L_law_1768 ?_
  refine r_sld C B d_L_law_1769 (i := i + 3) (by omega) hL ?_
  refine r_tob (a := xs (i + 3)) C d_L_law_1770 rfl d_L_law_1773 d_L_law_1774 rfl d_L_law_1777 ?_
  refine r_callV C d_L_law_1778 ok_RL_193 (fun l _ => m_groups g (xs (i + 1)) (xs (i + 2)) (decide (xs (i + 3) ≠ 0)) w.2.1.1 l G q h1 wg.2.1) wg.2.1.1 rfl rfl (As := [.int (xs (i + 1)), .int (xs (i + 2)), .int (bI (decide (xs (i + 3) ≠ 0)))]) rfl (rest := []) rfl (Nat.le_of_ble_eq_true rfl) ⟨⟨by decide, by decide⟩, (show n1 + 2 + 0 ≤ 601024 by omega), (show n2 + 12 + 0 ≤ 7293034 by omega)⟩ (fun v9 h2 e9 => ?_)
  obtain ⟨T9, e9, m2, f2⟩ := e9
  obtain ⟨k0, ka, ks⟩ := K9 v9 T9 e9
  obtain ⟨r9, rfl⟩ : ∃ r9, v9 = some (.int r9) := ⟨_, e9.1⟩
  show VV G x (n1 + 2) (n2 + 12) h2 1781 [(5, .int (nI c)), (4, .int (nI i)), (3, .ref o), (2, .ref (q 0)), (1, .ref (ad 0 0)), (0, .ref b)] [.int r9]
  refine r_istore C d_L_law_1781 (lv' := [(6, .int r9), (5, .int (nI c)), (4, .int (nI i)), (3, .ref o), (2, .ref (q 0)), (1, .ref (ad 0 0)), (0, .ref b)]) (by decide) rfl ?_
  refine r_aload_n C d_L_law_1783 4 rfl ?_
  refine r_callV C d_L_law_1784 ok_RL_108 (fun l _ => m_thrown T9 l G q h2 m2) m2.1 rfl rfl (As := []) rfl (rest := []) rfl (Nat.le_of_ble_eq_true rfl) ⟨⟨by decide, by decide⟩, (show n1 + 2 + 0 ≤ 601024 by omega), (show n2 + 12 + 0 ≤ 7293034 by omega)⟩ (fun v9 h3 e9 => ?_)
  obtain ⟨T3, ⟨rfl, rfl⟩, m3, f3⟩ := e9
  rw [k0]
  show VV G x (n1 + 2) (n2 + 12) h3 1787 [(6, .int r9), (5, .int (nI c)), (4, .int (nI i)), (3, .ref o), (2, .ref (q 0)), (1, .ref (ad 0 0)), (0, .ref b)] [.int (nI c)]
  have fr : mfr q h1 h3 := fun a n => (f3 a n).trans (f2 a n)
  refine r_iload C d_L_law_1787 1 rfl ?_
  refine r_icmp_eq C d_L_law_1789 (tgt := 1794) rfl (fun _ => ?_) (fun z => absurd rfl z)
  have fin : VV G x (n1 + 2) (n2 + 12) h3 1811 [(6, .int r9), (5, .int (nI c)), (4, .int (nI i)), (3, .ref o), (2, .ref (q 0)), (1, .ref (ad 0 0)), (0, .ref b)] [] := r_goto C d_L_law_1811 (tgt := 1922) rfl (r_lv [2, 3, 4, 5, 6] rfl (r_widen (by omega) (by omega) (K _ h3 (law_next s wg ks m3 fr))))
  refine r_iload C d_L_law_1794 1 rfl ?_
  refine rn_if_ne C d_L_law_1796 (tgt := 1811) rfl (by omega) (fun _ => fin) (fun c0 => ?_)
  have ho : h3 o = some (aJ G 1 f) := by rw [fr o (fun j hj => s.2.2.1 j hj)]; exact wg.2.2
  refine r_aload_n C d_L_law_1799 3 rfl ?_
  refine r_iconst C d_L_law_1800 (v := nI 0) rfl ?_
  refine r_lald C d_L_law_1801 ho (i := 0) (by decide) (by decide) ?_
  refine r_iload C d_L_law_1802 0 rfl ?_
  refine r_i2l C d_L_law_1804 ?_
  refine r_lcmp C d_L_law_1805 ?_
  rw [ka c0 r9 rfl, lg_cmp_0]
  exact r_if_eq C d_L_law_1806 (tgt := 1811) rfl (fun _ => fin) (fun z => absurd rfl z)
set_option maxHeartbeats 4000000 in
set_option maxRecDepth 100000 in
theorem lo_groupAt {G : eG} {x : CX} {ad : Nat → Nat → Nat} {q : Nat → Nat} {o : Nat} {g : mS} {h : hp} {b L i n1 n2 : Nat} {xs : Nat → Int32} (C : cxOk G RL cL_law room_1 7 x) (B : cxS G b L xs x) (hlf : ∀ l, cxL l x → l.stackTraces = false) (s : lst ad q o) (w : lwo G ad q o g h) (hi : i + 6 ≤ L) (hL : L ≤ 3072) (hr : n1 + 18 ≤ 601024 ∧ n2 + 138 ≤ 7293034) (K : ∀ g h, lwo G ad q o g h → VV G x (n1 + 18) (n2 + 138) h 1922 [(4, .int (nI i)), (3, .ref o), (2, .ref (q 0)), (1, .ref (ad 0 0)), (0, .ref b)] []) : VV G x n1 n2 h 1814 [(4, .int (nI i)), (3, .ref o), (2, .ref (q 0)), (1, .ref (ad 0 0)), (0, .ref b)] [] := by
  refine r_aload_n C d_L_law_1814 3 rfl ?_
  refine r_aload_n C d_L_law_1815 4 rfl ?_
  refine r_iload C d_L_law_1816 0 rfl ?_
  refine r_iconst C d_L_law_1818 (v := nI 1) rfl ?_
  refine rn_iadd C d_L_law_1819 ?_
  refine r_sld C B d_L_law_1820 (i := i + 1) (by omega) hL ?_
  refine r_aload_n C d_L_law_1821 4 rfl ?_
  refine r_iload C d_L_law_1822 0 rfl ?_
  refine r_iconst C d_L_law_1824 (v := nI 2) rfl ?_
  refine rn_iadd C d_L_law_1825 ?_
  refine r_sld C B d_L_law_1826 (i := i + 2) (by omega) hL ?_
  refine r_aload_n C d_L_law_1827 4 rfl ?_
  refine r_iload C d_L_law_1828 0 rfl ?_
  refine r_iconst C d_L_law_1830 (v := nI 3) rfl ?_
  refine rn_iadd C d_L_law_1831 ?_
  refine r_sld C B d_L_law_1832 (i := i + 3) (by omega) hL ?_
  refine r_tob (a := xs (i + 3)) C d_L_law_1833 rfl d_L_law_1836 d_L_law_1837 rfl d_L_law_1840 ?_
  refine r_aload_n C d_L_law_1841 4 rfl ?_
  refine r_iload C d_L_law_1842 0 rfl ?_
  refine r_iconst C d_L_law_1844 (v := nI 4) rfl ?_
  refine rn_iadd C d_L_law_1845 ?_
  refine r_sld C B d_L_law_1846 (i := i + 4) (by omega) hL ?_
  refine r_aload_n C d_L_law_1847 1 rfl ?_
  refine r_callSH C d_L_law_1848 ok_RL_194 (fun l hl => lwx_groupAt (hlf l hl) s w) (As := [.ref (ad 0 0), .int (xs (i + 1)), .int (xs (i + 2)), .int (bI (decide (xs (i + 3) ≠ 0))), .int (xs (i + 4)), .ref o]) rfl (rest := []) rfl (Nat.le_of_ble_eq_true rfl) ⟨⟨by decide, by decide⟩, (show n1 + 3 ≤ 601024 by omega), (show n2 + 18 ≤ 7293034 by omega)⟩ (fun v9 h1 e9 => ?_)
  obtain ⟨c, g9, f, rfl, hc4, wg, K9⟩ := e9
  show VV G x (n1 + 3) (n2 + 18) h1 1851 [(4, .int (nI i)), (3, .ref o), (2, .ref (q 0)), (1, .ref (ad 0 0)), (0, .ref b)] [.int (nI c)]
  refine r_istore C d_L_law_1851 (lv' := [(5, .int (nI c)), (4, .int (nI i)), (3, .ref o), (2, .ref (q 0)), (1, .ref (ad 0 0)), (0, .ref b)]) (by decide) rfl ?_
  refine r_aload_n C d_L_law_1853 3 rfl ?_
  refine r_aload_n C d_L_law_1854 5 rfl ?_
  refine r_iload C d_L_law_1855 1 rfl ?_
  refine r_iconst C d_L_law_1857 (v := nI 1) rfl ?_
  refine rn_iadd C d_L_law_1858 ?_
  refine r_sld C B d_L_law_1859 (i := i + 1) (by omega) hL ?_
  refine r_aload_n C d_L_law_1860 5 rfl ?_
  refine r_iload C d_L_law_1861 1 rfl ?_
  refine r_iconst C d_L_law_1863 (v := nI 2) rfl ?_
  refine rn_iadd C d_L_law_1864 ?_
  refine r_sld C B d_L_law_1865 (i := i + 2) (by omega) hL ?_
  refine r_aload_n C d_L_law_1866 5 rfl ?_
  refine r_iload C d_L_law_1867 1 rfl ?_
  refine r_iconst C d_L_law_1869 (v := nI 3) rfl ?_
  refine rn_iadd C d_L_law_1870 ?_
  refine r_sld C B d_L_law_1871 (i := i + 3) (by omega) hL ?_
  refine r_tob (a := xs (i + 3)) C d_L_law_1872 rfl d_L_law_1875 d_L_law_1876 rfl d_L_law_1879 ?_
  refine r_aload_n C d_L_law_1880 5 rfl ?_
  refine r_iload C d_L_law_1881 1 rfl ?_
  refine r_iconst C d_L_law_1883 (v := nI 4) rfl ?_
  refine rn_iadd C d_L_law_1884 ?_
  refine r_sld C B d_L_law_1885 (i := i + 4) (by omega) hL ?_
  refine r_callV C d_L_law_1886 ok_RL_197 (fun l _ => m_groupAt g (xs (i + 1)) (xs (i + 2)) (decide (xs (i + 3) ≠ 0)) (xs (i + 4)) w.2.1.1 l G q h1 wg.2.1) wg.2.1.1 rfl rfl (As := [.int (xs (i + 1)), .int (xs (i + 2)), .int (bI (decide (xs (i + 3) ≠ 0))), .int (xs (i + 4))]) rfl (rest := []) rfl (Nat.le_of_ble_eq_true rfl) ⟨⟨by decide, by decide⟩, (show n1 + 3 + 0 ≤ 601024 by omega), (show n2 + 18 + 0 ≤ 7293034 by omega)⟩ (fun v9 h2 e9 => ?_)
  obtain ⟨T9, e9, m2, f2⟩ := e9
  obtain ⟨k0, ka, ks⟩ := K9 v9 T9 e9
  obtain ⟨r9, rfl⟩ : ∃ r9, v9 = some (.int r9) := ⟨_, e9.1⟩
  show VV G x (n1 + 3) (n2 + 18) h2 1889 [(5, .int (nI c)), (4, .int (nI i)), (3, .ref o), (2, .ref (q 0)), (1, .ref (ad 0 0)), (0, .ref b)] [.int r9]
  refine r_istore C d_L_law_1889 (lv' := [(6, .int r9), (5, .int (nI c)), (4, .int (nI i)), (3, .ref o), (2, .ref (q 0)), (1, .ref (ad 0 0)), (0, .ref b)]) (by decide) rfl ?_
  refine r_aload_n C d_L_law_1891 4 rfl ?_
  refine r_callV C d_L_law_1892 ok_RL_108 (fun l _ => m_thrown T9 l G q h2 m2) m2.1 rfl rfl (As := []) rfl (rest := []) rfl (Nat.le_of_ble_eq_true rfl) ⟨⟨by decide, by decide⟩, (show n1 + 3 + 0 ≤ 601024 by omega), (show n2 + 18 + 0 ≤ 7293034 by omega)⟩ (fun v9 h3 e9 => ?_)
  obtain ⟨T3, ⟨rfl, rfl⟩, m3, f3⟩ := e9
  rw [k0]
  show VV G x (n1 + 3) (n2 + 18) h3 1895 [(6, .int r9), (5, .int (nI c)), (4, .int (nI i)), (3, .ref o), (2, .ref (q 0)), (1, .ref (ad 0 0)), (0, .ref b)] [.int (nI c)]
  have fr : mfr q h1 h3 := fun a n => (f3 a n).trans (f2 a n)
  refine r_iload C d_L_law_1895 1 rfl ?_
  refine r_icmp_eq C d_L_law_1897 (tgt := 1902) rfl (fun _ => ?_) (fun z => absurd rfl z)
  have fin : VV G x (n1 + 3) (n2 + 18) h3 1919 [(6, .int r9), (5, .int (nI c)), (4, .int (nI i)), (3, .ref o), (2, .ref (q 0)), (1, .ref (ad 0 0)), (0, .ref b)] [] := r_goto C d_L_law_1919 (tgt := 1922) rfl (r_lv [2, 3, 4, 5, 6] rfl (r_widen (by omega) (by omega) (K _ h3 (law_next s wg ks m3 fr))))
  refine r_iload C d_L_law_1902 1 rfl ?_
  refine rn_if_ne C d_L_law_1904 (tgt := 1919) rfl (by omega) (fun _ => fin) (fun c0 => ?_)
  have ho : h3 o = some (aJ G 1 f) := by rw [fr o (fun j hj => s.2.2.1 j hj)]; exact wg.2.2
  refine r_aload_n C d_L_law_1907 3 rfl ?_
  refine r_iconst C d_L_law_1908 (v := nI 0) rfl ?_
  refine r_lald C d_L_law_1909 ho (i := 0) (by decide) (by decide) ?_
  refine r_iload C d_L_law_1910 0 rfl ?_
  refine r_i2l C d_L_law_1912 ?_
  refine r_lcmp C d_L_law_1913 ?_
  rw [ka c0 r9 rfl, lg_cmp_0]
  exact r_if_eq C d_L_law_1914 (tgt := 1919) rfl (fun _ => fin) (fun z => absurd rfl z)
