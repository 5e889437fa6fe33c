/-! ===== the law: its cases ===== -/
theorem envT {G : GT} : EnvOK G ML_law [(93, ce_X5_thrown)] := env_cons (ceV (by decide +kernel) ⟨by decide, by decide, by decide +kernel⟩ (by decide) rfl (ok_X5_thrown G)) envL
/-! build -/
set_option maxRecDepth 100000 in
set_option maxHeartbeats 4000000 in
theorem lc_build (G : GT) {D : WD} {S : SS} {A : Nat → Nat} {h : Hp} {m o i : Nat} {o5 o6 o7 o8 : Option Value} {b : Nat × Nat} (J : JI G h D m A S o) (hL : scL G ≤ 3584) (hi : i + 6 < scL G) (hb : 60 ≤ b.1 ∧ 1600 ≤ b.2)
    (K : ∀ D' T h' o5 o6 b', JI G h' D' m A T o → b.1 ≤ b'.1 + 60 → b.2 ≤ b'.2 + 1600 → WpL G 1743 [some (.ref (scB G)), some (.ref (D' 0 0)), some (.ref m), some (.ref o), some (.int (i32 i)), o5, o6, o7, o8] [] h' b') :
    WpL G 148 [some (.ref (scB G)), some (.ref (D 0 0)), some (.ref m), some (.ref o), some (.int (i32 i)), o5, o6, o7, o8] [] h b := by
  have hW := J.1
  have hw := J.2.1
  have hI := J.2.2.1
  have ko := J.2.2.2.2.2.2.1
  have lo := J.2.2.2.2.2.2.2
  refine WpL.al DL_law_148 rfl ?_
  refine WpL.sa (k := 1) hL (by omega) rfl rfl rfl DL_law_149 DL_law_150 DL_law_152 DL_law_153 DL_law_154 ?_
  refine WpL.sa (k := 2) hL (by omega) rfl rfl rfl DL_law_155 DL_law_156 DL_law_158 DL_law_159 DL_law_160 ?_
  refine WpL.sa (k := 3) hL (by omega) rfl rfl rfl DL_law_161 DL_law_162 DL_law_164 DL_law_165 DL_law_166 ?_
  refine WpL.sa (k := 4) hL (by omega) rfl rfl rfl DL_law_167 DL_law_168 DL_law_170 DL_law_171 DL_law_172 ?_
  refine WpL.sa (k := 5) hL (by omega) rfl rfl rfl DL_law_173 DL_law_174 DL_law_176 DL_law_177 DL_law_178 ?_
  refine WpL.sb (k := 6) hL (by omega) rfl rfl rfl DL_law_179 DL_law_180 DL_law_182 DL_law_184 DL_law_185 ?_
  refine WpL.al DL_law_186 rfl ?_
  refine WpL.cS (ce := ce_L_build G D S) (As := [.ref (D 0 0), .int (scX G (i + 1)), .int (scX G (i + 2)), .int (scX G (i + 3)), .int (scX G (i + 4)), .int (scX G (i + 5)), .int (scX G (i + 6)), .ref o]) (rest := []) DL_law_187 (env_cons (ceS (by decide +kernel) ⟨by decide, by decide, by decide +kernel⟩ (by decide) (ok_L_build G G D S hW)) envL) rfl (fun _ => rfl) (Nat.le_of_ble_eq_true rfl) (by show 8 ≤ b.1; omega) (by show 110 ≤ b.2; omega) (Nat.le_of_ble_eq_true rfl) ?_
  refine And.intro hI (And.intro hw (And.intro rfl (And.intro ko (And.intro lo (fun kk vv T hO h1 D' e f w hI' hj => ?_)))))
  obtain ⟨hk, hWF, hWW⟩ := wf_build hW hw hO
  obtain ⟨hM1, hC1⟩ := J.md f
  show WpL G 190 [some (.ref (scB G)), some (.ref (D 0 0)), some (.ref m), some (.ref o), some (.int (i32 i)), o5, o6, o7, o8] [.int (i32 kk)] h1 (b.1 - 8, b.2 - 110)
  refine WpL.is DL_law_190 (by show 5 < 9; omega) ?_
  show WpL G 192 [some (.ref (scB G)), some (.ref (D 0 0)), some (.ref m), some (.ref o), some (.int (i32 i)), some (.int (i32 kk)), o6, o7, o8] [] h1 (b.1 - 8, b.2 - 110)
  refine WpL.al DL_law_192 rfl ?_
  refine WpL.sa (k := 1) hL (by omega) rfl rfl rfl DL_law_193 DL_law_194 DL_law_196 DL_law_197 DL_law_198 ?_
  refine WpL.sa (k := 2) hL (by omega) rfl rfl rfl DL_law_199 DL_law_200 DL_law_202 DL_law_203 DL_law_204 ?_
  refine WpL.sa (k := 3) hL (by omega) rfl rfl rfl DL_law_205 DL_law_206 DL_law_208 DL_law_209 DL_law_210 ?_
  refine WpL.sa (k := 4) hL (by omega) rfl rfl rfl DL_law_211 DL_law_212 DL_law_214 DL_law_215 DL_law_216 ?_
  refine WpL.sa (k := 5) hL (by omega) rfl rfl rfl DL_law_217 DL_law_218 DL_law_220 DL_law_221 DL_law_222 ?_
  refine WpL.sb (k := 6) hL (by omega) rfl rfl rfl DL_law_223 DL_law_224 DL_law_226 DL_law_228 DL_law_229 ?_
  refine WpL.cV (x := 6) (ce := ce_X5_build A S) (As := [.int (scX G (i + 1)), .int (scX G (i + 2)), .int (scX G (i + 3)), .int (scX G (i + 4)), .int (scX G (i + 5)), .int (scX G (i + 6))]) (rest := []) DL_law_230 (env_cons (ceV (by decide +kernel) ⟨by decide, by decide, by decide +kernel⟩ (by decide) rfl (ok_X5_build G A S hW)) envL) rfl (fun _ => rfl) hM1.1.1 (by omega) rfl (Nat.le_of_ble_eq_true rfl) (by show 1 ≤ b.1 - 8; omega) (by show 7 ≤ b.2 - 110; omega) (Nat.le_of_ble_eq_true rfl) ?_
  refine m_build (QX := PXL) hW hw hM1 hC1 hO (fun h2 f2 e2 hM2 hC2 w2 hw2 => ?_)
  show WpL G 233 [some (.ref (scB G)), some (.ref (D 0 0)), some (.ref m), some (.ref o), some (.int (i32 i)), some (.int (i32 kk)), o6, o7, o8] [.int w2] h2 (b.1 - 8 - 1, b.2 - 110 - 7)
  refine Wp.emp (fun hE => ?_)
  have J2 := J.nx f w hI' hE f2 hM2 hC2 hWF hWW
  rw [← e]
  exact tl_law (q := 233) envT DL_law_233 DL_law_235 DL_law_236 DL_law_239 DL_law_241 DL_law_246 DL_law_248 DL_law_251 DL_law_252 DL_law_253 DL_law_254 DL_law_256 DL_law_257 DL_law_258 DL_law_263 J2 hk e2 hw2 (fun z => (J.ja f f2).trans (hj z)) (K D' T h2 _ _ _ J2 (by show b.1 ≤ b.1 - 8 - 1 + 60; omega) (by show b.2 ≤ b.2 - 110 - 7 + 1600; omega))
/-! tearDown -/
set_option maxRecDepth 100000 in
set_option maxHeartbeats 4000000 in
theorem lc_tearDown (G : GT) {D : WD} {S : SS} {A : Nat → Nat} {h : Hp} {m o i : Nat} {o5 o6 o7 o8 : Option Value} {b : Nat × Nat} (J : JI G h D m A S o) (hL : scL G ≤ 3584) (hi : i + 6 < scL G) (hb : 60 ≤ b.1 ∧ 1600 ≤ b.2)
    (K : ∀ D' T h' o5 o6 b', JI G h' D' m A T o → b.1 ≤ b'.1 + 60 → b.2 ≤ b'.2 + 1600 → WpL G 1743 [some (.ref (scB G)), some (.ref (D' 0 0)), some (.ref m), some (.ref o), some (.int (i32 i)), o5, o6, o7, o8] [] h' b') :
    WpL G 266 [some (.ref (scB G)), some (.ref (D 0 0)), some (.ref m), some (.ref o), some (.int (i32 i)), o5, o6, o7, o8] [] h b := by
  have hW := J.1
  have hw := J.2.1
  have hI := J.2.2.1
  have ko := J.2.2.2.2.2.2.1
  have lo := J.2.2.2.2.2.2.2
  refine WpL.al DL_law_266 rfl ?_
  refine WpL.sa (k := 1) hL (by omega) rfl rfl rfl DL_law_267 DL_law_268 DL_law_270 DL_law_271 DL_law_272 ?_
  refine WpL.al DL_law_273 rfl ?_
  refine WpL.cS (ce := ce_L_tearDown G D S) (As := [.ref (D 0 0), .int (scX G (i + 1)), .ref o]) (rest := []) DL_law_274 (env_cons (ceS (by decide +kernel) ⟨by decide, by decide, by decide +kernel⟩ (by decide) (ok_L_tearDown G G D S hW)) envL) rfl (fun _ => rfl) (Nat.le_of_ble_eq_true rfl) (by show 8 ≤ b.1; omega) (by show 48 ≤ b.2; omega) (Nat.le_of_ble_eq_true rfl) ?_
  refine And.intro hI (And.intro hw (And.intro rfl (And.intro ko (And.intro lo (fun kk vv T hO h1 D' e f w hI' hj => ?_)))))
  obtain ⟨hk, hWF, hWW⟩ := wf_tearDown hW hw hO
  obtain ⟨hM1, hC1⟩ := J.md f
  show WpL G 277 [some (.ref (scB G)), some (.ref (D 0 0)), some (.ref m), some (.ref o), some (.int (i32 i)), o5, o6, o7, o8] [.int (i32 kk)] h1 (b.1 - 8, b.2 - 48)
  refine WpL.is DL_law_277 (by show 5 < 9; omega) ?_
  show WpL G 279 [some (.ref (scB G)), some (.ref (D 0 0)), some (.ref m), some (.ref o), some (.int (i32 i)), some (.int (i32 kk)), o6, o7, o8] [] h1 (b.1 - 8, b.2 - 48)
  refine WpL.al DL_law_279 rfl ?_
  refine WpL.sa (k := 1) hL (by omega) rfl rfl rfl DL_law_280 DL_law_281 DL_law_283 DL_law_284 DL_law_285 ?_
  refine WpL.cV (x := 6) (ce := ce_X5_tearDown A S) (As := [.int (scX G (i + 1))]) (rest := []) DL_law_286 (env_cons (ceV (by decide +kernel) ⟨by decide, by decide, by decide +kernel⟩ (by decide) rfl (ok_X5_tearDown G A S hW)) envL) rfl (fun _ => rfl) hM1.1.1 (by omega) rfl (Nat.le_of_ble_eq_true rfl) (by show 0 ≤ b.1 - 8; omega) (by show 0 ≤ b.2 - 48; omega) (Nat.le_of_ble_eq_true rfl) ?_
  refine m_tearDown (QX := PXL) hW hw hM1 hC1 hO (fun h2 f2 e2 hM2 hC2 w2 hw2 => ?_)
  show WpL G 289 [some (.ref (scB G)), some (.ref (D 0 0)), some (.ref m), some (.ref o), some (.int (i32 i)), some (.int (i32 kk)), o6, o7, o8] [.int w2] h2 (b.1 - 8 - 0, b.2 - 48 - 0)
  refine Wp.emp (fun hE => ?_)
  have J2 := J.nx f w hI' hE f2 hM2 hC2 hWF hWW
  rw [← e]
  exact tl_law (q := 289) envT DL_law_289 DL_law_291 DL_law_292 DL_law_295 DL_law_297 DL_law_302 DL_law_304 DL_law_307 DL_law_308 DL_law_309 DL_law_310 DL_law_312 DL_law_313 DL_law_314 DL_law_319 J2 hk e2 hw2 (fun z => (J.ja f f2).trans (hj z)) (K D' T h2 _ _ _ J2 (by show b.1 ≤ b.1 - 8 - 0 + 60; omega) (by show b.2 ≤ b.2 - 48 - 0 + 1600; omega))
/-! raise -/
set_option maxRecDepth 100000 in
set_option maxHeartbeats 4000000 in
theorem lc_raise (G : GT) {D : WD} {S : SS} {A : Nat → Nat} {h : Hp} {m o i : Nat} {o5 o6 o7 o8 : Option Value} {b : Nat × Nat} (J : JI G h D m A S o) (hL : scL G ≤ 3584) (hi : i + 6 < scL G) (hb : 60 ≤ b.1 ∧ 1600 ≤ b.2)
    (K : ∀ D' T h' o5 o6 b', JI G h' D' m A T o → b.1 ≤ b'.1 + 60 → b.2 ≤ b'.2 + 1600 → WpL G 1743 [some (.ref (scB G)), some (.ref (D' 0 0)), some (.ref m), some (.ref o), some (.int (i32 i)), o5, o6, o7, o8] [] h' b') :
    WpL G 322 [some (.ref (scB G)), some (.ref (D 0 0)), some (.ref m), some (.ref o), some (.int (i32 i)), o5, o6, o7, o8] [] h b := by
  have hW := J.1
  have hw := J.2.1
  have hI := J.2.2.1
  have ko := J.2.2.2.2.2.2.1
  have lo := J.2.2.2.2.2.2.2
  refine WpL.al DL_law_322 rfl ?_
  refine WpL.sa (k := 1) hL (by omega) rfl rfl rfl DL_law_323 DL_law_324 DL_law_326 DL_law_327 DL_law_328 ?_
  refine WpL.sa (k := 2) hL (by omega) rfl rfl rfl DL_law_329 DL_law_330 DL_law_332 DL_law_333 DL_law_334 ?_
  refine WpL.al DL_law_335 rfl ?_
  refine WpL.cS (ce := ce_L_raise G D S) (As := [.ref (D 0 0), .int (scX G (i + 1)), .int (scX G (i + 2)), .ref o]) (rest := []) DL_law_336 (env_cons (ceS (by decide +kernel) ⟨by decide, by decide, by decide +kernel⟩ (by decide) (ok_L_raise G G D S hW)) envL) rfl (fun _ => rfl) (Nat.le_of_ble_eq_true rfl) (by show 8 ≤ b.1; omega) (by show 48 ≤ b.2; omega) (Nat.le_of_ble_eq_true rfl) ?_
  refine And.intro hI (And.intro hw (And.intro rfl (And.intro ko (And.intro lo (fun kk vv T hO h1 D' e f w hI' hj => ?_)))))
  obtain ⟨hk, hWF, hWW⟩ := wf_raise hW hw hO
  obtain ⟨hM1, hC1⟩ := J.md f
  show WpL G 339 [some (.ref (scB G)), some (.ref (D 0 0)), some (.ref m), some (.ref o), some (.int (i32 i)), o5, o6, o7, o8] [.int (i32 kk)] h1 (b.1 - 8, b.2 - 48)
  refine WpL.is DL_law_339 (by show 5 < 9; omega) ?_
  show WpL G 341 [some (.ref (scB G)), some (.ref (D 0 0)), some (.ref m), some (.ref o), some (.int (i32 i)), some (.int (i32 kk)), o6, o7, o8] [] h1 (b.1 - 8, b.2 - 48)
  refine WpL.al DL_law_341 rfl ?_
  refine WpL.sa (k := 1) hL (by omega) rfl rfl rfl DL_law_342 DL_law_343 DL_law_345 DL_law_346 DL_law_347 ?_
  refine WpL.sa (k := 2) hL (by omega) rfl rfl rfl DL_law_348 DL_law_349 DL_law_351 DL_law_352 DL_law_353 ?_
  refine WpL.cV (x := 6) (ce := ce_X5_raise A S) (As := [.int (scX G (i + 1)), .int (scX G (i + 2))]) (rest := []) DL_law_354 (env_cons (ceV (by decide +kernel) ⟨by decide, by decide, by decide +kernel⟩ (by decide) rfl (ok_X5_raise G A S hW)) envL) rfl (fun _ => rfl) hM1.1.1 (by omega) rfl (Nat.le_of_ble_eq_true rfl) (by show 0 ≤ b.1 - 8; omega) (by show 0 ≤ b.2 - 48; omega) (Nat.le_of_ble_eq_true rfl) ?_
  refine m_raise (QX := PXL) hW hw hM1 hC1 hO (fun h2 f2 e2 hM2 hC2 w2 hw2 => ?_)
  show WpL G 357 [some (.ref (scB G)), some (.ref (D 0 0)), some (.ref m), some (.ref o), some (.int (i32 i)), some (.int (i32 kk)), o6, o7, o8] [.int w2] h2 (b.1 - 8 - 0, b.2 - 48 - 0)
  refine Wp.emp (fun hE => ?_)
  have J2 := J.nx f w hI' hE f2 hM2 hC2 hWF hWW
  rw [← e]
  exact tl_law (q := 357) envT DL_law_357 DL_law_359 DL_law_360 DL_law_363 DL_law_365 DL_law_370 DL_law_372 DL_law_375 DL_law_376 DL_law_377 DL_law_378 DL_law_380 DL_law_381 DL_law_382 DL_law_387 J2 hk e2 hw2 (fun z => (J.ja f f2).trans (hj z)) (K D' T h2 _ _ _ J2 (by show b.1 ≤ b.1 - 8 - 0 + 60; omega) (by show b.2 ≤ b.2 - 48 - 0 + 1600; omega))
/-! setSun -/
set_option maxRecDepth 100000 in
set_option maxHeartbeats 4000000 in
theorem lc_setSun (G : GT) {D : WD} {S : SS} {A : Nat → Nat} {h : Hp} {m o i : Nat} {o5 o6 o7 o8 : Option Value} {b : Nat × Nat} (J : JI G h D m A S o) (hL : scL G ≤ 3584) (hi : i + 6 < scL G) (hb : 60 ≤ b.1 ∧ 1600 ≤ b.2)
    (K : ∀ D' T h' o5 o6 b', JI G h' D' m A T o → b.1 ≤ b'.1 + 60 → b.2 ≤ b'.2 + 1600 → WpL G 1743 [some (.ref (scB G)), some (.ref (D' 0 0)), some (.ref m), some (.ref o), some (.int (i32 i)), o5, o6, o7, o8] [] h' b') :
    WpL G 390 [some (.ref (scB G)), some (.ref (D 0 0)), some (.ref m), some (.ref o), some (.int (i32 i)), o5, o6, o7, o8] [] h b := by
  have hW := J.1
  have hw := J.2.1
  have hI := J.2.2.1
  have ko := J.2.2.2.2.2.2.1
  have lo := J.2.2.2.2.2.2.2
  refine WpL.al DL_law_390 rfl ?_
  refine WpL.sa (k := 1) hL (by omega) rfl rfl rfl DL_law_391 DL_law_392 DL_law_394 DL_law_395 DL_law_396 ?_
  refine WpL.sa (k := 2) hL (by omega) rfl rfl rfl DL_law_397 DL_law_398 DL_law_400 DL_law_401 DL_law_402 ?_
  refine WpL.sa (k := 3) hL (by omega) rfl rfl rfl DL_law_403 DL_law_404 DL_law_406 DL_law_407 DL_law_408 ?_
  refine WpL.sa (k := 4) hL (by omega) rfl rfl rfl DL_law_409 DL_law_410 DL_law_412 DL_law_413 DL_law_414 ?_
  refine WpL.al DL_law_415 rfl ?_
  refine WpL.cS (ce := ce_L_setSun G D S) (As := [.ref (D 0 0), .int (scX G (i + 1)), .int (scX G (i + 2)), .int (scX G (i + 3)), .int (scX G (i + 4)), .ref o]) (rest := []) DL_law_416 (env_cons (ceS (by decide +kernel) ⟨by decide, by decide, by decide +kernel⟩ (by decide) (ok_L_setSun G G D S hW)) envL) rfl (fun _ => rfl) (Nat.le_of_ble_eq_true rfl) (by show 8 ≤ b.1; omega) (by show 48 ≤ b.2; omega) (Nat.le_of_ble_eq_true rfl) ?_
  refine And.intro hI (And.intro hw (And.intro rfl (And.intro ko (And.intro lo (fun kk vv T hO h1 D' e f w hI' hj => ?_)))))
  obtain ⟨hk, hWF, hWW⟩ := wf_setSun hW hw hO
  obtain ⟨hM1, hC1⟩ := J.md f
  show WpL G 419 [some (.ref (scB G)), some (.ref (D 0 0)), some (.ref m), some (.ref o), some (.int (i32 i)), o5, o6, o7, o8] [.int (i32 kk)] h1 (b.1 - 8, b.2 - 48)
  refine WpL.is DL_law_419 (by show 5 < 9; omega) ?_
  show WpL G 421 [some (.ref (scB G)), some (.ref (D 0 0)), some (.ref m), some (.ref o), some (.int (i32 i)), some (.int (i32 kk)), o6, o7, o8] [] h1 (b.1 - 8, b.2 - 48)
  refine WpL.al DL_law_421 rfl ?_
  refine WpL.sa (k := 1) hL (by omega) rfl rfl rfl DL_law_422 DL_law_423 DL_law_425 DL_law_426 DL_law_427 ?_
  refine WpL.sa (k := 2) hL (by omega) rfl rfl rfl DL_law_428 DL_law_429 DL_law_431 DL_law_432 DL_law_433 ?_
  refine WpL.sa (k := 3) hL (by omega) rfl rfl rfl DL_law_434 DL_law_435 DL_law_437 DL_law_438 DL_law_439 ?_
  refine WpL.sa (k := 4) hL (by omega) rfl rfl rfl DL_law_440 DL_law_441 DL_law_443 DL_law_444 DL_law_445 ?_
  refine WpL.cV (x := 6) (ce := ce_X5_setSun A S) (As := [.int (scX G (i + 1)), .int (scX G (i + 2)), .int (scX G (i + 3)), .int (scX G (i + 4))]) (rest := []) DL_law_446 (env_cons (ceV (by decide +kernel) ⟨by decide, by decide, by decide +kernel⟩ (by decide) rfl (ok_X5_setSun G A S hW)) envL) rfl (fun _ => rfl) hM1.1.1 (by omega) rfl (Nat.le_of_ble_eq_true rfl) (by show 1 ≤ b.1 - 8; omega) (by show 3 ≤ b.2 - 48; omega) (Nat.le_of_ble_eq_true rfl) ?_
  refine m_setSun (QX := PXL) hW hw hM1 hC1 hO (fun h2 f2 e2 hM2 hC2 w2 hw2 => ?_)
  show WpL G 449 [some (.ref (scB G)), some (.ref (D 0 0)), some (.ref m), some (.ref o), some (.int (i32 i)), some (.int (i32 kk)), o6, o7, o8] [.int w2] h2 (b.1 - 8 - 1, b.2 - 48 - 3)
  refine Wp.emp (fun hE => ?_)
  have J2 := J.nx f w hI' hE f2 hM2 hC2 hWF hWW
  rw [← e]
  exact tl_law (q := 449) envT DL_law_449 DL_law_451 DL_law_452 DL_law_455 DL_law_457 DL_law_462 DL_law_464 DL_law_467 DL_law_468 DL_law_469 DL_law_470 DL_law_472 DL_law_473 DL_law_474 DL_law_479 J2 hk e2 hw2 (fun z => (J.ja f f2).trans (hj z)) (K D' T h2 _ _ _ J2 (by show b.1 ≤ b.1 - 8 - 1 + 60; omega) (by show b.2 ≤ b.2 - 48 - 3 + 1600; omega))
/-! building -/
set_option maxRecDepth 100000 in
set_option maxHeartbeats 4000000 in
theorem lc_building (G : GT) {D : WD} {S : SS} {A : Nat → Nat} {h : Hp} {m o i : Nat} {o5 o6 o7 o8 : Option Value} {b : Nat × Nat} (J : JI G h D m A S o) (hL : scL G ≤ 3584) (hi : i + 6 < scL G) (hb : 60 ≤ b.1 ∧ 1600 ≤ b.2)
    (K : ∀ D' T h' o5 o6 b', JI G h' D' m A T o → b.1 ≤ b'.1 + 60 → b.2 ≤ b'.2 + 1600 → WpL G 1743 [some (.ref (scB G)), some (.ref (D' 0 0)), some (.ref m), some (.ref o), some (.int (i32 i)), o5, o6, o7, o8] [] h' b') :
    WpL G 482 [some (.ref (scB G)), some (.ref (D 0 0)), some (.ref m), some (.ref o), some (.int (i32 i)), o5, o6, o7, o8] [] h b := by
  have hW := J.1
  have hw := J.2.1
  have hI := J.2.2.1
  have ko := J.2.2.2.2.2.2.1
  have lo := J.2.2.2.2.2.2.2
  refine WpL.al DL_law_482 rfl ?_
  refine WpL.sa (k := 1) hL (by omega) rfl rfl rfl DL_law_483 DL_law_484 DL_law_486 DL_law_487 DL_law_488 ?_
  refine WpL.sa (k := 2) hL (by omega) rfl rfl rfl DL_law_489 DL_law_490 DL_law_492 DL_law_493 DL_law_494 ?_
  refine WpL.al DL_law_495 rfl ?_
  refine WpL.cS (ce := ce_L_building G D S) (As := [.ref (D 0 0), .int (scX G (i + 1)), .int (scX G (i + 2)), .ref o]) (rest := []) DL_law_496 (env_cons (ceS (by decide +kernel) ⟨by decide, by decide, by decide +kernel⟩ (by decide) (ok_L_building G G D S hW)) envL) rfl (fun _ => rfl) (Nat.le_of_ble_eq_true rfl) (by show 4 ≤ b.1; omega) (by show 24 ≤ b.2; omega) (Nat.le_of_ble_eq_true rfl) ?_
  refine And.intro hI (And.intro hw (And.intro rfl (And.intro ko (And.intro lo (fun kk vv T hO h1 D' e f w hI' hj => ?_)))))
  obtain ⟨hk, hWF, hWW⟩ := wf_building hW hw hO
  obtain ⟨hM1, hC1⟩ := J.md f
  show WpL G 499 [some (.ref (scB G)), some (.ref (D 0 0)), some (.ref m), some (.ref o), some (.int (i32 i)), o5, o6, o7, o8] [.int (i32 kk)] h1 (b.1 - 4, b.2 - 24)
  refine WpL.is DL_law_499 (by show 5 < 9; omega) ?_
  show WpL G 501 [some (.ref (scB G)), some (.ref (D 0 0)), some (.ref m), some (.ref o), some (.int (i32 i)), some (.int (i32 kk)), o6, o7, o8] [] h1 (b.1 - 4, b.2 - 24)
  refine WpL.al DL_law_501 rfl ?_
  refine WpL.sa (k := 1) hL (by omega) rfl rfl rfl DL_law_502 DL_law_503 DL_law_505 DL_law_506 DL_law_507 ?_
  refine WpL.sa (k := 2) hL (by omega) rfl rfl rfl DL_law_508 DL_law_509 DL_law_511 DL_law_512 DL_law_513 ?_
  refine WpL.cV (x := 6) (ce := ce_X5_building A S) (As := [.int (scX G (i + 1)), .int (scX G (i + 2))]) (rest := []) DL_law_514 (env_cons (ceV (by decide +kernel) ⟨by decide, by decide, by decide +kernel⟩ (by decide) rfl (ok_X5_building G A S hW)) envL) rfl (fun _ => rfl) hM1.1.1 (by omega) rfl (Nat.le_of_ble_eq_true rfl) (by show 0 ≤ b.1 - 4; omega) (by show 0 ≤ b.2 - 24; omega) (Nat.le_of_ble_eq_true rfl) ?_
  refine m_building (QX := PXL) hW hw hM1 hC1 hO (fun h2 f2 e2 hM2 hC2 w2 hw2 => ?_)
  show WpL G 517 [some (.ref (scB G)), some (.ref (D 0 0)), some (.ref m), some (.ref o), some (.int (i32 i)), some (.int (i32 kk)), o6, o7, o8] [.int w2] h2 (b.1 - 4 - 0, b.2 - 24 - 0)
  refine Wp.emp (fun hE => ?_)
  have J2 := J.nx f w hI' hE f2 hM2 hC2 hWF hWW
  rw [← e]
  exact tl_law (q := 517) envT DL_law_517 DL_law_519 DL_law_520 DL_law_523 DL_law_525 DL_law_530 DL_law_532 DL_law_535 DL_law_536 DL_law_537 DL_law_538 DL_law_540 DL_law_541 DL_law_542 DL_law_547 J2 hk e2 hw2 (fun z => (J.ja f f2).trans (hj z)) (K D' T h2 _ _ _ J2 (by show b.1 ≤ b.1 - 4 - 0 + 60; omega) (by show b.2 ≤ b.2 - 24 - 0 + 1600; omega))
/-! shade -/
set_option maxRecDepth 100000 in
set_option maxHeartbeats 4000000 in
theorem lc_shade (G : GT) {D : WD} {S : SS} {A : Nat → Nat} {h : Hp} {m o i : Nat} {o5 o6 o7 o8 : Option Value} {b : Nat × Nat} (J : JI G h D m A S o) (hL : scL G ≤ 3584) (hi : i + 6 < scL G) (hb : 60 ≤ b.1 ∧ 1600 ≤ b.2)
    (K : ∀ D' T h' o5 o6 b', JI G h' D' m A T o → b.1 ≤ b'.1 + 60 → b.2 ≤ b'.2 + 1600 → WpL G 1743 [some (.ref (scB G)), some (.ref (D' 0 0)), some (.ref m), some (.ref o), some (.int (i32 i)), o5, o6, o7, o8] [] h' b') :
    WpL G 550 [some (.ref (scB G)), some (.ref (D 0 0)), some (.ref m), some (.ref o), some (.int (i32 i)), o5, o6, o7, o8] [] h b := by
  have hW := J.1
  have hw := J.2.1
  have hI := J.2.2.1
  have ko := J.2.2.2.2.2.2.1
  have lo := J.2.2.2.2.2.2.2
  refine WpL.al DL_law_550 rfl ?_
  refine WpL.sa (k := 1) hL (by omega) rfl rfl rfl DL_law_551 DL_law_552 DL_law_554 DL_law_555 DL_law_556 ?_
  refine WpL.sa (k := 2) hL (by omega) rfl rfl rfl DL_law_557 DL_law_558 DL_law_560 DL_law_561 DL_law_562 ?_
  refine WpL.sa (k := 3) hL (by omega) rfl rfl rfl DL_law_563 DL_law_564 DL_law_566 DL_law_567 DL_law_568 ?_
  refine WpL.al DL_law_569 rfl ?_
  refine WpL.cS (ce := ce_L_shade G D S) (As := [.ref (D 0 0), .int (scX G (i + 1)), .int (scX G (i + 2)), .int (scX G (i + 3)), .ref o]) (rest := []) DL_law_570 (env_cons (ceS (by decide +kernel) ⟨by decide, by decide, by decide +kernel⟩ (by decide) (ok_L_shade G G D S hW)) envL) rfl (fun _ => rfl) (Nat.le_of_ble_eq_true rfl) (by show 4 ≤ b.1; omega) (by show 24 ≤ b.2; omega) (Nat.le_of_ble_eq_true rfl) ?_
  refine And.intro hI (And.intro hw (And.intro rfl (And.intro ko (And.intro lo (fun kk vv T hO h1 D' e f w hI' hj => ?_)))))
  obtain ⟨hk, hWF, hWW⟩ := wf_shade hW hw hO
  obtain ⟨hM1, hC1⟩ := J.md f
  show WpL G 573 [some (.ref (scB G)), some (.ref (D 0 0)), some (.ref m), some (.ref o), some (.int (i32 i)), o5, o6, o7, o8] [.int (i32 kk)] h1 (b.1 - 4, b.2 - 24)
  refine WpL.is DL_law_573 (by show 5 < 9; omega) ?_
  show WpL G 575 [some (.ref (scB G)), some (.ref (D 0 0)), some (.ref m), some (.ref o), some (.int (i32 i)), some (.int (i32 kk)), o6, o7, o8] [] h1 (b.1 - 4, b.2 - 24)
  refine WpL.al DL_law_575 rfl ?_
  refine WpL.sa (k := 1) hL (by omega) rfl rfl rfl DL_law_576 DL_law_577 DL_law_579 DL_law_580 DL_law_581 ?_
  refine WpL.sa (k := 2) hL (by omega) rfl rfl rfl DL_law_582 DL_law_583 DL_law_585 DL_law_586 DL_law_587 ?_
  refine WpL.sa (k := 3) hL (by omega) rfl rfl rfl DL_law_588 DL_law_589 DL_law_591 DL_law_592 DL_law_593 ?_
  refine WpL.cV (x := 6) (ce := ce_X5_shade A S) (As := [.int (scX G (i + 1)), .int (scX G (i + 2)), .int (scX G (i + 3))]) (rest := []) DL_law_594 (env_cons (ceV (by decide +kernel) ⟨by decide, by decide, by decide +kernel⟩ (by decide) rfl (ok_X5_shade G A S hW)) envL) rfl (fun _ => rfl) hM1.1.1 (by omega) rfl (Nat.le_of_ble_eq_true rfl) (by show 0 ≤ b.1 - 4; omega) (by show 0 ≤ b.2 - 24; omega) (Nat.le_of_ble_eq_true rfl) ?_
  refine m_shade (QX := PXL) hW hw hM1 hC1 hO (fun h2 f2 e2 hM2 hC2 w2 hw2 => ?_)
  show WpL G 597 [some (.ref (scB G)), some (.ref (D 0 0)), some (.ref m), some (.ref o), some (.int (i32 i)), some (.int (i32 kk)), o6, o7, o8] [.int w2] h2 (b.1 - 4 - 0, b.2 - 24 - 0)
  refine Wp.emp (fun hE => ?_)
  have J2 := J.nx f w hI' hE f2 hM2 hC2 hWF hWW
  rw [← e]
  exact tl_law (q := 597) envT DL_law_597 DL_law_599 DL_law_600 DL_law_603 DL_law_605 DL_law_610 DL_law_612 DL_law_615 DL_law_616 DL_law_617 DL_law_618 DL_law_620 DL_law_621 DL_law_622 DL_law_627 J2 hk e2 hw2 (fun z => (J.ja f f2).trans (hj z)) (K D' T h2 _ _ _ J2 (by show b.1 ≤ b.1 - 4 - 0 + 60; omega) (by show b.2 ≤ b.2 - 24 - 0 + 1600; omega))
/-! shades -/
set_option maxRecDepth 100000 in
set_option maxHeartbeats 4000000 in
theorem lc_shades (G : GT) {D : WD} {S : SS} {A : Nat → Nat} {h : Hp} {m o i : Nat} {o5 o6 o7 o8 : Option Value} {b : Nat × Nat} (J : JI G h D m A S o) (hL : scL G ≤ 3584) (hi : i + 6 < scL G) (hb : 60 ≤ b.1 ∧ 1600 ≤ b.2)
    (K : ∀ D' T h' o5 o6 b', JI G h' D' m A T o → b.1 ≤ b'.1 + 60 → b.2 ≤ b'.2 + 1600 → WpL G 1743 [some (.ref (scB G)), some (.ref (D' 0 0)), some (.ref m), some (.ref o), some (.int (i32 i)), o5, o6, o7, o8] [] h' b') :
    WpL G 630 [some (.ref (scB G)), some (.ref (D 0 0)), some (.ref m), some (.ref o), some (.int (i32 i)), o5, o6, o7, o8] [] h b := by
  have hW := J.1
  have hw := J.2.1
  have hI := J.2.2.1
  have ko := J.2.2.2.2.2.2.1
  have lo := J.2.2.2.2.2.2.2
  refine WpL.al DL_law_630 rfl ?_
  refine WpL.sa (k := 1) hL (by omega) rfl rfl rfl DL_law_631 DL_law_632 DL_law_634 DL_law_635 DL_law_636 ?_
  refine WpL.sa (k := 2) hL (by omega) rfl rfl rfl DL_law_637 DL_law_638 DL_law_640 DL_law_641 DL_law_642 ?_
  refine WpL.sa (k := 3) hL (by omega) rfl rfl rfl DL_law_643 DL_law_644 DL_law_646 DL_law_647 DL_law_648 ?_
  refine WpL.al DL_law_649 rfl ?_
  refine WpL.cS (ce := ce_L_shades G D S) (As := [.ref (D 0 0), .int (scX G (i + 1)), .int (scX G (i + 2)), .int (scX G (i + 3)), .ref o]) (rest := []) DL_law_650 (env_cons (ceS (by decide +kernel) ⟨by decide, by decide, by decide +kernel⟩ (by decide) (ok_L_shades G G D S hW)) envL) rfl (fun _ => rfl) (Nat.le_of_ble_eq_true rfl) (by show 4 ≤ b.1; omega) (by show 24 ≤ b.2; omega) (Nat.le_of_ble_eq_true rfl) ?_
  refine And.intro hI (And.intro hw (And.intro rfl (And.intro ko (And.intro lo (fun kk vv T hO h1 D' e f w hI' hj => ?_)))))
  obtain ⟨hk, hWF, hWW⟩ := wf_shades hW hw hO
  obtain ⟨hM1, hC1⟩ := J.md f
  show WpL G 653 [some (.ref (scB G)), some (.ref (D 0 0)), some (.ref m), some (.ref o), some (.int (i32 i)), o5, o6, o7, o8] [.int (i32 kk)] h1 (b.1 - 4, b.2 - 24)
  refine WpL.is DL_law_653 (by show 5 < 9; omega) ?_
  show WpL G 655 [some (.ref (scB G)), some (.ref (D 0 0)), some (.ref m), some (.ref o), some (.int (i32 i)), some (.int (i32 kk)), o6, o7, o8] [] h1 (b.1 - 4, b.2 - 24)
  refine WpL.al DL_law_655 rfl ?_
  refine WpL.sa (k := 1) hL (by omega) rfl rfl rfl DL_law_656 DL_law_657 DL_law_659 DL_law_660 DL_law_661 ?_
  refine WpL.sa (k := 2) hL (by omega) rfl rfl rfl DL_law_662 DL_law_663 DL_law_665 DL_law_666 DL_law_667 ?_
  refine WpL.sa (k := 3) hL (by omega) rfl rfl rfl DL_law_668 DL_law_669 DL_law_671 DL_law_672 DL_law_673 ?_
  refine WpL.cV (x := 6) (ce := ce_X5_shades A S) (As := [.int (scX G (i + 1)), .int (scX G (i + 2)), .int (scX G (i + 3))]) (rest := []) DL_law_674 (env_cons (ceV (by decide +kernel) ⟨by decide, by decide, by decide +kernel⟩ (by decide) rfl (ok_X5_shades G A S hW)) envL) rfl (fun _ => rfl) hM1.1.1 (by omega) rfl (Nat.le_of_ble_eq_true rfl) (by show 0 ≤ b.1 - 4; omega) (by show 0 ≤ b.2 - 24; omega) (Nat.le_of_ble_eq_true rfl) ?_
  refine m_shades (QX := PXL) hW hw hM1 hC1 hO (fun h2 f2 e2 hM2 hC2 w2 hw2 => ?_)
  show WpL G 677 [some (.ref (scB G)), some (.ref (D 0 0)), some (.ref m), some (.ref o), some (.int (i32 i)), some (.int (i32 kk)), o6, o7, o8] [.int w2] h2 (b.1 - 4 - 0, b.2 - 24 - 0)
  refine Wp.emp (fun hE => ?_)
  have J2 := J.nx f w hI' hE f2 hM2 hC2 hWF hWW
  rw [← e]
  exact tl_law (q := 677) envT DL_law_677 DL_law_679 DL_law_680 DL_law_683 DL_law_685 DL_law_690 DL_law_692 DL_law_695 DL_law_696 DL_law_697 DL_law_698 DL_law_700 DL_law_701 DL_law_702 DL_law_707 J2 hk e2 hw2 (fun z => (J.ja f f2).trans (hj z)) (K D' T h2 _ _ _ J2 (by show b.1 ≤ b.1 - 4 - 0 + 60; omega) (by show b.2 ≤ b.2 - 24 - 0 + 1600; omega))
