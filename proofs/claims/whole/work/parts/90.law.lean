theorem lt_neg {a c : Nat} (h : a < 4) (hc : c < 2147483648) : nI a - nI 4 < nI c := by
  have h1 : (nI a - nI 4).toInt = (a : Int) - 4 := pk_sub_toInt (by omega) (by omega)
  have h2 : (nI c).toInt = (c : Int) := nI_toInt (by omega)
  rw [Int32.lt_iff_toInt_lt, h1, h2]
  omega
theorem L_law {X : gX} (hX : X.1 ≤ 2048) : ∀ (d j : Nat) (q : Bool) (σ : gT1), 4 * j ≤ X.1 → X.1 < 4 * j + 4 * d → Rel q σ → EvP X 149 18 [some (.ref 1000), some (.ref 0), some (.ref 31), some (.int (nI (4 * j)))] [] (47, g_rho q, σ) (fun v g1 => v = some (.int 1) ∧ g1.1 = 47)
  | 0, j, q, σ, h1, h2, hR => by omega
  | d + 1, j, q, σ, h1, h2, hR => by
    by_cases h4 : 4 ≤ X.1
    · have hd : ∀ (hlt : ¬ (X.1 - 4 < 4 * j)) (t : Nat), t < 32 → EvP X 149 32 [some (.ref 1000), some (.ref 0), some (.ref 31), some (.int (nI (4 * j)))] [.int (nI t)] (47, g_rho q, σ) (fun v g1 => v = some (.int 1) ∧ g1.1 = 47) := by
        intro hlt t ht
        obtain rfl | rfl | rfl | rfl | rfl | rfl | rfl | rfl | rfl | rfl | rfl | rfl | rfl | rfl | rfl | rfl | rfl | rfl | rfl | rfl | rfl | rfl | rfl | rfl | rfl | rfl | rfl | rfl | rfl | rfl | rfl | rfl := (by omega : t = 0 ∨ t = 1 ∨ t = 2 ∨ t = 3 ∨ t = 4 ∨ t = 5 ∨ t = 6 ∨ t = 7 ∨ t = 8 ∨ t = 9 ∨ t = 10 ∨ t = 11 ∨ t = 12 ∨ t = 13 ∨ t = 14 ∨ t = 15 ∨ t = 16 ∨ t = 17 ∨ t = 18 ∨ t = 19 ∨ t = 20 ∨ t = 21 ∨ t = 22 ∨ t = 23 ∨ t = 24 ∨ t = 25 ∨ t = 26 ∨ t = 27 ∨ t = 28 ∨ t = 29 ∨ t = 30 ∨ t = 31)
        · refine ep_sw (t := 148) t149_32 (by decide +kernel) ?_
          refine ep_aln t149_148 rfl ?_
          refine ep_aln t149_149 rfl ?_
          refine ep_iln t149_150 rfl ?_
          refine ep_k1 (w := nI 1) t149_151 rfl ?_
          refine ep_addN (a := 4 * j) (b := 1) t149_152 ?_
          refine ep_xldN t149_153 hX (by omega) ?_
          obtain ⟨v, q1, σ1, σ2, hb, hm, hr⟩ := pr_type (X := X) hR (X.2 (4 * j + 1))
          refine ep_cv t149_154 rfl rfl (Nat.le_of_ble_eq_true rfl) (Nat.le_of_ble_eq_true rfl) (hb) ?_
          refine ep_aln t149_157 rfl ?_
          refine ep_aln t149_158 rfl ?_
          refine ep_iln t149_159 rfl ?_
          refine ep_k1 (w := nI 1) t149_160 rfl ?_
          refine ep_addN (a := 4 * j) (b := 1) t149_161 ?_
          refine ep_xldN t149_162 hX (by omega) ?_
          refine ep_cv t149_163 rfl rfl (Nat.le_of_ble_eq_true rfl) (Nat.le_of_ble_eq_true rfl) (hm) ?_
          refine ep_if t149_166 (fun (c166 : v = v) => ?_) (fun (c166 : ¬ (v = v)) => ?_)
          · refine ep_inc (b := nI (4 * j + 4)) (L' := [some (.ref 1000), some (.ref 0), some (.ref 31), some (.int (nI (4 * j + 4)))]) t149_733 rfl (nI_add (4 * j) 4) rfl (Nat.le_of_ble_eq_true rfl) ?_
            refine ep_gt t149_736 ?_
            exact L_law hX d (j + 1) q1 σ2 (by omega) (by omega) hr
          · exact absurd rfl c166
        · refine ep_sw (t := 171) t149_32 (by decide +kernel) ?_
          refine ep_aln t149_171 rfl ?_
          obtain ⟨v, q1, σ1, σ2, hb, hm, hr⟩ := pr_clear (X := X) hR 
          refine ep_cv t149_172 rfl rfl (Nat.le_of_ble_eq_true rfl) (Nat.le_of_ble_eq_true rfl) (hb) ?_
          refine ep_aln t149_175 rfl ?_
          refine ep_cv t149_176 rfl rfl (Nat.le_of_ble_eq_true rfl) (Nat.le_of_ble_eq_true rfl) (hm) ?_
          refine ep_if t149_179 (fun (c179 : v = v) => ?_) (fun (c179 : ¬ (v = v)) => ?_)
          · refine ep_inc (b := nI (4 * j + 4)) (L' := [some (.ref 1000), some (.ref 0), some (.ref 31), some (.int (nI (4 * j + 4)))]) t149_733 rfl (nI_add (4 * j) 4) rfl (Nat.le_of_ble_eq_true rfl) ?_
            refine ep_gt t149_736 ?_
            exact L_law hX d (j + 1) q1 σ2 (by omega) (by omega) hr
          · exact absurd rfl c179
        · refine ep_sw (t := 184) t149_32 (by decide +kernel) ?_
          refine ep_aln t149_184 rfl ?_
          obtain ⟨v, q1, σ1, σ2, hb, hm, hr⟩ := pr_book (X := X) hR 
          refine ep_cv t149_185 rfl rfl (Nat.le_of_ble_eq_true rfl) (Nat.le_of_ble_eq_true rfl) (hb) ?_
          refine ep_aln t149_188 rfl ?_
          refine ep_cv t149_189 rfl rfl (Nat.le_of_ble_eq_true rfl) (Nat.le_of_ble_eq_true rfl) (hm) ?_
          refine ep_if t149_192 (fun (c192 : v = v) => ?_) (fun (c192 : ¬ (v = v)) => ?_)
          · refine ep_inc (b := nI (4 * j + 4)) (L' := [some (.ref 1000), some (.ref 0), some (.ref 31), some (.int (nI (4 * j + 4)))]) t149_733 rfl (nI_add (4 * j) 4) rfl (Nat.le_of_ble_eq_true rfl) ?_
            refine ep_gt t149_736 ?_
            exact L_law hX d (j + 1) q1 σ2 (by omega) (by omega) hr
          · exact absurd rfl c192
        · refine ep_sw (t := 197) t149_32 (by decide +kernel) ?_
          refine ep_aln t149_197 rfl ?_
          refine ep_aln t149_198 rfl ?_
          refine ep_iln t149_199 rfl ?_
          refine ep_k1 (w := nI 1) t149_200 rfl ?_
          refine ep_addN (a := 4 * j) (b := 1) t149_201 ?_
          refine ep_xldN t149_202 hX (by omega) ?_
          refine ep_aln t149_203 rfl ?_
          refine ep_iln t149_204 rfl ?_
          refine ep_k1 (w := nI 2) t149_205 rfl ?_
          refine ep_addN (a := 4 * j) (b := 2) t149_206 ?_
          refine ep_xldN t149_207 hX (by omega) ?_
          obtain ⟨v, q1, σ1, σ2, hb, hm, hr⟩ := pr_device (X := X) hR (X.2 (4 * j + 1)) (X.2 (4 * j + 2))
          refine ep_cv t149_208 rfl rfl (Nat.le_of_ble_eq_true rfl) (Nat.le_of_ble_eq_true rfl) (hb) ?_
          refine ep_aln t149_211 rfl ?_
          refine ep_aln t149_212 rfl ?_
          refine ep_iln t149_213 rfl ?_
          refine ep_k1 (w := nI 1) t149_214 rfl ?_
          refine ep_addN (a := 4 * j) (b := 1) t149_215 ?_
          refine ep_xldN t149_216 hX (by omega) ?_
          refine ep_aln t149_217 rfl ?_
          refine ep_iln t149_218 rfl ?_
          refine ep_k1 (w := nI 2) t149_219 rfl ?_
          refine ep_addN (a := 4 * j) (b := 2) t149_220 ?_
          refine ep_xldN t149_221 hX (by omega) ?_
          refine ep_cv t149_222 rfl rfl (Nat.le_of_ble_eq_true rfl) (Nat.le_of_ble_eq_true rfl) (hm) ?_
          refine ep_if t149_225 (fun (c225 : v = v) => ?_) (fun (c225 : ¬ (v = v)) => ?_)
          · refine ep_inc (b := nI (4 * j + 4)) (L' := [some (.ref 1000), some (.ref 0), some (.ref 31), some (.int (nI (4 * j + 4)))]) t149_733 rfl (nI_add (4 * j) 4) rfl (Nat.le_of_ble_eq_true rfl) ?_
            refine ep_gt t149_736 ?_
            exact L_law hX d (j + 1) q1 σ2 (by omega) (by omega) hr
          · exact absurd rfl c225
        · refine ep_sw (t := 230) t149_32 (by decide +kernel) ?_
          refine ep_aln t149_230 rfl ?_
          refine ep_aln t149_231 rfl ?_
          refine ep_iln t149_232 rfl ?_
          refine ep_k1 (w := nI 1) t149_233 rfl ?_
          refine ep_addN (a := 4 * j) (b := 1) t149_234 ?_
          refine ep_xldN t149_235 hX (by omega) ?_
          obtain ⟨v, q1, σ1, σ2, hb, hm, hr⟩ := pr_named (X := X) hR (X.2 (4 * j + 1))
          refine ep_cv t149_236 rfl rfl (Nat.le_of_ble_eq_true rfl) (Nat.le_of_ble_eq_true rfl) (hb) ?_
          refine ep_aln t149_239 rfl ?_
          refine ep_aln t149_240 rfl ?_
          refine ep_iln t149_241 rfl ?_
          refine ep_k1 (w := nI 1) t149_242 rfl ?_
          refine ep_addN (a := 4 * j) (b := 1) t149_243 ?_
          refine ep_xldN t149_244 hX (by omega) ?_
          refine ep_cv t149_245 rfl rfl (Nat.le_of_ble_eq_true rfl) (Nat.le_of_ble_eq_true rfl) (hm) ?_
          refine ep_if t149_248 (fun (c248 : v = v) => ?_) (fun (c248 : ¬ (v = v)) => ?_)
          · refine ep_inc (b := nI (4 * j + 4)) (L' := [some (.ref 1000), some (.ref 0), some (.ref 31), some (.int (nI (4 * j + 4)))]) t149_733 rfl (nI_add (4 * j) 4) rfl (Nat.le_of_ble_eq_true rfl) ?_
            refine ep_gt t149_736 ?_
            exact L_law hX d (j + 1) q1 σ2 (by omega) (by omega) hr
          · exact absurd rfl c248
        · refine ep_sw (t := 253) t149_32 (by decide +kernel) ?_
          refine ep_aln t149_253 rfl ?_
          refine ep_aln t149_254 rfl ?_
          refine ep_iln t149_255 rfl ?_
          refine ep_k1 (w := nI 1) t149_256 rfl ?_
          refine ep_addN (a := 4 * j) (b := 1) t149_257 ?_
          refine ep_xldN t149_258 hX (by omega) ?_
          refine ep_aln t149_259 rfl ?_
          refine ep_iln t149_260 rfl ?_
          refine ep_k1 (w := nI 2) t149_261 rfl ?_
          refine ep_addN (a := 4 * j) (b := 2) t149_262 ?_
          refine ep_xldN t149_263 hX (by omega) ?_
          obtain ⟨v, q1, σ1, σ2, hb, hm, hr⟩ := pr_node (X := X) hR (X.2 (4 * j + 1)) (X.2 (4 * j + 2))
          refine ep_cv t149_264 rfl rfl (Nat.le_of_ble_eq_true rfl) (Nat.le_of_ble_eq_true rfl) (hb) ?_
          refine ep_aln t149_267 rfl ?_
          refine ep_aln t149_268 rfl ?_
          refine ep_iln t149_269 rfl ?_
          refine ep_k1 (w := nI 1) t149_270 rfl ?_
          refine ep_addN (a := 4 * j) (b := 1) t149_271 ?_
          refine ep_xldN t149_272 hX (by omega) ?_
          refine ep_aln t149_273 rfl ?_
          refine ep_iln t149_274 rfl ?_
          refine ep_k1 (w := nI 2) t149_275 rfl ?_
          refine ep_addN (a := 4 * j) (b := 2) t149_276 ?_
          refine ep_xldN t149_277 hX (by omega) ?_
          refine ep_cv t149_278 rfl rfl (Nat.le_of_ble_eq_true rfl) (Nat.le_of_ble_eq_true rfl) (hm) ?_
          refine ep_if t149_281 (fun (c281 : v = v) => ?_) (fun (c281 : ¬ (v = v)) => ?_)
          · refine ep_inc (b := nI (4 * j + 4)) (L' := [some (.ref 1000), some (.ref 0), some (.ref 31), some (.int (nI (4 * j + 4)))]) t149_733 rfl (nI_add (4 * j) 4) rfl (Nat.le_of_ble_eq_true rfl) ?_
            refine ep_gt t149_736 ?_
            exact L_law hX d (j + 1) q1 σ2 (by omega) (by omega) hr
          · exact absurd rfl c281
        · refine ep_sw (t := 286) t149_32 (by decide +kernel) ?_
          refine ep_aln t149_286 rfl ?_
          refine ep_aln t149_287 rfl ?_
          refine ep_iln t149_288 rfl ?_
          refine ep_k1 (w := nI 1) t149_289 rfl ?_
          refine ep_addN (a := 4 * j) (b := 1) t149_290 ?_
          refine ep_xldN t149_291 hX (by omega) ?_
          obtain ⟨v, q1, σ1, σ2, hb, hm, hr⟩ := pr_now (X := X) hR (X.2 (4 * j + 1))
          refine ep_cv t149_292 rfl rfl (Nat.le_of_ble_eq_true rfl) (Nat.le_of_ble_eq_true rfl) (hb) ?_
          refine ep_aln t149_295 rfl ?_
          refine ep_aln t149_296 rfl ?_
          refine ep_iln t149_297 rfl ?_
          refine ep_k1 (w := nI 1) t149_298 rfl ?_
          refine ep_addN (a := 4 * j) (b := 1) t149_299 ?_
          refine ep_xldN t149_300 hX (by omega) ?_
          refine ep_cv t149_301 rfl rfl (Nat.le_of_ble_eq_true rfl) (Nat.le_of_ble_eq_true rfl) (hm) ?_
          refine ep_if t149_304 (fun (c304 : v = v) => ?_) (fun (c304 : ¬ (v = v)) => ?_)
          · refine ep_inc (b := nI (4 * j + 4)) (L' := [some (.ref 1000), some (.ref 0), some (.ref 31), some (.int (nI (4 * j + 4)))]) t149_733 rfl (nI_add (4 * j) 4) rfl (Nat.le_of_ble_eq_true rfl) ?_
            refine ep_gt t149_736 ?_
            exact L_law hX d (j + 1) q1 σ2 (by omega) (by omega) hr
          · exact absurd rfl c304
        · refine ep_sw (t := 309) t149_32 (by decide +kernel) ?_
          refine ep_aln t149_309 rfl ?_
          refine ep_aln t149_310 rfl ?_
          refine ep_iln t149_311 rfl ?_
          refine ep_k1 (w := nI 1) t149_312 rfl ?_
          refine ep_addN (a := 4 * j) (b := 1) t149_313 ?_
          refine ep_xldN t149_314 hX (by omega) ?_
          obtain ⟨v, q1, σ1, σ2, hb, hm, hr⟩ := pr_moves (X := X) hR (X.2 (4 * j + 1))
          refine ep_cv t149_315 rfl rfl (Nat.le_of_ble_eq_true rfl) (Nat.le_of_ble_eq_true rfl) (hb) ?_
          refine ep_aln t149_318 rfl ?_
          refine ep_aln t149_319 rfl ?_
          refine ep_iln t149_320 rfl ?_
          refine ep_k1 (w := nI 1) t149_321 rfl ?_
          refine ep_addN (a := 4 * j) (b := 1) t149_322 ?_
          refine ep_xldN t149_323 hX (by omega) ?_
          refine ep_cv t149_324 rfl rfl (Nat.le_of_ble_eq_true rfl) (Nat.le_of_ble_eq_true rfl) (hm) ?_
          refine ep_if t149_327 (fun (c327 : v = v) => ?_) (fun (c327 : ¬ (v = v)) => ?_)
          · refine ep_inc (b := nI (4 * j + 4)) (L' := [some (.ref 1000), some (.ref 0), some (.ref 31), some (.int (nI (4 * j + 4)))]) t149_733 rfl (nI_add (4 * j) 4) rfl (Nat.le_of_ble_eq_true rfl) ?_
            refine ep_gt t149_736 ?_
            exact L_law hX d (j + 1) q1 σ2 (by omega) (by omega) hr
          · exact absurd rfl c327
        · refine ep_sw (t := 332) t149_32 (by decide +kernel) ?_
          refine ep_aln t149_332 rfl ?_
          refine ep_aln t149_333 rfl ?_
          refine ep_iln t149_334 rfl ?_
          refine ep_k1 (w := nI 1) t149_335 rfl ?_
          refine ep_addN (a := 4 * j) (b := 1) t149_336 ?_
          refine ep_xldN t149_337 hX (by omega) ?_
          obtain ⟨v, q1, σ1, σ2, hb, hm, hr⟩ := pr_locks (X := X) hR (X.2 (4 * j + 1))
          refine ep_cv t149_338 rfl rfl (Nat.le_of_ble_eq_true rfl) (Nat.le_of_ble_eq_true rfl) (hb) ?_
          refine ep_aln t149_341 rfl ?_
          refine ep_aln t149_342 rfl ?_
          refine ep_iln t149_343 rfl ?_
          refine ep_k1 (w := nI 1) t149_344 rfl ?_
          refine ep_addN (a := 4 * j) (b := 1) t149_345 ?_
          refine ep_xldN t149_346 hX (by omega) ?_
          refine ep_cv t149_347 rfl rfl (Nat.le_of_ble_eq_true rfl) (Nat.le_of_ble_eq_true rfl) (hm) ?_
          refine ep_if t149_350 (fun (c350 : v = v) => ?_) (fun (c350 : ¬ (v = v)) => ?_)
          · refine ep_inc (b := nI (4 * j + 4)) (L' := [some (.ref 1000), some (.ref 0), some (.ref 31), some (.int (nI (4 * j + 4)))]) t149_733 rfl (nI_add (4 * j) 4) rfl (Nat.le_of_ble_eq_true rfl) ?_
            refine ep_gt t149_736 ?_
            exact L_law hX d (j + 1) q1 σ2 (by omega) (by omega) hr
          · exact absurd rfl c350
        · refine ep_sw (t := 355) t149_32 (by decide +kernel) ?_
          refine ep_aln t149_355 rfl ?_
          refine ep_aln t149_356 rfl ?_
          refine ep_iln t149_357 rfl ?_
          refine ep_k1 (w := nI 1) t149_358 rfl ?_
          refine ep_addN (a := 4 * j) (b := 1) t149_359 ?_
          refine ep_xldN t149_360 hX (by omega) ?_
          refine ep_aln t149_361 rfl ?_
          refine ep_iln t149_362 rfl ?_
          refine ep_k1 (w := nI 2) t149_363 rfl ?_
          refine ep_addN (a := 4 * j) (b := 2) t149_364 ?_
          refine ep_xldN t149_365 hX (by omega) ?_
          refine ep_aln t149_366 rfl ?_
          refine ep_iln t149_367 rfl ?_
          refine ep_k1 (w := nI 3) t149_368 rfl ?_
          refine ep_addN (a := 4 * j) (b := 3) t149_369 ?_
          refine ep_xldN t149_370 hX (by omega) ?_
          obtain ⟨v, q1, σ1, σ2, hb, hm, hr⟩ := pr_prices (X := X) hR (X.2 (4 * j + 1)) (X.2 (4 * j + 2)) (X.2 (4 * j + 3))
          refine ep_cv t149_371 rfl rfl (Nat.le_of_ble_eq_true rfl) (Nat.le_of_ble_eq_true rfl) (hb) ?_
          refine ep_aln t149_374 rfl ?_
          refine ep_aln t149_375 rfl ?_
          refine ep_iln t149_376 rfl ?_
          refine ep_k1 (w := nI 1) t149_377 rfl ?_
          refine ep_addN (a := 4 * j) (b := 1) t149_378 ?_
          refine ep_xldN t149_379 hX (by omega) ?_
          refine ep_aln t149_380 rfl ?_
          refine ep_iln t149_381 rfl ?_
          refine ep_k1 (w := nI 2) t149_382 rfl ?_
          refine ep_addN (a := 4 * j) (b := 2) t149_383 ?_
          refine ep_xldN t149_384 hX (by omega) ?_
          refine ep_aln t149_385 rfl ?_
          refine ep_iln t149_386 rfl ?_
          refine ep_k1 (w := nI 3) t149_387 rfl ?_
          refine ep_addN (a := 4 * j) (b := 3) t149_388 ?_
          refine ep_xldN t149_389 hX (by omega) ?_
          refine ep_cv t149_390 rfl rfl (Nat.le_of_ble_eq_true rfl) (Nat.le_of_ble_eq_true rfl) (hm) ?_
          refine ep_if t149_393 (fun (c393 : v = v) => ?_) (fun (c393 : ¬ (v = v)) => ?_)
          · refine ep_inc (b := nI (4 * j + 4)) (L' := [some (.ref 1000), some (.ref 0), some (.ref 31), some (.int (nI (4 * j + 4)))]) t149_733 rfl (nI_add (4 * j) 4) rfl (Nat.le_of_ble_eq_true rfl) ?_
            refine ep_gt t149_736 ?_
            exact L_law hX d (j + 1) q1 σ2 (by omega) (by omega) hr
          · exact absurd rfl c393
        · refine ep_sw (t := 398) t149_32 (by decide +kernel) ?_
          refine ep_aln t149_398 rfl ?_
          refine ep_aln t149_399 rfl ?_
          refine ep_iln t149_400 rfl ?_
          refine ep_k1 (w := nI 1) t149_401 rfl ?_
          refine ep_addN (a := 4 * j) (b := 1) t149_402 ?_
          refine ep_xldN t149_403 hX (by omega) ?_
          obtain ⟨v, q1, σ1, σ2, hb, hm, hr⟩ := pr_lists (X := X) hR (X.2 (4 * j + 1))
          refine ep_cv t149_404 rfl rfl (Nat.le_of_ble_eq_true rfl) (Nat.le_of_ble_eq_true rfl) (hb) ?_
          refine ep_aln t149_407 rfl ?_
          refine ep_aln t149_408 rfl ?_
          refine ep_iln t149_409 rfl ?_
          refine ep_k1 (w := nI 1) t149_410 rfl ?_
          refine ep_addN (a := 4 * j) (b := 1) t149_411 ?_
          refine ep_xldN t149_412 hX (by omega) ?_
          refine ep_cv t149_413 rfl rfl (Nat.le_of_ble_eq_true rfl) (Nat.le_of_ble_eq_true rfl) (hm) ?_
          refine ep_if t149_416 (fun (c416 : v = v) => ?_) (fun (c416 : ¬ (v = v)) => ?_)
          · refine ep_inc (b := nI (4 * j + 4)) (L' := [some (.ref 1000), some (.ref 0), some (.ref 31), some (.int (nI (4 * j + 4)))]) t149_733 rfl (nI_add (4 * j) 4) rfl (Nat.le_of_ble_eq_true rfl) ?_
            refine ep_gt t149_736 ?_
            exact L_law hX d (j + 1) q1 σ2 (by omega) (by omega) hr
          · exact absurd rfl c416
        · refine ep_sw (t := 421) t149_32 (by decide +kernel) ?_
          refine ep_aln t149_421 rfl ?_
          obtain ⟨v, q1, σ1, σ2, hb, hm, hr⟩ := pr_goes (X := X) hR 
          refine ep_cv t149_422 rfl rfl (Nat.le_of_ble_eq_true rfl) (Nat.le_of_ble_eq_true rfl) (hb) ?_
          refine ep_aln t149_425 rfl ?_
          refine ep_cv t149_426 rfl rfl (Nat.le_of_ble_eq_true rfl) (Nat.le_of_ble_eq_true rfl) (hm) ?_
          refine ep_if t149_429 (fun (c429 : v = v) => ?_) (fun (c429 : ¬ (v = v)) => ?_)
          · refine ep_inc (b := nI (4 * j + 4)) (L' := [some (.ref 1000), some (.ref 0), some (.ref 31), some (.int (nI (4 * j + 4)))]) t149_733 rfl (nI_add (4 * j) 4) rfl (Nat.le_of_ble_eq_true rfl) ?_
            refine ep_gt t149_736 ?_
            exact L_law hX d (j + 1) q1 σ2 (by omega) (by omega) hr
          · exact absurd rfl c429
        · refine ep_sw (t := 434) t149_32 (by decide +kernel) ?_
          refine ep_aln t149_434 rfl ?_
          obtain ⟨v, q1, σ1, σ2, hb, hm, hr⟩ := pr_drops (X := X) hR 
          refine ep_cv t149_435 rfl rfl (Nat.le_of_ble_eq_true rfl) (Nat.le_of_ble_eq_true rfl) (hb) ?_
          refine ep_aln t149_438 rfl ?_
          refine ep_cv t149_439 rfl rfl (Nat.le_of_ble_eq_true rfl) (Nat.le_of_ble_eq_true rfl) (hm) ?_
          refine ep_if t149_442 (fun (c442 : v = v) => ?_) (fun (c442 : ¬ (v = v)) => ?_)
          · refine ep_inc (b := nI (4 * j + 4)) (L' := [some (.ref 1000), some (.ref 0), some (.ref 31), some (.int (nI (4 * j + 4)))]) t149_733 rfl (nI_add (4 * j) 4) rfl (Nat.le_of_ble_eq_true rfl) ?_
            refine ep_gt t149_736 ?_
            exact L_law hX d (j + 1) q1 σ2 (by omega) (by omega) hr
          · exact absurd rfl c442
        · refine ep_sw (t := 447) t149_32 (by decide +kernel) ?_
          refine ep_aln t149_447 rfl ?_
          obtain ⟨v, q1, σ1, σ2, hb, hm, hr⟩ := pr_undo (X := X) hR 
          refine ep_cv t149_448 rfl rfl (Nat.le_of_ble_eq_true rfl) (Nat.le_of_ble_eq_true rfl) (hb) ?_
          refine ep_aln t149_451 rfl ?_
          refine ep_cv t149_452 rfl rfl (Nat.le_of_ble_eq_true rfl) (Nat.le_of_ble_eq_true rfl) (hm) ?_
          refine ep_if t149_455 (fun (c455 : v = v) => ?_) (fun (c455 : ¬ (v = v)) => ?_)
          · refine ep_inc (b := nI (4 * j + 4)) (L' := [some (.ref 1000), some (.ref 0), some (.ref 31), some (.int (nI (4 * j + 4)))]) t149_733 rfl (nI_add (4 * j) 4) rfl (Nat.le_of_ble_eq_true rfl) ?_
            refine ep_gt t149_736 ?_
            exact L_law hX d (j + 1) q1 σ2 (by omega) (by omega) hr
          · exact absurd rfl c455
        · refine ep_sw (t := 460) t149_32 (by decide +kernel) ?_
          refine ep_aln t149_460 rfl ?_
          refine ep_aln t149_461 rfl ?_
          refine ep_iln t149_462 rfl ?_
          refine ep_k1 (w := nI 1) t149_463 rfl ?_
          refine ep_addN (a := 4 * j) (b := 1) t149_464 ?_
          refine ep_xldN t149_465 hX (by omega) ?_
          refine ep_aln t149_466 rfl ?_
          refine ep_iln t149_467 rfl ?_
          refine ep_k1 (w := nI 2) t149_468 rfl ?_
          refine ep_addN (a := 4 * j) (b := 2) t149_469 ?_
          refine ep_xldN t149_470 hX (by omega) ?_
          refine ep_aln t149_471 rfl ?_
          refine ep_iln t149_472 rfl ?_
          refine ep_k1 (w := nI 3) t149_473 rfl ?_
          refine ep_addN (a := 4 * j) (b := 3) t149_474 ?_
          refine ep_xldN t149_475 hX (by omega) ?_
          obtain ⟨v, q1, σ1, σ2, hb, hm, hr⟩ := pr_plan (X := X) hR (X.2 (4 * j + 1)) (X.2 (4 * j + 2)) (X.2 (4 * j + 3))
          refine ep_cv t149_476 rfl rfl (Nat.le_of_ble_eq_true rfl) (Nat.le_of_ble_eq_true rfl) (hb) ?_
          refine ep_aln t149_479 rfl ?_
          refine ep_aln t149_480 rfl ?_
          refine ep_iln t149_481 rfl ?_
          refine ep_k1 (w := nI 1) t149_482 rfl ?_
          refine ep_addN (a := 4 * j) (b := 1) t149_483 ?_
          refine ep_xldN t149_484 hX (by omega) ?_
          refine ep_aln t149_485 rfl ?_
          refine ep_iln t149_486 rfl ?_
          refine ep_k1 (w := nI 2) t149_487 rfl ?_
          refine ep_addN (a := 4 * j) (b := 2) t149_488 ?_
          refine ep_xldN t149_489 hX (by omega) ?_
          refine ep_aln t149_490 rfl ?_
          refine ep_iln t149_491 rfl ?_
          refine ep_k1 (w := nI 3) t149_492 rfl ?_
          refine ep_addN (a := 4 * j) (b := 3) t149_493 ?_
          refine ep_xldN t149_494 hX (by omega) ?_
          refine ep_cv t149_495 rfl rfl (Nat.le_of_ble_eq_true rfl) (Nat.le_of_ble_eq_true rfl) (hm) ?_
          refine ep_if t149_498 (fun (c498 : v = v) => ?_) (fun (c498 : ¬ (v = v)) => ?_)
          · refine ep_inc (b := nI (4 * j + 4)) (L' := [some (.ref 1000), some (.ref 0), some (.ref 31), some (.int (nI (4 * j + 4)))]) t149_733 rfl (nI_add (4 * j) 4) rfl (Nat.le_of_ble_eq_true rfl) ?_
            refine ep_gt t149_736 ?_
            exact L_law hX d (j + 1) q1 σ2 (by omega) (by omega) hr
          · exact absurd rfl c498
        · refine ep_sw (t := 503) t149_32 (by decide +kernel) ?_
          refine ep_aln t149_503 rfl ?_
          refine ep_aln t149_504 rfl ?_
          refine ep_iln t149_505 rfl ?_
          refine ep_k1 (w := nI 1) t149_506 rfl ?_
          refine ep_addN (a := 4 * j) (b := 1) t149_507 ?_
          refine ep_xldN t149_508 hX (by omega) ?_
          refine ep_aln t149_509 rfl ?_
          refine ep_iln t149_510 rfl ?_
          refine ep_k1 (w := nI 2) t149_511 rfl ?_
          refine ep_addN (a := 4 * j) (b := 2) t149_512 ?_
          refine ep_xldN t149_513 hX (by omega) ?_
          obtain ⟨v, q1, σ1, σ2, hb, hm, hr⟩ := pr_work (X := X) hR (X.2 (4 * j + 1)) (X.2 (4 * j + 2))
          refine ep_cv t149_514 rfl rfl (Nat.le_of_ble_eq_true rfl) (Nat.le_of_ble_eq_true rfl) (hb) ?_
          refine ep_aln t149_517 rfl ?_
          refine ep_aln t149_518 rfl ?_
          refine ep_iln t149_519 rfl ?_
          refine ep_k1 (w := nI 1) t149_520 rfl ?_
          refine ep_addN (a := 4 * j) (b := 1) t149_521 ?_
          refine ep_xldN t149_522 hX (by omega) ?_
          refine ep_aln t149_523 rfl ?_
          refine ep_iln t149_524 rfl ?_
          refine ep_k1 (w := nI 2) t149_525 rfl ?_
          refine ep_addN (a := 4 * j) (b := 2) t149_526 ?_
          refine ep_xldN t149_527 hX (by omega) ?_
          refine ep_cv t149_528 rfl rfl (Nat.le_of_ble_eq_true rfl) (Nat.le_of_ble_eq_true rfl) (hm) ?_
          refine ep_if t149_531 (fun (c531 : v = v) => ?_) (fun (c531 : ¬ (v = v)) => ?_)
          · refine ep_inc (b := nI (4 * j + 4)) (L' := [some (.ref 1000), some (.ref 0), some (.ref 31), some (.int (nI (4 * j + 4)))]) t149_733 rfl (nI_add (4 * j) 4) rfl (Nat.le_of_ble_eq_true rfl) ?_
            refine ep_gt t149_736 ?_
            exact L_law hX d (j + 1) q1 σ2 (by omega) (by omega) hr
          · exact absurd rfl c531
        · refine ep_sw (t := 536) t149_32 (by decide +kernel) ?_
          refine ep_aln t149_536 rfl ?_
          refine ep_aln t149_537 rfl ?_
          refine ep_iln t149_538 rfl ?_
          refine ep_k1 (w := nI 1) t149_539 rfl ?_
          refine ep_addN (a := 4 * j) (b := 1) t149_540 ?_
          refine ep_xldN t149_541 hX (by omega) ?_
          obtain ⟨v, q1, σ1, σ2, hb, hm, hr⟩ := pr_supply (X := X) hR (X.2 (4 * j + 1))
          refine ep_cv t149_542 rfl rfl (Nat.le_of_ble_eq_true rfl) (Nat.le_of_ble_eq_true rfl) (hb) ?_
          refine ep_aln t149_545 rfl ?_
          refine ep_aln t149_546 rfl ?_
          refine ep_iln t149_547 rfl ?_
          refine ep_k1 (w := nI 1) t149_548 rfl ?_
          refine ep_addN (a := 4 * j) (b := 1) t149_549 ?_
          refine ep_xldN t149_550 hX (by omega) ?_
          refine ep_cv t149_551 rfl rfl (Nat.le_of_ble_eq_true rfl) (Nat.le_of_ble_eq_true rfl) (hm) ?_
          refine ep_if t149_554 (fun (c554 : v = v) => ?_) (fun (c554 : ¬ (v = v)) => ?_)
          · refine ep_inc (b := nI (4 * j + 4)) (L' := [some (.ref 1000), some (.ref 0), some (.ref 31), some (.int (nI (4 * j + 4)))]) t149_733 rfl (nI_add (4 * j) 4) rfl (Nat.le_of_ble_eq_true rfl) ?_
            refine ep_gt t149_736 ?_
            exact L_law hX d (j + 1) q1 σ2 (by omega) (by omega) hr
          · exact absurd rfl c554
        · refine ep_sw (t := 559) t149_32 (by decide +kernel) ?_
          refine ep_aln t149_559 rfl ?_
          refine ep_aln t149_560 rfl ?_
          refine ep_iln t149_561 rfl ?_
          refine ep_k1 (w := nI 1) t149_562 rfl ?_
          refine ep_addN (a := 4 * j) (b := 1) t149_563 ?_
          refine ep_xldN t149_564 hX (by omega) ?_
          refine ep_aln t149_565 rfl ?_
          refine ep_iln t149_566 rfl ?_
          refine ep_k1 (w := nI 2) t149_567 rfl ?_
          refine ep_addN (a := 4 * j) (b := 2) t149_568 ?_
          refine ep_xldN t149_569 hX (by omega) ?_
          obtain ⟨v, q1, σ1, σ2, hb, hm, hr⟩ := pr_odds (X := X) hR (X.2 (4 * j + 1)) (X.2 (4 * j + 2))
          refine ep_cv t149_570 rfl rfl (Nat.le_of_ble_eq_true rfl) (Nat.le_of_ble_eq_true rfl) (hb) ?_
          refine ep_aln t149_573 rfl ?_
          refine ep_aln t149_574 rfl ?_
          refine ep_iln t149_575 rfl ?_
          refine ep_k1 (w := nI 1) t149_576 rfl ?_
          refine ep_addN (a := 4 * j) (b := 1) t149_577 ?_
          refine ep_xldN t149_578 hX (by omega) ?_
          refine ep_aln t149_579 rfl ?_
          refine ep_iln t149_580 rfl ?_
          refine ep_k1 (w := nI 2) t149_581 rfl ?_
          refine ep_addN (a := 4 * j) (b := 2) t149_582 ?_
          refine ep_xldN t149_583 hX (by omega) ?_
          refine ep_cv t149_584 rfl rfl (Nat.le_of_ble_eq_true rfl) (Nat.le_of_ble_eq_true rfl) (hm) ?_
          refine ep_if t149_587 (fun (c587 : v = v) => ?_) (fun (c587 : ¬ (v = v)) => ?_)
          · refine ep_inc (b := nI (4 * j + 4)) (L' := [some (.ref 1000), some (.ref 0), some (.ref 31), some (.int (nI (4 * j + 4)))]) t149_733 rfl (nI_add (4 * j) 4) rfl (Nat.le_of_ble_eq_true rfl) ?_
            refine ep_gt t149_736 ?_
            exact L_law hX d (j + 1) q1 σ2 (by omega) (by omega) hr
          · exact absurd rfl c587
        · refine ep_sw (t := 592) t149_32 (by decide +kernel) ?_
          refine ep_aln t149_592 rfl ?_
          refine ep_aln t149_593 rfl ?_
          refine ep_iln t149_594 rfl ?_
          refine ep_k1 (w := nI 1) t149_595 rfl ?_
          refine ep_addN (a := 4 * j) (b := 1) t149_596 ?_
          refine ep_xldN t149_597 hX (by omega) ?_
          refine ep_aln t149_598 rfl ?_
          refine ep_iln t149_599 rfl ?_
          refine ep_k1 (w := nI 2) t149_600 rfl ?_
          refine ep_addN (a := 4 * j) (b := 2) t149_601 ?_
          refine ep_xldN t149_602 hX (by omega) ?_
          obtain ⟨v, q1, σ1, σ2, hb, hm, hr⟩ := pr_sees (X := X) hR (X.2 (4 * j + 1)) (X.2 (4 * j + 2))
          refine ep_cv t149_603 rfl rfl (Nat.le_of_ble_eq_true rfl) (Nat.le_of_ble_eq_true rfl) (hb) ?_
          refine ep_aln t149_606 rfl ?_
          refine ep_aln t149_607 rfl ?_
          refine ep_iln t149_608 rfl ?_
          refine ep_k1 (w := nI 1) t149_609 rfl ?_
          refine ep_addN (a := 4 * j) (b := 1) t149_610 ?_
          refine ep_xldN t149_611 hX (by omega) ?_
          refine ep_aln t149_612 rfl ?_
          refine ep_iln t149_613 rfl ?_
          refine ep_k1 (w := nI 2) t149_614 rfl ?_
          refine ep_addN (a := 4 * j) (b := 2) t149_615 ?_
          refine ep_xldN t149_616 hX (by omega) ?_
          refine ep_cv t149_617 rfl rfl (Nat.le_of_ble_eq_true rfl) (Nat.le_of_ble_eq_true rfl) (hm) ?_
          refine ep_if t149_620 (fun (c620 : v = v) => ?_) (fun (c620 : ¬ (v = v)) => ?_)
          · refine ep_inc (b := nI (4 * j + 4)) (L' := [some (.ref 1000), some (.ref 0), some (.ref 31), some (.int (nI (4 * j + 4)))]) t149_733 rfl (nI_add (4 * j) 4) rfl (Nat.le_of_ble_eq_true rfl) ?_
            refine ep_gt t149_736 ?_
            exact L_law hX d (j + 1) q1 σ2 (by omega) (by omega) hr
          · exact absurd rfl c620
        · refine ep_sw (t := 625) t149_32 (by decide +kernel) ?_
          refine ep_aln t149_625 rfl ?_
          obtain ⟨v, q1, σ1, σ2, hb, hm, hr⟩ := pr_forget (X := X) hR 
          refine ep_cv t149_626 rfl rfl (Nat.le_of_ble_eq_true rfl) (Nat.le_of_ble_eq_true rfl) (hb) ?_
          refine ep_aln t149_629 rfl ?_
          refine ep_cv t149_630 rfl rfl (Nat.le_of_ble_eq_true rfl) (Nat.le_of_ble_eq_true rfl) (hm) ?_
          refine ep_if t149_633 (fun (c633 : v = v) => ?_) (fun (c633 : ¬ (v = v)) => ?_)
          · refine ep_inc (b := nI (4 * j + 4)) (L' := [some (.ref 1000), some (.ref 0), some (.ref 31), some (.int (nI (4 * j + 4)))]) t149_733 rfl (nI_add (4 * j) 4) rfl (Nat.le_of_ble_eq_true rfl) ?_
            refine ep_gt t149_736 ?_
            exact L_law hX d (j + 1) q1 σ2 (by omega) (by omega) hr
          · exact absurd rfl c633
        · refine ep_sw (t := 638) t149_32 (by decide +kernel) ?_
          refine ep_aln t149_638 rfl ?_
          obtain ⟨v, q1, σ1, σ2, hb, hm, hr⟩ := pr_unseen (X := X) hR 
          refine ep_cv t149_639 rfl rfl (Nat.le_of_ble_eq_true rfl) (Nat.le_of_ble_eq_true rfl) (hb) ?_
          refine ep_aln t149_642 rfl ?_
          refine ep_cv t149_643 rfl rfl (Nat.le_of_ble_eq_true rfl) (Nat.le_of_ble_eq_true rfl) (hm) ?_
          refine ep_if t149_646 (fun (c646 : v = v) => ?_) (fun (c646 : ¬ (v = v)) => ?_)
          · refine ep_inc (b := nI (4 * j + 4)) (L' := [some (.ref 1000), some (.ref 0), some (.ref 31), some (.int (nI (4 * j + 4)))]) t149_733 rfl (nI_add (4 * j) 4) rfl (Nat.le_of_ble_eq_true rfl) ?_
            refine ep_gt t149_736 ?_
            exact L_law hX d (j + 1) q1 σ2 (by omega) (by omega) hr
          · exact absurd rfl c646
        · refine ep_sw (t := 651) t149_32 (by decide +kernel) ?_
          refine ep_aln t149_651 rfl ?_
          obtain ⟨v, q1, σ1, σ2, hb, hm, hr⟩ := pr_look (X := X) hR 
          refine ep_cv t149_652 rfl rfl (Nat.le_of_ble_eq_true rfl) (Nat.le_of_ble_eq_true rfl) (hb) ?_
          refine ep_aln t149_655 rfl ?_
          refine ep_cv t149_656 rfl rfl (Nat.le_of_ble_eq_true rfl) (Nat.le_of_ble_eq_true rfl) (hm) ?_
          refine ep_if t149_659 (fun (c659 : v = v) => ?_) (fun (c659 : ¬ (v = v)) => ?_)
          · refine ep_inc (b := nI (4 * j + 4)) (L' := [some (.ref 1000), some (.ref 0), some (.ref 31), some (.int (nI (4 * j + 4)))]) t149_733 rfl (nI_add (4 * j) 4) rfl (Nat.le_of_ble_eq_true rfl) ?_
            refine ep_gt t149_736 ?_
            exact L_law hX d (j + 1) q1 σ2 (by omega) (by omega) hr
          · exact absurd rfl c659
        · refine ep_sw (t := 664) t149_32 (by decide +kernel) ?_
          refine ep_aln t149_664 rfl ?_
          refine ep_aln t149_665 rfl ?_
          refine ep_iln t149_666 rfl ?_
          refine ep_k1 (w := nI 1) t149_667 rfl ?_
          refine ep_addN (a := 4 * j) (b := 1) t149_668 ?_
          refine ep_xldN t149_669 hX (by omega) ?_
          obtain ⟨v, q1, σ1, σ2, hb, hm, hr⟩ := pr_keep (X := X) hR (X.2 (4 * j + 1))
          refine ep_cv t149_670 rfl rfl (Nat.le_of_ble_eq_true rfl) (Nat.le_of_ble_eq_true rfl) (hb) ?_
          refine ep_aln t149_673 rfl ?_
          refine ep_aln t149_674 rfl ?_
          refine ep_iln t149_675 rfl ?_
          refine ep_k1 (w := nI 1) t149_676 rfl ?_
          refine ep_addN (a := 4 * j) (b := 1) t149_677 ?_
          refine ep_xldN t149_678 hX (by omega) ?_
          refine ep_cv t149_679 rfl rfl (Nat.le_of_ble_eq_true rfl) (Nat.le_of_ble_eq_true rfl) (hm) ?_
          refine ep_if t149_682 (fun (c682 : v = v) => ?_) (fun (c682 : ¬ (v = v)) => ?_)
          · refine ep_inc (b := nI (4 * j + 4)) (L' := [some (.ref 1000), some (.ref 0), some (.ref 31), some (.int (nI (4 * j + 4)))]) t149_733 rfl (nI_add (4 * j) 4) rfl (Nat.le_of_ble_eq_true rfl) ?_
            refine ep_gt t149_736 ?_
            exact L_law hX d (j + 1) q1 σ2 (by omega) (by omega) hr
          · exact absurd rfl c682
        · refine ep_sw (t := 687) t149_32 (by decide +kernel) ?_
          refine ep_aln t149_687 rfl ?_
          refine ep_aln t149_688 rfl ?_
          refine ep_iln t149_689 rfl ?_
          refine ep_k1 (w := nI 1) t149_690 rfl ?_
          refine ep_addN (a := 4 * j) (b := 1) t149_691 ?_
          refine ep_xldN t149_692 hX (by omega) ?_
          obtain ⟨v, q1, σ1, σ2, hb, hm, hr⟩ := pr_back (X := X) hR (X.2 (4 * j + 1))
          refine ep_cv t149_693 rfl rfl (Nat.le_of_ble_eq_true rfl) (Nat.le_of_ble_eq_true rfl) (hb) ?_
          refine ep_aln t149_696 rfl ?_
          refine ep_aln t149_697 rfl ?_
          refine ep_iln t149_698 rfl ?_
          refine ep_k1 (w := nI 1) t149_699 rfl ?_
          refine ep_addN (a := 4 * j) (b := 1) t149_700 ?_
          refine ep_xldN t149_701 hX (by omega) ?_
          refine ep_cv t149_702 rfl rfl (Nat.le_of_ble_eq_true rfl) (Nat.le_of_ble_eq_true rfl) (hm) ?_
          refine ep_if t149_705 (fun (c705 : v = v) => ?_) (fun (c705 : ¬ (v = v)) => ?_)
          · refine ep_inc (b := nI (4 * j + 4)) (L' := [some (.ref 1000), some (.ref 0), some (.ref 31), some (.int (nI (4 * j + 4)))]) t149_733 rfl (nI_add (4 * j) 4) rfl (Nat.le_of_ble_eq_true rfl) ?_
            refine ep_gt t149_736 ?_
            exact L_law hX d (j + 1) q1 σ2 (by omega) (by omega) hr
          · exact absurd rfl c705
        · refine ep_sw (t := 710) t149_32 (by decide +kernel) ?_
          refine ep_aln t149_710 rfl ?_
          refine ep_aln t149_711 rfl ?_
          refine ep_iln t149_712 rfl ?_
          refine ep_k1 (w := nI 1) t149_713 rfl ?_
          refine ep_addN (a := 4 * j) (b := 1) t149_714 ?_
          refine ep_xldN t149_715 hX (by omega) ?_
          obtain ⟨v, q1, σ1, σ2, hb, hm, hr⟩ := pr_count (X := X) hR (X.2 (4 * j + 1))
          refine ep_cv t149_716 rfl rfl (Nat.le_of_ble_eq_true rfl) (Nat.le_of_ble_eq_true rfl) (hb) ?_
          refine ep_aln t149_719 rfl ?_
          refine ep_aln t149_720 rfl ?_
          refine ep_iln t149_721 rfl ?_
          refine ep_k1 (w := nI 1) t149_722 rfl ?_
          refine ep_addN (a := 4 * j) (b := 1) t149_723 ?_
          refine ep_xldN t149_724 hX (by omega) ?_
          refine ep_cv t149_725 rfl rfl (Nat.le_of_ble_eq_true rfl) (Nat.le_of_ble_eq_true rfl) (hm) ?_
          refine ep_if t149_728 (fun (c728 : v = v) => ?_) (fun (c728 : ¬ (v = v)) => ?_)
          · refine ep_inc (b := nI (4 * j + 4)) (L' := [some (.ref 1000), some (.ref 0), some (.ref 31), some (.int (nI (4 * j + 4)))]) t149_733 rfl (nI_add (4 * j) 4) rfl (Nat.le_of_ble_eq_true rfl) ?_
            refine ep_gt t149_736 ?_
            exact L_law hX d (j + 1) q1 σ2 (by omega) (by omega) hr
          · exact absurd rfl c728
        · refine ep_sw (t := 733) t149_32 (by decide +kernel) ?_
          refine ep_inc (b := nI (4 * j + 4)) (L' := [some (.ref 1000), some (.ref 0), some (.ref 31), some (.int (nI (4 * j + 4)))]) t149_733 rfl (nI_add (4 * j) 4) rfl (Nat.le_of_ble_eq_true rfl) ?_
          refine ep_gt t149_736 ?_
          exact L_law hX d (j + 1) q σ (by omega) (by omega) hR
        · refine ep_sw (t := 733) t149_32 (by decide +kernel) ?_
          refine ep_inc (b := nI (4 * j + 4)) (L' := [some (.ref 1000), some (.ref 0), some (.ref 31), some (.int (nI (4 * j + 4)))]) t149_733 rfl (nI_add (4 * j) 4) rfl (Nat.le_of_ble_eq_true rfl) ?_
          refine ep_gt t149_736 ?_
          exact L_law hX d (j + 1) q σ (by omega) (by omega) hR
        · refine ep_sw (t := 733) t149_32 (by decide +kernel) ?_
          refine ep_inc (b := nI (4 * j + 4)) (L' := [some (.ref 1000), some (.ref 0), some (.ref 31), some (.int (nI (4 * j + 4)))]) t149_733 rfl (nI_add (4 * j) 4) rfl (Nat.le_of_ble_eq_true rfl) ?_
          refine ep_gt t149_736 ?_
          exact L_law hX d (j + 1) q σ (by omega) (by omega) hR
        · refine ep_sw (t := 733) t149_32 (by decide +kernel) ?_
          refine ep_inc (b := nI (4 * j + 4)) (L' := [some (.ref 1000), some (.ref 0), some (.ref 31), some (.int (nI (4 * j + 4)))]) t149_733 rfl (nI_add (4 * j) 4) rfl (Nat.le_of_ble_eq_true rfl) ?_
          refine ep_gt t149_736 ?_
          exact L_law hX d (j + 1) q σ (by omega) (by omega) hR
        · refine ep_sw (t := 733) t149_32 (by decide +kernel) ?_
          refine ep_inc (b := nI (4 * j + 4)) (L' := [some (.ref 1000), some (.ref 0), some (.ref 31), some (.int (nI (4 * j + 4)))]) t149_733 rfl (nI_add (4 * j) 4) rfl (Nat.le_of_ble_eq_true rfl) ?_
          refine ep_gt t149_736 ?_
          exact L_law hX d (j + 1) q σ (by omega) (by omega) hR
        · refine ep_sw (t := 733) t149_32 (by decide +kernel) ?_
          refine ep_inc (b := nI (4 * j + 4)) (L' := [some (.ref 1000), some (.ref 0), some (.ref 31), some (.int (nI (4 * j + 4)))]) t149_733 rfl (nI_add (4 * j) 4) rfl (Nat.le_of_ble_eq_true rfl) ?_
          refine ep_gt t149_736 ?_
          exact L_law hX d (j + 1) q σ (by omega) (by omega) hR
        · refine ep_sw (t := 733) t149_32 (by decide +kernel) ?_
          refine ep_inc (b := nI (4 * j + 4)) (L' := [some (.ref 1000), some (.ref 0), some (.ref 31), some (.int (nI (4 * j + 4)))]) t149_733 rfl (nI_add (4 * j) 4) rfl (Nat.le_of_ble_eq_true rfl) ?_
          refine ep_gt t149_736 ?_
          exact L_law hX d (j + 1) q σ (by omega) (by omega) hR
      refine ep_iln t149_18 rfl ?_
      refine ep_aln t149_19 rfl ?_
      refine ep_xlen t149_20 ?_
      refine ep_k1 (w := nI 4) t149_21 rfl ?_
      refine ep_subN (a := X.1) (b := 4) t149_22 (h4) ?_
      refine ep_ifP t149_23 (ic_gt (by omega) (by omega)) (fun (c23 : (X.1 - 4) < (4 * j)) => ?_) (fun (c23 : ¬ ((X.1 - 4) < (4 * j))) => ?_)
      · refine ep_k1 (w := nI 1) t149_739 rfl ?_
        exact ep_ri t149_740 (fun _ => rfl) ⟨rfl, rfl⟩
      · refine ep_aln t149_26 rfl ?_
        refine ep_iln t149_27 rfl ?_
        refine ep_xldN t149_28 hX (by omega) ?_
        refine ep_k2 (w := nI 31) t149_29 rfl ?_
        refine ep_and t149_31 ?_
        obtain ⟨t, ht, e⟩ := pk_andE (X.2 (4 * j)) (m := nI 31) 5 rfl
        refine ep_val (b := nI t) e ?_
        exact hd c23 t ht
    · refine ep_iln t149_18 rfl ?_
      refine ep_aln t149_19 rfl ?_
      refine ep_xlen t149_20 ?_
      refine ep_k1 (w := nI 4) t149_21 rfl ?_
      refine ep_sub t149_22 ?_
      refine ep_if t149_23 (fun (c23 : ((nI X.1) - (nI 4)) < (nI (4 * j))) => ?_) (fun (c23 : ¬ (((nI X.1) - (nI 4)) < (nI (4 * j)))) => ?_)
      · refine ep_k1 (w := nI 1) t149_739 rfl ?_
        exact ep_ri t149_740 (fun _ => rfl) ⟨rfl, rfl⟩
      · exact absurd (lt_neg (by omega) (by omega)) c23
/-- where all begins: no cell stands -/
def g_0 : gS := (0, fun _ _ => none, fun _ _ => 0)
theorem law_ep (X : gX) (hX : X.1 ≤ 2048) : EvP X 149 0 [some (.ref 1000), none, none, none] [] (0, fun _ _ => none, fun _ _ => 0) (fun v g1 => v = some (.int 1) ∧ g1.1 = 47) := by
  refine ep_new t149_0 rfl (Nat.le_of_ble_eq_true rfl) (rfl) (rfl) ?_
  refine ep_dup t149_3 rfl ?_
  refine ep_ci t149_4 (Nat.ne_of_beq_eq_false rfl) rfl (Nat.le_of_ble_eq_true rfl) (cl_B_init) ?_
  refine ep_asn (L' := [some (.ref 1000), some (.ref 0), none, none]) t149_7 rfl (Nat.le_of_ble_eq_true rfl) ?_
  refine ep_new t149_8 rfl (Nat.le_of_ble_eq_true rfl) (rfl) (rfl) ?_
  refine ep_dup t149_11 rfl ?_
  obtain ⟨v1, ⟨n1, ρ1, σ1⟩, hb, rfl, ⟨hb1, hb2⟩, hb3, hb4, hb5, hb6, hb7⟩ := cl_M_init (X := X)
  dsimp only at hb1 hb2 hb3 hb4 hb5 hb6 hb7
  subst hb1; subst hb2
  refine ep_ci t149_12 (Nat.ne_of_beq_eq_false rfl) rfl (Nat.le_of_ble_eq_true rfl) (hb) ?_
  refine ep_asn (L' := [some (.ref 1000), some (.ref 0), some (.ref 31), none]) t149_15 rfl (Nat.le_of_ble_eq_true rfl) ?_
  refine ep_k1 (w := nI 0) t149_16 rfl ?_
  refine ep_isn (L' := [some (.ref 1000), some (.ref 0), some (.ref 31), some (.int (nI 0))]) t149_17 rfl (Nat.le_of_ble_eq_true rfl) ?_
  rw [← g_rho_0]
  exact L_law hX (X.1 + 1) 0 false σ1 (by omega) (by omega) (Rel_start hb3 hb4 hb5 hb6 hb7)
theorem law_ev (X : gX) (hX : X.1 ≤ 2048) : ∃ (ρ : Nat → Nat → Option Nat) (σ : Nat → Nat → Int32), Ev X 149 0 [some (.ref 1000), none, none, none] [] g_0 (some (.int 1), (47, ρ, σ)) := by
  obtain ⟨v, ⟨n, ρ, σ⟩, h1, rfl, h3⟩ := law_ep X hX
  dsimp only at h3
  subst h3
  exact ⟨ρ, σ, h1⟩
