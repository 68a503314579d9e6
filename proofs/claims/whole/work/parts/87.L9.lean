theorem w_208 {l : Launch} {w : cd_WT} {X : cd_XT} {k n b L m i c : Nat} {xs : Nat → Int32} {S : cd_Sp} {I : cd_Mem} (hO : cd_O w X code "CatDoorsLaw" 83 600000 7302250 l) (hml : X.2.2.2.2.2.2.2.2.2.1.maxLocals = 4) (hX : va_X b L xs X.2.2.2.2.1 w.2.1) (hb : b < w.1) (hL : L ≤ 3072) (hi : i + 6 ≤ L) (H : px_SM w m S I c) (hc : c ≤ 600) (hk : k + 3 ≤ 600000) (hn : n + 196 ≤ 7302250) (kk : ∀ k' n' S' I', k' ≤ k + 3 → n' ≤ n + 196 → px_SM w m S' I' (c + 1) → cd_J w X k' n' S' I' 1378 [some (.ref b), some (.ref w.1), some (.ref m), some (.int (nI i))] []) : cd_J w X k n S I 208 [some (.ref b), some (.ref w.1), some (.ref m), some (.int (nI i))] [] := by
  refine r_aload hO d_W_law_208 rfl ?_
  refine r_aload hO d_W_law_209 rfl ?_
  refine r_iload hO d_W_law_210 rfl ?_
  refine r_k hO d_W_law_211 ?_
  refine r_iaddN hO d_W_law_212 ?_
  refine r_scr hO hX hb hL (by omega) d_W_law_213 ?_
  refine r_aload hO d_W_law_214 rfl ?_
  refine r_iload hO d_W_law_215 rfl ?_
  refine r_k hO d_W_law_216 ?_
  refine r_iaddN hO d_W_law_217 ?_
  refine r_scr hO hX hb hL (by omega) d_W_law_218 ?_
  refine r_aload hO d_W_law_219 rfl ?_
  refine r_iload hO d_W_law_220 rfl ?_
  refine r_k hO d_W_law_221 ?_
  refine r_iaddN hO d_W_law_222 ?_
  refine r_scr hO hX hb hL (by omega) d_W_law_223 ?_
  refine r_aload hO d_W_law_224 rfl ?_
  refine r_iload hO d_W_law_225 rfl ?_
  refine r_k hO d_W_law_226 ?_
  refine r_iaddN hO d_W_law_227 ?_
  refine r_scr hO hX hb hL (by omega) d_W_law_228 ?_
  refine cd_callV (rest := []) (As := [.int (xs (i + 1)), .int (xs (i + 2)), .int (xs (i + 3)), .int (xs (i + 4))]) hO hml (s_asking H _ _ _ _) mf_C_asking lk_W_13 H.1.2.1.1 rfl (by decide) rfl rfl rfl (Nat.le_of_ble_eq_true rfl) d_W_law_229 ⟨by omega, by omega⟩ ?_
  rintro r S1 I1 ⟨x, rfl, hs1, hC1⟩
  show cd_J w X _ _ S1 I1 232 [some (.ref b), some (.ref w.1), some (.ref m), some (.int (nI i))] [.int x]
  refine r_aload hO d_W_law_232 rfl ?_
  refine r_aload hO d_W_law_233 rfl ?_
  refine r_iload hO d_W_law_234 rfl ?_
  refine r_k hO d_W_law_235 ?_
  refine r_iaddN hO d_W_law_236 ?_
  refine r_scr hO hX hb hL (by omega) d_W_law_237 ?_
  refine r_aload hO d_W_law_238 rfl ?_
  refine r_iload hO d_W_law_239 rfl ?_
  refine r_k hO d_W_law_240 ?_
  refine r_iaddN hO d_W_law_241 ?_
  refine r_scr hO hX hb hL (by omega) d_W_law_242 ?_
  refine r_aload hO d_W_law_243 rfl ?_
  refine r_iload hO d_W_law_244 rfl ?_
  refine r_k hO d_W_law_245 ?_
  refine r_iaddN hO d_W_law_246 ?_
  refine r_scr hO hX hb hL (by omega) d_W_law_247 ?_
  refine r_aload hO d_W_law_248 rfl ?_
  refine r_iload hO d_W_law_249 rfl ?_
  refine r_k hO d_W_law_250 ?_
  refine r_iaddN hO d_W_law_251 ?_
  refine r_scr hO hX hb hL (by omega) d_W_law_252 ?_
  refine cd_callV (rest := [.int x]) (As := [.int (xs (i + 1)), .int (xs (i + 2)), .int (xs (i + 3)), .int (xs (i + 4))]) hO hml hC1 mf_M_asking lk_W_17 hs1 rfl (by decide) rfl rfl rfl (Nat.le_of_ble_eq_true rfl) d_W_law_253 ⟨by omega, by omega⟩ ?_
  rintro r S2 I2 ⟨rfl, HS⟩
  show cd_J w X _ _ S2 I2 256 [some (.ref b), some (.ref w.1), some (.ref m), some (.int (nI i))] [.int x, .int x]
  refine r_icmp_eq hO d_W_law_256 (fun c_256 => ?_) (fun c_256 => ?_)
  · exact kk _ _ _ _ (by omega) (by omega) HS
  · exact absurd rfl c_256
theorem w_261 {l : Launch} {w : cd_WT} {X : cd_XT} {k n b L m i c : Nat} {xs : Nat → Int32} {S : cd_Sp} {I : cd_Mem} (hO : cd_O w X code "CatDoorsLaw" 83 600000 7302250 l) (hml : X.2.2.2.2.2.2.2.2.2.1.maxLocals = 4) (hX : va_X b L xs X.2.2.2.2.1 w.2.1) (hb : b < w.1) (hL : L ≤ 3072) (hi : i + 6 ≤ L) (H : px_SM w m S I c) (hc : c ≤ 600) (hk : k + 3 ≤ 600000) (hn : n + 196 ≤ 7302250) (kk : ∀ k' n' S' I', k' ≤ k + 3 → n' ≤ n + 196 → px_SM w m S' I' (c + 1) → cd_J w X k' n' S' I' 1378 [some (.ref b), some (.ref w.1), some (.ref m), some (.int (nI i))] []) : cd_J w X k n S I 261 [some (.ref b), some (.ref w.1), some (.ref m), some (.int (nI i))] [] := by
  refine r_aload hO d_W_law_261 rfl ?_
  refine r_aload hO d_W_law_262 rfl ?_
  refine r_iload hO d_W_law_263 rfl ?_
  refine r_k hO d_W_law_264 ?_
  refine r_iaddN hO d_W_law_265 ?_
  refine r_scr hO hX hb hL (by omega) d_W_law_266 ?_
  refine r_aload hO d_W_law_267 rfl ?_
  refine r_iload hO d_W_law_268 rfl ?_
  refine r_k hO d_W_law_269 ?_
  refine r_iaddN hO d_W_law_270 ?_
  refine r_scr hO hX hb hL (by omega) d_W_law_271 ?_
  refine cd_callV (rest := []) (As := [.int (xs (i + 1)), .int (xs (i + 2))]) hO hml (s_told H _ _) mf_C_told lk_W_18 H.1.2.1.1 rfl (by decide) rfl rfl rfl (Nat.le_of_ble_eq_true rfl) d_W_law_272 ⟨by omega, by omega⟩ ?_
  rintro r S1 I1 ⟨x, rfl, hs1, hC1⟩
  show cd_J w X _ _ S1 I1 275 [some (.ref b), some (.ref w.1), some (.ref m), some (.int (nI i))] [.int x]
  refine r_aload hO d_W_law_275 rfl ?_
  refine r_aload hO d_W_law_276 rfl ?_
  refine r_iload hO d_W_law_277 rfl ?_
  refine r_k hO d_W_law_278 ?_
  refine r_iaddN hO d_W_law_279 ?_
  refine r_scr hO hX hb hL (by omega) d_W_law_280 ?_
  refine r_aload hO d_W_law_281 rfl ?_
  refine r_iload hO d_W_law_282 rfl ?_
  refine r_k hO d_W_law_283 ?_
  refine r_iaddN hO d_W_law_284 ?_
  refine r_scr hO hX hb hL (by omega) d_W_law_285 ?_
  refine cd_callV (rest := [.int x]) (As := [.int (xs (i + 1)), .int (xs (i + 2))]) hO hml hC1 mf_M_told lk_W_22 hs1 rfl (by decide) rfl rfl rfl (Nat.le_of_ble_eq_true rfl) d_W_law_286 ⟨by omega, by omega⟩ ?_
  rintro r S2 I2 ⟨rfl, HS⟩
  show cd_J w X _ _ S2 I2 289 [some (.ref b), some (.ref w.1), some (.ref m), some (.int (nI i))] [.int x, .int x]
  refine r_icmp_eq hO d_W_law_289 (fun c_289 => ?_) (fun c_289 => ?_)
  · exact kk _ _ _ _ (by omega) (by omega) HS
  · exact absurd rfl c_289
theorem w_294 {l : Launch} {w : cd_WT} {X : cd_XT} {k n b L m i c : Nat} {xs : Nat → Int32} {S : cd_Sp} {I : cd_Mem} (hO : cd_O w X code "CatDoorsLaw" 83 600000 7302250 l) (hml : X.2.2.2.2.2.2.2.2.2.1.maxLocals = 4) (hX : va_X b L xs X.2.2.2.2.1 w.2.1) (hb : b < w.1) (hL : L ≤ 3072) (hi : i + 6 ≤ L) (H : px_SM w m S I c) (hc : c ≤ 600) (hk : k + 3 ≤ 600000) (hn : n + 196 ≤ 7302250) (kk : ∀ k' n' S' I', k' ≤ k + 3 → n' ≤ n + 196 → px_SM w m S' I' (c + 1) → cd_J w X k' n' S' I' 1378 [some (.ref b), some (.ref w.1), some (.ref m), some (.int (nI i))] []) : cd_J w X k n S I 294 [some (.ref b), some (.ref w.1), some (.ref m), some (.int (nI i))] [] := by
  refine r_aload hO d_W_law_294 rfl ?_
  refine r_aload hO d_W_law_295 rfl ?_
  refine r_iload hO d_W_law_296 rfl ?_
  refine r_k hO d_W_law_297 ?_
  refine r_iaddN hO d_W_law_298 ?_
  refine r_scr hO hX hb hL (by omega) d_W_law_299 ?_
  refine r_aload hO d_W_law_300 rfl ?_
  refine r_iload hO d_W_law_301 rfl ?_
  refine r_k hO d_W_law_302 ?_
  refine r_iaddN hO d_W_law_303 ?_
  refine r_scr hO hX hb hL (by omega) d_W_law_304 ?_
  refine cd_callV (rest := []) (As := [.int (xs (i + 1)), .int (xs (i + 2))]) hO hml (s_as H _ _) mf_C_as lk_W_23 H.1.2.1.1 rfl (by decide) rfl rfl rfl (Nat.le_of_ble_eq_true rfl) d_W_law_305 ⟨by omega, by omega⟩ ?_
  rintro r S1 I1 ⟨x, rfl, hs1, hC1⟩
  show cd_J w X _ _ S1 I1 308 [some (.ref b), some (.ref w.1), some (.ref m), some (.int (nI i))] [.int x]
  refine r_aload hO d_W_law_308 rfl ?_
  refine r_aload hO d_W_law_309 rfl ?_
  refine r_iload hO d_W_law_310 rfl ?_
  refine r_k hO d_W_law_311 ?_
  refine r_iaddN hO d_W_law_312 ?_
  refine r_scr hO hX hb hL (by omega) d_W_law_313 ?_
  refine r_aload hO d_W_law_314 rfl ?_
  refine r_iload hO d_W_law_315 rfl ?_
  refine r_k hO d_W_law_316 ?_
  refine r_iaddN hO d_W_law_317 ?_
  refine r_scr hO hX hb hL (by omega) d_W_law_318 ?_
  refine cd_callV (rest := [.int x]) (As := [.int (xs (i + 1)), .int (xs (i + 2))]) hO hml hC1 mf_M_as lk_W_26 hs1 rfl (by decide) rfl rfl rfl (Nat.le_of_ble_eq_true rfl) d_W_law_319 ⟨by omega, by omega⟩ ?_
  rintro r S2 I2 ⟨rfl, HS⟩
  show cd_J w X _ _ S2 I2 322 [some (.ref b), some (.ref w.1), some (.ref m), some (.int (nI i))] [.int x, .int x]
  refine r_icmp_eq hO d_W_law_322 (fun c_322 => ?_) (fun c_322 => ?_)
  · exact kk _ _ _ _ (by omega) (by omega) HS
  · exact absurd rfl c_322
theorem w_327 {l : Launch} {w : cd_WT} {X : cd_XT} {k n b L m i c : Nat} {xs : Nat → Int32} {S : cd_Sp} {I : cd_Mem} (hO : cd_O w X code "CatDoorsLaw" 83 600000 7302250 l) (hml : X.2.2.2.2.2.2.2.2.2.1.maxLocals = 4) (hX : va_X b L xs X.2.2.2.2.1 w.2.1) (hb : b < w.1) (hL : L ≤ 3072) (hi : i + 6 ≤ L) (H : px_SM w m S I c) (hc : c ≤ 600) (hk : k + 3 ≤ 600000) (hn : n + 196 ≤ 7302250) (kk : ∀ k' n' S' I', k' ≤ k + 3 → n' ≤ n + 196 → px_SM w m S' I' (c + 1) → cd_J w X k' n' S' I' 1378 [some (.ref b), some (.ref w.1), some (.ref m), some (.int (nI i))] []) : cd_J w X k n S I 327 [some (.ref b), some (.ref w.1), some (.ref m), some (.int (nI i))] [] := by
  refine r_aload hO d_W_law_327 rfl ?_
  refine r_aload hO d_W_law_328 rfl ?_
  refine r_iload hO d_W_law_329 rfl ?_
  refine r_k hO d_W_law_330 ?_
  refine r_iaddN hO d_W_law_331 ?_
  refine r_scr hO hX hb hL (by omega) d_W_law_332 ?_
  refine r_aload hO d_W_law_333 rfl ?_
  refine r_iload hO d_W_law_334 rfl ?_
  refine r_k hO d_W_law_335 ?_
  refine r_iaddN hO d_W_law_336 ?_
  refine r_scr hO hX hb hL (by omega) d_W_law_337 ?_
  refine cd_callV (rest := []) (As := [.int (xs (i + 1)), .int (xs (i + 2))]) hO hml (s_turns H _ _) mf_C_turns lk_W_27 H.1.2.1.1 rfl (by decide) rfl rfl rfl (Nat.le_of_ble_eq_true rfl) d_W_law_338 ⟨by omega, by omega⟩ ?_
  rintro r S1 I1 ⟨x, rfl, hs1, hC1⟩
  show cd_J w X _ _ S1 I1 341 [some (.ref b), some (.ref w.1), some (.ref m), some (.int (nI i))] [.int x]
  refine r_aload hO d_W_law_341 rfl ?_
  refine r_aload hO d_W_law_342 rfl ?_
  refine r_iload hO d_W_law_343 rfl ?_
  refine r_k hO d_W_law_344 ?_
  refine r_iaddN hO d_W_law_345 ?_
  refine r_scr hO hX hb hL (by omega) d_W_law_346 ?_
  refine r_aload hO d_W_law_347 rfl ?_
  refine r_iload hO d_W_law_348 rfl ?_
  refine r_k hO d_W_law_349 ?_
  refine r_iaddN hO d_W_law_350 ?_
  refine r_scr hO hX hb hL (by omega) d_W_law_351 ?_
  refine cd_callV (rest := [.int x]) (As := [.int (xs (i + 1)), .int (xs (i + 2))]) hO hml hC1 mf_M_turns lk_W_30 hs1 rfl (by decide) rfl rfl rfl (Nat.le_of_ble_eq_true rfl) d_W_law_352 ⟨by omega, by omega⟩ ?_
  rintro r S2 I2 ⟨rfl, HS⟩
  show cd_J w X _ _ S2 I2 355 [some (.ref b), some (.ref w.1), some (.ref m), some (.int (nI i))] [.int x, .int x]
  refine r_icmp_eq hO d_W_law_355 (fun c_355 => ?_) (fun c_355 => ?_)
  · exact kk _ _ _ _ (by omega) (by omega) HS
  · exact absurd rfl c_355
theorem w_360 {l : Launch} {w : cd_WT} {X : cd_XT} {k n b L m i c : Nat} {xs : Nat → Int32} {S : cd_Sp} {I : cd_Mem} (hO : cd_O w X code "CatDoorsLaw" 83 600000 7302250 l) (hml : X.2.2.2.2.2.2.2.2.2.1.maxLocals = 4) (hX : va_X b L xs X.2.2.2.2.1 w.2.1) (hb : b < w.1) (hL : L ≤ 3072) (hi : i + 6 ≤ L) (H : px_SM w m S I c) (hc : c ≤ 600) (hk : k + 3 ≤ 600000) (hn : n + 196 ≤ 7302250) (kk : ∀ k' n' S' I', k' ≤ k + 3 → n' ≤ n + 196 → px_SM w m S' I' (c + 1) → cd_J w X k' n' S' I' 1378 [some (.ref b), some (.ref w.1), some (.ref m), some (.int (nI i))] []) : cd_J w X k n S I 360 [some (.ref b), some (.ref w.1), some (.ref m), some (.int (nI i))] [] := by
  refine r_aload hO d_W_law_360 rfl ?_
  refine r_aload hO d_W_law_361 rfl ?_
  refine r_iload hO d_W_law_362 rfl ?_
  refine r_k hO d_W_law_363 ?_
  refine r_iaddN hO d_W_law_364 ?_
  refine r_scr hO hX hb hL (by omega) d_W_law_365 ?_
  refine r_aload hO d_W_law_366 rfl ?_
  refine r_iload hO d_W_law_367 rfl ?_
  refine r_k hO d_W_law_368 ?_
  refine r_iaddN hO d_W_law_369 ?_
  refine r_scr hO hX hb hL (by omega) d_W_law_370 ?_
  refine r_aload hO d_W_law_371 rfl ?_
  refine r_iload hO d_W_law_372 rfl ?_
  refine r_k hO d_W_law_373 ?_
  refine r_iaddN hO d_W_law_374 ?_
  refine r_scr hO hX hb hL (by omega) d_W_law_375 ?_
  refine cd_callV (rest := []) (As := [.int (xs (i + 1)), .int (xs (i + 2)), .int (xs (i + 3))]) hO hml (s_set H _ _ _) mf_C_set lk_W_31 H.1.2.1.1 rfl (by decide) rfl rfl rfl (Nat.le_of_ble_eq_true rfl) d_W_law_376 ⟨by omega, by omega⟩ ?_
  rintro r S1 I1 ⟨x, rfl, hs1, hC1⟩
  show cd_J w X _ _ S1 I1 379 [some (.ref b), some (.ref w.1), some (.ref m), some (.int (nI i))] [.int x]
  refine r_aload hO d_W_law_379 rfl ?_
  refine r_aload hO d_W_law_380 rfl ?_
  refine r_iload hO d_W_law_381 rfl ?_
  refine r_k hO d_W_law_382 ?_
  refine r_iaddN hO d_W_law_383 ?_
  refine r_scr hO hX hb hL (by omega) d_W_law_384 ?_
  refine r_aload hO d_W_law_385 rfl ?_
  refine r_iload hO d_W_law_386 rfl ?_
  refine r_k hO d_W_law_387 ?_
  refine r_iaddN hO d_W_law_388 ?_
  refine r_scr hO hX hb hL (by omega) d_W_law_389 ?_
  refine r_aload hO d_W_law_390 rfl ?_
  refine r_iload hO d_W_law_391 rfl ?_
  refine r_k hO d_W_law_392 ?_
  refine r_iaddN hO d_W_law_393 ?_
  refine r_scr hO hX hb hL (by omega) d_W_law_394 ?_
  refine cd_callV (rest := [.int x]) (As := [.int (xs (i + 1)), .int (xs (i + 2)), .int (xs (i + 3))]) hO hml hC1 mf_M_set lk_W_35 hs1 rfl (by decide) rfl rfl rfl (Nat.le_of_ble_eq_true rfl) d_W_law_395 ⟨by omega, by omega⟩ ?_
  rintro r S2 I2 ⟨rfl, HS⟩
  show cd_J w X _ _ S2 I2 398 [some (.ref b), some (.ref w.1), some (.ref m), some (.int (nI i))] [.int x, .int x]
  refine r_icmp_eq hO d_W_law_398 (fun c_398 => ?_) (fun c_398 => ?_)
  · exact kk _ _ _ _ (by omega) (by omega) HS
  · exact absurd rfl c_398
theorem w_403 {l : Launch} {w : cd_WT} {X : cd_XT} {k n b L m i c : Nat} {xs : Nat → Int32} {S : cd_Sp} {I : cd_Mem} (hO : cd_O w X code "CatDoorsLaw" 83 600000 7302250 l) (hml : X.2.2.2.2.2.2.2.2.2.1.maxLocals = 4) (hX : va_X b L xs X.2.2.2.2.1 w.2.1) (hb : b < w.1) (hL : L ≤ 3072) (hi : i + 6 ≤ L) (H : px_SM w m S I c) (hc : c ≤ 600) (hk : k + 3 ≤ 600000) (hn : n + 196 ≤ 7302250) (kk : ∀ k' n' S' I', k' ≤ k + 3 → n' ≤ n + 196 → px_SM w m S' I' (c + 1) → cd_J w X k' n' S' I' 1378 [some (.ref b), some (.ref w.1), some (.ref m), some (.int (nI i))] []) : cd_J w X k n S I 403 [some (.ref b), some (.ref w.1), some (.ref m), some (.int (nI i))] [] := by
  refine r_aload hO d_W_law_403 rfl ?_
  refine r_aload hO d_W_law_404 rfl ?_
  refine r_iload hO d_W_law_405 rfl ?_
  refine r_k hO d_W_law_406 ?_
  refine r_iaddN hO d_W_law_407 ?_
  refine r_scr hO hX hb hL (by omega) d_W_law_408 ?_
  refine r_aload hO d_W_law_409 rfl ?_
  refine r_iload hO d_W_law_410 rfl ?_
  refine r_k hO d_W_law_411 ?_
  refine r_iaddN hO d_W_law_412 ?_
  refine r_scr hO hX hb hL (by omega) d_W_law_413 ?_
  refine cd_callV (rest := []) (As := [.int (xs (i + 1)), .int (xs (i + 2))]) hO hml (s_rule H _ _) mf_C_rule lk_W_36 H.1.2.1.1 rfl (by decide) rfl rfl rfl (Nat.le_of_ble_eq_true rfl) d_W_law_414 ⟨by omega, by omega⟩ ?_
  rintro r S1 I1 ⟨x, rfl, hs1, hC1⟩
  show cd_J w X _ _ S1 I1 417 [some (.ref b), some (.ref w.1), some (.ref m), some (.int (nI i))] [.int x]
  refine r_aload hO d_W_law_417 rfl ?_
  refine r_aload hO d_W_law_418 rfl ?_
  refine r_iload hO d_W_law_419 rfl ?_
  refine r_k hO d_W_law_420 ?_
  refine r_iaddN hO d_W_law_421 ?_
  refine r_scr hO hX hb hL (by omega) d_W_law_422 ?_
  refine r_aload hO d_W_law_423 rfl ?_
  refine r_iload hO d_W_law_424 rfl ?_
  refine r_k hO d_W_law_425 ?_
  refine r_iaddN hO d_W_law_426 ?_
  refine r_scr hO hX hb hL (by omega) d_W_law_427 ?_
  refine cd_callV (rest := [.int x]) (As := [.int (xs (i + 1)), .int (xs (i + 2))]) hO hml hC1 mf_M_rule lk_W_39 hs1 rfl (by decide) rfl rfl rfl (Nat.le_of_ble_eq_true rfl) d_W_law_428 ⟨by omega, by omega⟩ ?_
  rintro r S2 I2 ⟨rfl, HS⟩
  show cd_J w X _ _ S2 I2 431 [some (.ref b), some (.ref w.1), some (.ref m), some (.int (nI i))] [.int x, .int x]
  refine r_icmp_eq hO d_W_law_431 (fun c_431 => ?_) (fun c_431 => ?_)
  · exact kk _ _ _ _ (by omega) (by omega) HS
  · exact absurd rfl c_431
theorem w_436 {l : Launch} {w : cd_WT} {X : cd_XT} {k n b L m i c : Nat} {xs : Nat → Int32} {S : cd_Sp} {I : cd_Mem} (hO : cd_O w X code "CatDoorsLaw" 83 600000 7302250 l) (hml : X.2.2.2.2.2.2.2.2.2.1.maxLocals = 4) (hX : va_X b L xs X.2.2.2.2.1 w.2.1) (hb : b < w.1) (hL : L ≤ 3072) (hi : i + 6 ≤ L) (H : px_SM w m S I c) (hc : c ≤ 600) (hk : k + 3 ≤ 600000) (hn : n + 196 ≤ 7302250) (kk : ∀ k' n' S' I', k' ≤ k + 3 → n' ≤ n + 196 → px_SM w m S' I' (c + 1) → cd_J w X k' n' S' I' 1378 [some (.ref b), some (.ref w.1), some (.ref m), some (.int (nI i))] []) : cd_J w X k n S I 436 [some (.ref b), some (.ref w.1), some (.ref m), some (.int (nI i))] [] := by
  refine r_aload hO d_W_law_436 rfl ?_
  refine r_aload hO d_W_law_437 rfl ?_
  refine r_iload hO d_W_law_438 rfl ?_
  refine r_k hO d_W_law_439 ?_
  refine r_iaddN hO d_W_law_440 ?_
  refine r_scr hO hX hb hL (by omega) d_W_law_441 ?_
  refine cd_callV (rest := []) (As := [.int (xs (i + 1))]) hO hml (s_opens H _) mf_C_opens lk_W_40 H.1.2.1.1 rfl (by decide) rfl rfl rfl (Nat.le_of_ble_eq_true rfl) d_W_law_442 ⟨by omega, by omega⟩ ?_
  rintro r S1 I1 ⟨x, rfl, hs1, hC1⟩
  show cd_J w X _ _ S1 I1 445 [some (.ref b), some (.ref w.1), some (.ref m), some (.int (nI i))] [.int x]
  refine r_aload hO d_W_law_445 rfl ?_
  refine r_aload hO d_W_law_446 rfl ?_
  refine r_iload hO d_W_law_447 rfl ?_
  refine r_k hO d_W_law_448 ?_
  refine r_iaddN hO d_W_law_449 ?_
  refine r_scr hO hX hb hL (by omega) d_W_law_450 ?_
  refine cd_callV (rest := [.int x]) (As := [.int (xs (i + 1))]) hO hml hC1 mf_M_opens lk_W_44 hs1 rfl (by decide) rfl rfl rfl (Nat.le_of_ble_eq_true rfl) d_W_law_451 ⟨by omega, by omega⟩ ?_
  rintro r S2 I2 ⟨rfl, HS⟩
  show cd_J w X _ _ S2 I2 454 [some (.ref b), some (.ref w.1), some (.ref m), some (.int (nI i))] [.int x, .int x]
  refine r_icmp_eq hO d_W_law_454 (fun c_454 => ?_) (fun c_454 => ?_)
  · exact kk _ _ _ _ (by omega) (by omega) HS
  · exact absurd rfl c_454
theorem w_459 {l : Launch} {w : cd_WT} {X : cd_XT} {k n b L m i c : Nat} {xs : Nat → Int32} {S : cd_Sp} {I : cd_Mem} (hO : cd_O w X code "CatDoorsLaw" 83 600000 7302250 l) (hml : X.2.2.2.2.2.2.2.2.2.1.maxLocals = 4) (hX : va_X b L xs X.2.2.2.2.1 w.2.1) (hb : b < w.1) (hL : L ≤ 3072) (hi : i + 6 ≤ L) (H : px_SM w m S I c) (hc : c ≤ 600) (hk : k + 3 ≤ 600000) (hn : n + 196 ≤ 7302250) (kk : ∀ k' n' S' I', k' ≤ k + 3 → n' ≤ n + 196 → px_SM w m S' I' (c + 1) → cd_J w X k' n' S' I' 1378 [some (.ref b), some (.ref w.1), some (.ref m), some (.int (nI i))] []) : cd_J w X k n S I 459 [some (.ref b), some (.ref w.1), some (.ref m), some (.int (nI i))] [] := by
  refine r_aload hO d_W_law_459 rfl ?_
  refine r_aload hO d_W_law_460 rfl ?_
  refine r_iload hO d_W_law_461 rfl ?_
  refine r_k hO d_W_law_462 ?_
  refine r_iaddN hO d_W_law_463 ?_
  refine r_scr hO hX hb hL (by omega) d_W_law_464 ?_
  refine cd_callV (rest := []) (As := [.int (xs (i + 1))]) hO hml (s_deal H _) mf_C_deal lk_W_45 H.1.2.1.1 rfl (by decide) rfl rfl rfl (Nat.le_of_ble_eq_true rfl) d_W_law_465 ⟨by omega, by omega⟩ ?_
  rintro r S1 I1 ⟨x, rfl, hs1, hC1⟩
  show cd_J w X _ _ S1 I1 468 [some (.ref b), some (.ref w.1), some (.ref m), some (.int (nI i))] [.int x]
  refine r_aload hO d_W_law_468 rfl ?_
  refine r_aload hO d_W_law_469 rfl ?_
  refine r_iload hO d_W_law_470 rfl ?_
  refine r_k hO d_W_law_471 ?_
  refine r_iaddN hO d_W_law_472 ?_
  refine r_scr hO hX hb hL (by omega) d_W_law_473 ?_
  refine cd_callV (rest := [.int x]) (As := [.int (xs (i + 1))]) hO hml hC1 mf_M_deal lk_W_48 hs1 rfl (by decide) rfl rfl rfl (Nat.le_of_ble_eq_true rfl) d_W_law_474 ⟨by omega, by omega⟩ ?_
  rintro r S2 I2 ⟨rfl, HS⟩
  show cd_J w X _ _ S2 I2 477 [some (.ref b), some (.ref w.1), some (.ref m), some (.int (nI i))] [.int x, .int x]
  refine r_icmp_eq hO d_W_law_477 (fun c_477 => ?_) (fun c_477 => ?_)
  · exact kk _ _ _ _ (by omega) (by omega) HS
  · exact absurd rfl c_477
theorem w_482 {l : Launch} {w : cd_WT} {X : cd_XT} {k n b L m i c : Nat} {xs : Nat → Int32} {S : cd_Sp} {I : cd_Mem} (hO : cd_O w X code "CatDoorsLaw" 83 600000 7302250 l) (hml : X.2.2.2.2.2.2.2.2.2.1.maxLocals = 4) (hX : va_X b L xs X.2.2.2.2.1 w.2.1) (hb : b < w.1) (hL : L ≤ 3072) (hi : i + 6 ≤ L) (H : px_SM w m S I c) (hc : c ≤ 600) (hk : k + 3 ≤ 600000) (hn : n + 196 ≤ 7302250) (kk : ∀ k' n' S' I', k' ≤ k + 3 → n' ≤ n + 196 → px_SM w m S' I' (c + 1) → cd_J w X k' n' S' I' 1378 [some (.ref b), some (.ref w.1), some (.ref m), some (.int (nI i))] []) : cd_J w X k n S I 482 [some (.ref b), some (.ref w.1), some (.ref m), some (.int (nI i))] [] := by
  refine r_aload hO d_W_law_482 rfl ?_
  refine r_aload hO d_W_law_483 rfl ?_
  refine r_iload hO d_W_law_484 rfl ?_
  refine r_k hO d_W_law_485 ?_
  refine r_iaddN hO d_W_law_486 ?_
  refine r_scr hO hX hb hL (by omega) d_W_law_487 ?_
  refine cd_callV (rest := []) (As := [.int (xs (i + 1))]) hO hml (s_seed H _) mf_C_seed lk_W_49 H.1.2.1.1 rfl (by decide) rfl rfl rfl (Nat.le_of_ble_eq_true rfl) d_W_law_488 ⟨by omega, by omega⟩ ?_
  rintro r S1 I1 ⟨x, rfl, hs1, hC1⟩
  show cd_J w X _ _ S1 I1 491 [some (.ref b), some (.ref w.1), some (.ref m), some (.int (nI i))] [.int x]
  refine r_aload hO d_W_law_491 rfl ?_
  refine r_aload hO d_W_law_492 rfl ?_
  refine r_iload hO d_W_law_493 rfl ?_
  refine r_k hO d_W_law_494 ?_
  refine r_iaddN hO d_W_law_495 ?_
  refine r_scr hO hX hb hL (by omega) d_W_law_496 ?_
  refine cd_callV (rest := [.int x]) (As := [.int (xs (i + 1))]) hO hml hC1 mf_M_seed lk_W_52 hs1 rfl (by decide) rfl rfl rfl (Nat.le_of_ble_eq_true rfl) d_W_law_497 ⟨by omega, by omega⟩ ?_
  rintro r S2 I2 ⟨rfl, HS⟩
  show cd_J w X _ _ S2 I2 500 [some (.ref b), some (.ref w.1), some (.ref m), some (.int (nI i))] [.int x, .int x]
  refine r_icmp_eq hO d_W_law_500 (fun c_500 => ?_) (fun c_500 => ?_)
  · exact kk _ _ _ _ (by omega) (by omega) HS
  · exact absurd rfl c_500
theorem w_505 {l : Launch} {w : cd_WT} {X : cd_XT} {k n b L m i c : Nat} {xs : Nat → Int32} {S : cd_Sp} {I : cd_Mem} (hO : cd_O w X code "CatDoorsLaw" 83 600000 7302250 l) (hml : X.2.2.2.2.2.2.2.2.2.1.maxLocals = 4) (hX : va_X b L xs X.2.2.2.2.1 w.2.1) (hb : b < w.1) (hL : L ≤ 3072) (hi : i + 6 ≤ L) (H : px_SM w m S I c) (hc : c ≤ 600) (hk : k + 3 ≤ 600000) (hn : n + 196 ≤ 7302250) (kk : ∀ k' n' S' I', k' ≤ k + 3 → n' ≤ n + 196 → px_SM w m S' I' (c + 1) → cd_J w X k' n' S' I' 1378 [some (.ref b), some (.ref w.1), some (.ref m), some (.int (nI i))] []) : cd_J w X k n S I 505 [some (.ref b), some (.ref w.1), some (.ref m), some (.int (nI i))] [] := by
  refine r_aload hO d_W_law_505 rfl ?_
  refine r_aload hO d_W_law_506 rfl ?_
  refine r_iload hO d_W_law_507 rfl ?_
  refine r_k hO d_W_law_508 ?_
  refine r_iaddN hO d_W_law_509 ?_
  refine r_scr hO hX hb hL (by omega) d_W_law_510 ?_
  refine cd_callV (rest := []) (As := [.int (xs (i + 1))]) hO hml (s_hours H _) mf_C_hours lk_W_53 H.1.2.1.1 rfl (by decide) rfl rfl rfl (Nat.le_of_ble_eq_true rfl) d_W_law_511 ⟨by omega, by omega⟩ ?_
  rintro r S1 I1 ⟨x, rfl, hs1, hC1⟩
  show cd_J w X _ _ S1 I1 514 [some (.ref b), some (.ref w.1), some (.ref m), some (.int (nI i))] [.int x]
  refine r_aload hO d_W_law_514 rfl ?_
  refine r_aload hO d_W_law_515 rfl ?_
  refine r_iload hO d_W_law_516 rfl ?_
  refine r_k hO d_W_law_517 ?_
  refine r_iaddN hO d_W_law_518 ?_
  refine r_scr hO hX hb hL (by omega) d_W_law_519 ?_
  refine cd_callV (rest := [.int x]) (As := [.int (xs (i + 1))]) hO hml hC1 mf_M_hours lk_W_56 hs1 rfl (by decide) rfl rfl rfl (Nat.le_of_ble_eq_true rfl) d_W_law_520 ⟨by omega, by omega⟩ ?_
  rintro r S2 I2 ⟨rfl, HS⟩
  show cd_J w X _ _ S2 I2 523 [some (.ref b), some (.ref w.1), some (.ref m), some (.int (nI i))] [.int x, .int x]
  refine r_icmp_eq hO d_W_law_523 (fun c_523 => ?_) (fun c_523 => ?_)
  · exact kk _ _ _ _ (by omega) (by omega) HS
  · exact absurd rfl c_523
theorem w_528 {l : Launch} {w : cd_WT} {X : cd_XT} {k n b L m i c : Nat} {xs : Nat → Int32} {S : cd_Sp} {I : cd_Mem} (hO : cd_O w X code "CatDoorsLaw" 83 600000 7302250 l) (hml : X.2.2.2.2.2.2.2.2.2.1.maxLocals = 4) (hX : va_X b L xs X.2.2.2.2.1 w.2.1) (hb : b < w.1) (hL : L ≤ 3072) (hi : i + 6 ≤ L) (H : px_SM w m S I c) (hc : c ≤ 600) (hk : k + 3 ≤ 600000) (hn : n + 196 ≤ 7302250) (kk : ∀ k' n' S' I', k' ≤ k + 3 → n' ≤ n + 196 → px_SM w m S' I' (c + 1) → cd_J w X k' n' S' I' 1378 [some (.ref b), some (.ref w.1), some (.ref m), some (.int (nI i))] []) : cd_J w X k n S I 528 [some (.ref b), some (.ref w.1), some (.ref m), some (.int (nI i))] [] := by
  refine r_aload hO d_W_law_528 rfl ?_
  refine r_aload hO d_W_law_529 rfl ?_
  refine r_iload hO d_W_law_530 rfl ?_
  refine r_k hO d_W_law_531 ?_
  refine r_iaddN hO d_W_law_532 ?_
  refine r_scr hO hX hb hL (by omega) d_W_law_533 ?_
  refine cd_callV (rest := []) (As := [.int (xs (i + 1))]) hO hml (s_house H _) mf_C_house lk_W_57 H.1.2.1.1 rfl (by decide) rfl rfl rfl (Nat.le_of_ble_eq_true rfl) d_W_law_534 ⟨by omega, by omega⟩ ?_
  rintro r S1 I1 ⟨x, rfl, hs1, hC1⟩
  show cd_J w X _ _ S1 I1 537 [some (.ref b), some (.ref w.1), some (.ref m), some (.int (nI i))] [.int x]
  refine r_aload hO d_W_law_537 rfl ?_
  refine r_aload hO d_W_law_538 rfl ?_
  refine r_iload hO d_W_law_539 rfl ?_
  refine r_k hO d_W_law_540 ?_
  refine r_iaddN hO d_W_law_541 ?_
  refine r_scr hO hX hb hL (by omega) d_W_law_542 ?_
  refine cd_callV (rest := [.int x]) (As := [.int (xs (i + 1))]) hO hml hC1 mf_M_house lk_W_60 hs1 rfl (by decide) rfl rfl rfl (Nat.le_of_ble_eq_true rfl) d_W_law_543 ⟨by omega, by omega⟩ ?_
  rintro r S2 I2 ⟨rfl, HS⟩
  show cd_J w X _ _ S2 I2 546 [some (.ref b), some (.ref w.1), some (.ref m), some (.int (nI i))] [.int x, .int x]
  refine r_icmp_eq hO d_W_law_546 (fun c_546 => ?_) (fun c_546 => ?_)
  · exact kk _ _ _ _ (by omega) (by omega) HS
  · exact absurd rfl c_546
theorem w_551 {l : Launch} {w : cd_WT} {X : cd_XT} {k n b L m i c : Nat} {xs : Nat → Int32} {S : cd_Sp} {I : cd_Mem} (hO : cd_O w X code "CatDoorsLaw" 83 600000 7302250 l) (hml : X.2.2.2.2.2.2.2.2.2.1.maxLocals = 4) (hX : va_X b L xs X.2.2.2.2.1 w.2.1) (hb : b < w.1) (hL : L ≤ 3072) (hi : i + 6 ≤ L) (H : px_SM w m S I c) (hc : c ≤ 600) (hk : k + 3 ≤ 600000) (hn : n + 196 ≤ 7302250) (kk : ∀ k' n' S' I', k' ≤ k + 3 → n' ≤ n + 196 → px_SM w m S' I' (c + 1) → cd_J w X k' n' S' I' 1378 [some (.ref b), some (.ref w.1), some (.ref m), some (.int (nI i))] []) : cd_J w X k n S I 551 [some (.ref b), some (.ref w.1), some (.ref m), some (.int (nI i))] [] := by
  refine r_aload hO d_W_law_551 rfl ?_
  refine r_aload hO d_W_law_552 rfl ?_
  refine r_iload hO d_W_law_553 rfl ?_
  refine r_k hO d_W_law_554 ?_
  refine r_iaddN hO d_W_law_555 ?_
  refine r_scr hO hX hb hL (by omega) d_W_law_556 ?_
  refine r_aload hO d_W_law_557 rfl ?_
  refine r_iload hO d_W_law_558 rfl ?_
  refine r_k hO d_W_law_559 ?_
  refine r_iaddN hO d_W_law_560 ?_
  refine r_scr hO hX hb hL (by omega) d_W_law_561 ?_
  refine cd_callV (rest := []) (As := [.int (xs (i + 1)), .int (xs (i + 2))]) hO hml (s_behind H _ _) mf_C_behind lk_W_61 H.1.2.1.1 rfl (by decide) rfl rfl rfl (Nat.le_of_ble_eq_true rfl) d_W_law_562 ⟨by omega, by omega⟩ ?_
  rintro r S1 I1 ⟨x, rfl, hs1, hC1⟩
  show cd_J w X _ _ S1 I1 565 [some (.ref b), some (.ref w.1), some (.ref m), some (.int (nI i))] [.int x]
  refine r_aload hO d_W_law_565 rfl ?_
  refine r_aload hO d_W_law_566 rfl ?_
  refine r_iload hO d_W_law_567 rfl ?_
  refine r_k hO d_W_law_568 ?_
  refine r_iaddN hO d_W_law_569 ?_
  refine r_scr hO hX hb hL (by omega) d_W_law_570 ?_
  refine r_aload hO d_W_law_571 rfl ?_
  refine r_iload hO d_W_law_572 rfl ?_
  refine r_k hO d_W_law_573 ?_
  refine r_iaddN hO d_W_law_574 ?_
  refine r_scr hO hX hb hL (by omega) d_W_law_575 ?_
  refine cd_callV (rest := [.int x]) (As := [.int (xs (i + 1)), .int (xs (i + 2))]) hO hml hC1 mf_M_behind lk_W_64 hs1 rfl (by decide) rfl rfl rfl (Nat.le_of_ble_eq_true rfl) d_W_law_576 ⟨by omega, by omega⟩ ?_
  rintro r S2 I2 ⟨rfl, HS⟩
  show cd_J w X _ _ S2 I2 579 [some (.ref b), some (.ref w.1), some (.ref m), some (.int (nI i))] [.int x, .int x]
  refine r_icmp_eq hO d_W_law_579 (fun c_579 => ?_) (fun c_579 => ?_)
  · exact kk _ _ _ _ (by omega) (by omega) HS
  · exact absurd rfl c_579
theorem w_584 {l : Launch} {w : cd_WT} {X : cd_XT} {k n b L m i c : Nat} {xs : Nat → Int32} {S : cd_Sp} {I : cd_Mem} (hO : cd_O w X code "CatDoorsLaw" 83 600000 7302250 l) (hml : X.2.2.2.2.2.2.2.2.2.1.maxLocals = 4) (hX : va_X b L xs X.2.2.2.2.1 w.2.1) (hb : b < w.1) (hL : L ≤ 3072) (hi : i + 6 ≤ L) (H : px_SM w m S I c) (hc : c ≤ 600) (hk : k + 3 ≤ 600000) (hn : n + 196 ≤ 7302250) (kk : ∀ k' n' S' I', k' ≤ k + 3 → n' ≤ n + 196 → px_SM w m S' I' (c + 1) → cd_J w X k' n' S' I' 1378 [some (.ref b), some (.ref w.1), some (.ref m), some (.int (nI i))] []) : cd_J w X k n S I 584 [some (.ref b), some (.ref w.1), some (.ref m), some (.int (nI i))] [] := by
  refine r_aload hO d_W_law_584 rfl ?_
  refine cd_callV (rest := []) (As := []) hO hml (s_quiet H ) mf_C_quiet lk_W_65 H.1.2.1.1 rfl (by decide) rfl rfl rfl (Nat.le_of_ble_eq_true rfl) d_W_law_585 ⟨by omega, by omega⟩ ?_
  rintro r S1 I1 ⟨x, rfl, hs1, hC1⟩
  show cd_J w X _ _ S1 I1 588 [some (.ref b), some (.ref w.1), some (.ref m), some (.int (nI i))] [.int x]
  refine r_aload hO d_W_law_588 rfl ?_
  refine cd_callV (rest := [.int x]) (As := []) hO hml hC1 mf_M_quiet lk_W_69 hs1 rfl (by decide) rfl rfl rfl (Nat.le_of_ble_eq_true rfl) d_W_law_589 ⟨by omega, by omega⟩ ?_
  rintro r S2 I2 ⟨rfl, HS⟩
  show cd_J w X _ _ S2 I2 592 [some (.ref b), some (.ref w.1), some (.ref m), some (.int (nI i))] [.int x, .int x]
  refine r_icmp_eq hO d_W_law_592 (fun c_592 => ?_) (fun c_592 => ?_)
  · exact kk _ _ _ _ (by omega) (by omega) HS
  · exact absurd rfl c_592
theorem w_597 {l : Launch} {w : cd_WT} {X : cd_XT} {k n b L m i c : Nat} {xs : Nat → Int32} {S : cd_Sp} {I : cd_Mem} (hO : cd_O w X code "CatDoorsLaw" 83 600000 7302250 l) (hml : X.2.2.2.2.2.2.2.2.2.1.maxLocals = 4) (hX : va_X b L xs X.2.2.2.2.1 w.2.1) (hb : b < w.1) (hL : L ≤ 3072) (hi : i + 6 ≤ L) (H : px_SM w m S I c) (hc : c ≤ 600) (hk : k + 3 ≤ 600000) (hn : n + 196 ≤ 7302250) (kk : ∀ k' n' S' I', k' ≤ k + 3 → n' ≤ n + 196 → px_SM w m S' I' (c + 1) → cd_J w X k' n' S' I' 1378 [some (.ref b), some (.ref w.1), some (.ref m), some (.int (nI i))] []) : cd_J w X k n S I 597 [some (.ref b), some (.ref w.1), some (.ref m), some (.int (nI i))] [] := by
  refine r_aload hO d_W_law_597 rfl ?_
  refine r_aload hO d_W_law_598 rfl ?_
  refine r_iload hO d_W_law_599 rfl ?_
  refine r_k hO d_W_law_600 ?_
  refine r_iaddN hO d_W_law_601 ?_
  refine r_scr hO hX hb hL (by omega) d_W_law_602 ?_
  refine r_aload hO d_W_law_603 rfl ?_
  refine r_iload hO d_W_law_604 rfl ?_
  refine r_k hO d_W_law_605 ?_
  refine r_iaddN hO d_W_law_606 ?_
  refine r_scr hO hX hb hL (by omega) d_W_law_607 ?_
  refine cd_callV (rest := []) (As := [.int (xs (i + 1)), .int (xs (i + 2))]) hO hml (s_firm H _ _) mf_C_firm lk_W_70 H.1.2.1.1 rfl (by decide) rfl rfl rfl (Nat.le_of_ble_eq_true rfl) d_W_law_608 ⟨by omega, by omega⟩ ?_
  rintro r S1 I1 ⟨x, rfl, hs1, hC1⟩
  show cd_J w X _ _ S1 I1 611 [some (.ref b), some (.ref w.1), some (.ref m), some (.int (nI i))] [.int x]
  refine r_aload hO d_W_law_611 rfl ?_
  refine r_aload hO d_W_law_612 rfl ?_
  refine r_iload hO d_W_law_613 rfl ?_
  refine r_k hO d_W_law_614 ?_
  refine r_iaddN hO d_W_law_615 ?_
  refine r_scr hO hX hb hL (by omega) d_W_law_616 ?_
  refine r_aload hO d_W_law_617 rfl ?_
  refine r_iload hO d_W_law_618 rfl ?_
  refine r_k hO d_W_law_619 ?_
  refine r_iaddN hO d_W_law_620 ?_
  refine r_scr hO hX hb hL (by omega) d_W_law_621 ?_
  refine cd_callV (rest := [.int x]) (As := [.int (xs (i + 1)), .int (xs (i + 2))]) hO hml hC1 mf_M_firm lk_W_73 hs1 rfl (by decide) rfl rfl rfl (Nat.le_of_ble_eq_true rfl) d_W_law_622 ⟨by omega, by omega⟩ ?_
  rintro r S2 I2 ⟨rfl, HS⟩
  show cd_J w X _ _ S2 I2 625 [some (.ref b), some (.ref w.1), some (.ref m), some (.int (nI i))] [.int x, .int x]
  refine r_icmp_eq hO d_W_law_625 (fun c_625 => ?_) (fun c_625 => ?_)
  · exact kk _ _ _ _ (by omega) (by omega) HS
  · exact absurd rfl c_625
theorem w_630 {l : Launch} {w : cd_WT} {X : cd_XT} {k n b L m i c : Nat} {xs : Nat → Int32} {S : cd_Sp} {I : cd_Mem} (hO : cd_O w X code "CatDoorsLaw" 83 600000 7302250 l) (hml : X.2.2.2.2.2.2.2.2.2.1.maxLocals = 4) (hX : va_X b L xs X.2.2.2.2.1 w.2.1) (hb : b < w.1) (hL : L ≤ 3072) (hi : i + 6 ≤ L) (H : px_SM w m S I c) (hc : c ≤ 600) (hk : k + 3 ≤ 600000) (hn : n + 196 ≤ 7302250) (kk : ∀ k' n' S' I', k' ≤ k + 3 → n' ≤ n + 196 → px_SM w m S' I' (c + 1) → cd_J w X k' n' S' I' 1378 [some (.ref b), some (.ref w.1), some (.ref m), some (.int (nI i))] []) : cd_J w X k n S I 630 [some (.ref b), some (.ref w.1), some (.ref m), some (.int (nI i))] [] := by
  refine r_aload hO d_W_law_630 rfl ?_
  refine r_aload hO d_W_law_631 rfl ?_
  refine r_iload hO d_W_law_632 rfl ?_
  refine r_k hO d_W_law_633 ?_
  refine r_iaddN hO d_W_law_634 ?_
  refine r_scr hO hX hb hL (by omega) d_W_law_635 ?_
  refine r_aload hO d_W_law_636 rfl ?_
  refine r_iload hO d_W_law_637 rfl ?_
  refine r_k hO d_W_law_638 ?_
  refine r_iaddN hO d_W_law_639 ?_
  refine r_scr hO hX hb hL (by omega) d_W_law_640 ?_
  refine cd_callV (rest := []) (As := [.int (xs (i + 1)), .int (xs (i + 2))]) hO hml (s_givenIn H _ _) mf_C_givenIn lk_W_74 H.1.2.1.1 rfl (by decide) rfl rfl rfl (Nat.le_of_ble_eq_true rfl) d_W_law_641 ⟨by omega, by omega⟩ ?_
  rintro r S1 I1 ⟨x, rfl, hs1, hC1⟩
  show cd_J w X _ _ S1 I1 644 [some (.ref b), some (.ref w.1), some (.ref m), some (.int (nI i))] [.int x]
  refine r_aload hO d_W_law_644 rfl ?_
  refine r_aload hO d_W_law_645 rfl ?_
  refine r_iload hO d_W_law_646 rfl ?_
  refine r_k hO d_W_law_647 ?_
  refine r_iaddN hO d_W_law_648 ?_
  refine r_scr hO hX hb hL (by omega) d_W_law_649 ?_
  refine r_aload hO d_W_law_650 rfl ?_
  refine r_iload hO d_W_law_651 rfl ?_
  refine r_k hO d_W_law_652 ?_
  refine r_iaddN hO d_W_law_653 ?_
  refine r_scr hO hX hb hL (by omega) d_W_law_654 ?_
  refine cd_callV (rest := [.int x]) (As := [.int (xs (i + 1)), .int (xs (i + 2))]) hO hml hC1 mf_M_givenIn lk_W_77 hs1 rfl (by decide) rfl rfl rfl (Nat.le_of_ble_eq_true rfl) d_W_law_655 ⟨by omega, by omega⟩ ?_
  rintro r S2 I2 ⟨rfl, HS⟩
  show cd_J w X _ _ S2 I2 658 [some (.ref b), some (.ref w.1), some (.ref m), some (.int (nI i))] [.int x, .int x]
  refine r_icmp_eq hO d_W_law_658 (fun c_658 => ?_) (fun c_658 => ?_)
  · exact kk _ _ _ _ (by omega) (by omega) HS
  · exact absurd rfl c_658
theorem w_663 {l : Launch} {w : cd_WT} {X : cd_XT} {k n b L m i c : Nat} {xs : Nat → Int32} {S : cd_Sp} {I : cd_Mem} (hO : cd_O w X code "CatDoorsLaw" 83 600000 7302250 l) (hml : X.2.2.2.2.2.2.2.2.2.1.maxLocals = 4) (hX : va_X b L xs X.2.2.2.2.1 w.2.1) (hb : b < w.1) (hL : L ≤ 3072) (hi : i + 6 ≤ L) (H : px_SM w m S I c) (hc : c ≤ 600) (hk : k + 3 ≤ 600000) (hn : n + 196 ≤ 7302250) (kk : ∀ k' n' S' I', k' ≤ k + 3 → n' ≤ n + 196 → px_SM w m S' I' (c + 1) → cd_J w X k' n' S' I' 1378 [some (.ref b), some (.ref w.1), some (.ref m), some (.int (nI i))] []) : cd_J w X k n S I 663 [some (.ref b), some (.ref w.1), some (.ref m), some (.int (nI i))] [] := by
  refine r_aload hO d_W_law_663 rfl ?_
  refine r_aload hO d_W_law_664 rfl ?_
  refine r_iload hO d_W_law_665 rfl ?_
  refine r_k hO d_W_law_666 ?_
  refine r_iaddN hO d_W_law_667 ?_
  refine r_scr hO hX hb hL (by omega) d_W_law_668 ?_
  refine r_aload hO d_W_law_669 rfl ?_
  refine r_iload hO d_W_law_670 rfl ?_
  refine r_k hO d_W_law_671 ?_
  refine r_iaddN hO d_W_law_672 ?_
  refine r_scr hO hX hb hL (by omega) d_W_law_673 ?_
  refine cd_callV (rest := []) (As := [.int (xs (i + 1)), .int (xs (i + 2))]) hO hml (s_heard H hc _ _) mf_C_heard lk_W_78 H.1.2.1.1 rfl (by decide) rfl rfl rfl (Nat.le_of_ble_eq_true rfl) d_W_law_674 ⟨by omega, by omega⟩ ?_
  rintro r S1 I1 ⟨x, rfl, hs1, hC1⟩
  show cd_J w X _ _ S1 I1 677 [some (.ref b), some (.ref w.1), some (.ref m), some (.int (nI i))] [.int x]
  refine r_aload hO d_W_law_677 rfl ?_
  refine r_aload hO d_W_law_678 rfl ?_
  refine r_iload hO d_W_law_679 rfl ?_
  refine r_k hO d_W_law_680 ?_
  refine r_iaddN hO d_W_law_681 ?_
  refine r_scr hO hX hb hL (by omega) d_W_law_682 ?_
  refine r_aload hO d_W_law_683 rfl ?_
  refine r_iload hO d_W_law_684 rfl ?_
  refine r_k hO d_W_law_685 ?_
  refine r_iaddN hO d_W_law_686 ?_
  refine r_scr hO hX hb hL (by omega) d_W_law_687 ?_
  refine cd_callV (rest := [.int x]) (As := [.int (xs (i + 1)), .int (xs (i + 2))]) hO hml hC1 mf_M_heard lk_W_81 hs1 rfl (by decide) rfl rfl rfl (Nat.le_of_ble_eq_true rfl) d_W_law_688 ⟨by omega, by omega⟩ ?_
  rintro r S2 I2 ⟨rfl, HS⟩
  show cd_J w X _ _ S2 I2 691 [some (.ref b), some (.ref w.1), some (.ref m), some (.int (nI i))] [.int x, .int x]
  refine r_icmp_eq hO d_W_law_691 (fun c_691 => ?_) (fun c_691 => ?_)
  · exact kk _ _ _ _ (by omega) (by omega) HS
  · exact absurd rfl c_691
theorem w_696 {l : Launch} {w : cd_WT} {X : cd_XT} {k n b L m i c : Nat} {xs : Nat → Int32} {S : cd_Sp} {I : cd_Mem} (hO : cd_O w X code "CatDoorsLaw" 83 600000 7302250 l) (hml : X.2.2.2.2.2.2.2.2.2.1.maxLocals = 4) (hX : va_X b L xs X.2.2.2.2.1 w.2.1) (hb : b < w.1) (hL : L ≤ 3072) (hi : i + 6 ≤ L) (H : px_SM w m S I c) (hc : c ≤ 600) (hk : k + 3 ≤ 600000) (hn : n + 196 ≤ 7302250) (kk : ∀ k' n' S' I', k' ≤ k + 3 → n' ≤ n + 196 → px_SM w m S' I' (c + 1) → cd_J w X k' n' S' I' 1378 [some (.ref b), some (.ref w.1), some (.ref m), some (.int (nI i))] []) : cd_J w X k n S I 696 [some (.ref b), some (.ref w.1), some (.ref m), some (.int (nI i))] [] := by
  refine r_aload hO d_W_law_696 rfl ?_
  refine r_aload hO d_W_law_697 rfl ?_
  refine r_iload hO d_W_law_698 rfl ?_
  refine r_k hO d_W_law_699 ?_
  refine r_iaddN hO d_W_law_700 ?_
  refine r_scr hO hX hb hL (by omega) d_W_law_701 ?_
  refine cd_callV (rest := []) (As := [.int (xs (i + 1))]) hO hml (s_lamp H _) mf_C_lamp lk_W_82 H.1.2.1.1 rfl (by decide) rfl rfl rfl (Nat.le_of_ble_eq_true rfl) d_W_law_702 ⟨by omega, by omega⟩ ?_
  rintro r S1 I1 ⟨x, rfl, hs1, hC1⟩
  show cd_J w X _ _ S1 I1 705 [some (.ref b), some (.ref w.1), some (.ref m), some (.int (nI i))] [.int x]
  refine r_aload hO d_W_law_705 rfl ?_
  refine r_aload hO d_W_law_706 rfl ?_
  refine r_iload hO d_W_law_707 rfl ?_
  refine r_k hO d_W_law_708 ?_
  refine r_iaddN hO d_W_law_709 ?_
  refine r_scr hO hX hb hL (by omega) d_W_law_710 ?_
  refine cd_callV (rest := [.int x]) (As := [.int (xs (i + 1))]) hO hml hC1 mf_M_lamp lk_W_85 hs1 rfl (by decide) rfl rfl rfl (Nat.le_of_ble_eq_true rfl) d_W_law_711 ⟨by omega, by omega⟩ ?_
  rintro r S2 I2 ⟨rfl, HS⟩
  show cd_J w X _ _ S2 I2 714 [some (.ref b), some (.ref w.1), some (.ref m), some (.int (nI i))] [.int x, .int x]
  refine r_icmp_eq hO d_W_law_714 (fun c_714 => ?_) (fun c_714 => ?_)
  · exact kk _ _ _ _ (by omega) (by omega) HS
  · exact absurd rfl c_714
theorem w_719 {l : Launch} {w : cd_WT} {X : cd_XT} {k n b L m i c : Nat} {xs : Nat → Int32} {S : cd_Sp} {I : cd_Mem} (hO : cd_O w X code "CatDoorsLaw" 83 600000 7302250 l) (hml : X.2.2.2.2.2.2.2.2.2.1.maxLocals = 4) (hX : va_X b L xs X.2.2.2.2.1 w.2.1) (hb : b < w.1) (hL : L ≤ 3072) (hi : i + 6 ≤ L) (H : px_SM w m S I c) (hc : c ≤ 600) (hk : k + 3 ≤ 600000) (hn : n + 196 ≤ 7302250) (kk : ∀ k' n' S' I', k' ≤ k + 3 → n' ≤ n + 196 → px_SM w m S' I' (c + 1) → cd_J w X k' n' S' I' 1378 [some (.ref b), some (.ref w.1), some (.ref m), some (.int (nI i))] []) : cd_J w X k n S I 719 [some (.ref b), some (.ref w.1), some (.ref m), some (.int (nI i))] [] := by
  refine r_aload hO d_W_law_719 rfl ?_
  refine r_aload hO d_W_law_720 rfl ?_
  refine r_iload hO d_W_law_721 rfl ?_
  refine r_k hO d_W_law_722 ?_
  refine r_iaddN hO d_W_law_723 ?_
  refine r_scr hO hX hb hL (by omega) d_W_law_724 ?_
  refine cd_callV (rest := []) (As := [.int (xs (i + 1))]) hO hml (s_saved H _) mf_C_saved lk_W_86 H.1.2.1.1 rfl (by decide) rfl rfl rfl (Nat.le_of_ble_eq_true rfl) d_W_law_725 ⟨by omega, by omega⟩ ?_
  rintro r S1 I1 ⟨x, rfl, hs1, hC1⟩
  show cd_J w X _ _ S1 I1 728 [some (.ref b), some (.ref w.1), some (.ref m), some (.int (nI i))] [.int x]
  refine r_aload hO d_W_law_728 rfl ?_
  refine r_aload hO d_W_law_729 rfl ?_
  refine r_iload hO d_W_law_730 rfl ?_
  refine r_k hO d_W_law_731 ?_
  refine r_iaddN hO d_W_law_732 ?_
  refine r_scr hO hX hb hL (by omega) d_W_law_733 ?_
  refine cd_callV (rest := [.int x]) (As := [.int (xs (i + 1))]) hO hml hC1 mf_M_saved lk_W_89 hs1 rfl (by decide) rfl rfl rfl (Nat.le_of_ble_eq_true rfl) d_W_law_734 ⟨by omega, by omega⟩ ?_
  rintro r S2 I2 ⟨rfl, HS⟩
  show cd_J w X _ _ S2 I2 737 [some (.ref b), some (.ref w.1), some (.ref m), some (.int (nI i))] [.int x, .int x]
  refine r_icmp_eq hO d_W_law_737 (fun c_737 => ?_) (fun c_737 => ?_)
  · exact kk _ _ _ _ (by omega) (by omega) HS
  · exact absurd rfl c_737
theorem w_742 {l : Launch} {w : cd_WT} {X : cd_XT} {k n b L m i c : Nat} {xs : Nat → Int32} {S : cd_Sp} {I : cd_Mem} (hO : cd_O w X code "CatDoorsLaw" 83 600000 7302250 l) (hml : X.2.2.2.2.2.2.2.2.2.1.maxLocals = 4) (hX : va_X b L xs X.2.2.2.2.1 w.2.1) (hb : b < w.1) (hL : L ≤ 3072) (hi : i + 6 ≤ L) (H : px_SM w m S I c) (hc : c ≤ 600) (hk : k + 3 ≤ 600000) (hn : n + 196 ≤ 7302250) (kk : ∀ k' n' S' I', k' ≤ k + 3 → n' ≤ n + 196 → px_SM w m S' I' (c + 1) → cd_J w X k' n' S' I' 1378 [some (.ref b), some (.ref w.1), some (.ref m), some (.int (nI i))] []) : cd_J w X k n S I 742 [some (.ref b), some (.ref w.1), some (.ref m), some (.int (nI i))] [] := by
  refine r_aload hO d_W_law_742 rfl ?_
  refine r_aload hO d_W_law_743 rfl ?_
  refine r_iload hO d_W_law_744 rfl ?_
  refine r_k hO d_W_law_745 ?_
  refine r_iaddN hO d_W_law_746 ?_
  refine r_scr hO hX hb hL (by omega) d_W_law_747 ?_
  refine r_aload hO d_W_law_748 rfl ?_
  refine r_iload hO d_W_law_749 rfl ?_
  refine r_k hO d_W_law_750 ?_
  refine r_iaddN hO d_W_law_751 ?_
  refine r_scr hO hX hb hL (by omega) d_W_law_752 ?_
  refine cd_callV (rest := []) (As := [.int (xs (i + 1)), .int (xs (i + 2))]) hO hml (s_taught H _ _) mf_C_taught lk_W_90 H.1.2.1.1 rfl (by decide) rfl rfl rfl (Nat.le_of_ble_eq_true rfl) d_W_law_753 ⟨by omega, by omega⟩ ?_
  rintro r S1 I1 ⟨x, rfl, hs1, hC1⟩
  show cd_J w X _ _ S1 I1 756 [some (.ref b), some (.ref w.1), some (.ref m), some (.int (nI i))] [.int x]
  refine r_aload hO d_W_law_756 rfl ?_
  refine r_aload hO d_W_law_757 rfl ?_
  refine r_iload hO d_W_law_758 rfl ?_
  refine r_k hO d_W_law_759 ?_
  refine r_iaddN hO d_W_law_760 ?_
  refine r_scr hO hX hb hL (by omega) d_W_law_761 ?_
  refine r_aload hO d_W_law_762 rfl ?_
  refine r_iload hO d_W_law_763 rfl ?_
  refine r_k hO d_W_law_764 ?_
  refine r_iaddN hO d_W_law_765 ?_
  refine r_scr hO hX hb hL (by omega) d_W_law_766 ?_
  refine cd_callV (rest := [.int x]) (As := [.int (xs (i + 1)), .int (xs (i + 2))]) hO hml hC1 mf_M_taught lk_W_93 hs1 rfl (by decide) rfl rfl rfl (Nat.le_of_ble_eq_true rfl) d_W_law_767 ⟨by omega, by omega⟩ ?_
  rintro r S2 I2 ⟨rfl, HS⟩
  show cd_J w X _ _ S2 I2 770 [some (.ref b), some (.ref w.1), some (.ref m), some (.int (nI i))] [.int x, .int x]
  refine r_icmp_eq hO d_W_law_770 (fun c_770 => ?_) (fun c_770 => ?_)
  · exact kk _ _ _ _ (by omega) (by omega) HS
  · exact absurd rfl c_770
theorem w_775 {l : Launch} {w : cd_WT} {X : cd_XT} {k n b L m i c : Nat} {xs : Nat → Int32} {S : cd_Sp} {I : cd_Mem} (hO : cd_O w X code "CatDoorsLaw" 83 600000 7302250 l) (hml : X.2.2.2.2.2.2.2.2.2.1.maxLocals = 4) (hX : va_X b L xs X.2.2.2.2.1 w.2.1) (hb : b < w.1) (hL : L ≤ 3072) (hi : i + 6 ≤ L) (H : px_SM w m S I c) (hc : c ≤ 600) (hk : k + 3 ≤ 600000) (hn : n + 196 ≤ 7302250) (kk : ∀ k' n' S' I', k' ≤ k + 3 → n' ≤ n + 196 → px_SM w m S' I' (c + 1) → cd_J w X k' n' S' I' 1378 [some (.ref b), some (.ref w.1), some (.ref m), some (.int (nI i))] []) : cd_J w X k n S I 775 [some (.ref b), some (.ref w.1), some (.ref m), some (.int (nI i))] [] := by
  refine r_aload hO d_W_law_775 rfl ?_
  refine cd_callV (rest := []) (As := []) hO hml (s_fee H ) mf_C_fee lk_W_94 H.1.2.1.1 rfl (by decide) rfl rfl rfl (Nat.le_of_ble_eq_true rfl) d_W_law_776 ⟨by omega, by omega⟩ ?_
  rintro r S1 I1 ⟨x, rfl, hs1, hC1⟩
  show cd_J w X _ _ S1 I1 779 [some (.ref b), some (.ref w.1), some (.ref m), some (.int (nI i))] [.int x]
  refine r_aload hO d_W_law_779 rfl ?_
  refine cd_callV (rest := [.int x]) (As := []) hO hml hC1 mf_M_fee lk_W_97 hs1 rfl (by decide) rfl rfl rfl (Nat.le_of_ble_eq_true rfl) d_W_law_780 ⟨by omega, by omega⟩ ?_
  rintro r S2 I2 ⟨rfl, HS⟩
  show cd_J w X _ _ S2 I2 783 [some (.ref b), some (.ref w.1), some (.ref m), some (.int (nI i))] [.int x, .int x]
  refine r_icmp_eq hO d_W_law_783 (fun c_783 => ?_) (fun c_783 => ?_)
  · exact kk _ _ _ _ (by omega) (by omega) HS
  · exact absurd rfl c_783
theorem w_788 {l : Launch} {w : cd_WT} {X : cd_XT} {k n b L m i c : Nat} {xs : Nat → Int32} {S : cd_Sp} {I : cd_Mem} (hO : cd_O w X code "CatDoorsLaw" 83 600000 7302250 l) (hml : X.2.2.2.2.2.2.2.2.2.1.maxLocals = 4) (hX : va_X b L xs X.2.2.2.2.1 w.2.1) (hb : b < w.1) (hL : L ≤ 3072) (hi : i + 6 ≤ L) (H : px_SM w m S I c) (hc : c ≤ 600) (hk : k + 3 ≤ 600000) (hn : n + 196 ≤ 7302250) (kk : ∀ k' n' S' I', k' ≤ k + 3 → n' ≤ n + 196 → px_SM w m S' I' (c + 1) → cd_J w X k' n' S' I' 1378 [some (.ref b), some (.ref w.1), some (.ref m), some (.int (nI i))] []) : cd_J w X k n S I 788 [some (.ref b), some (.ref w.1), some (.ref m), some (.int (nI i))] [] := by
  refine r_aload hO d_W_law_788 rfl ?_
  refine r_aload hO d_W_law_789 rfl ?_
  refine r_iload hO d_W_law_790 rfl ?_
  refine r_k hO d_W_law_791 ?_
  refine r_iaddN hO d_W_law_792 ?_
  refine r_scr hO hX hb hL (by omega) d_W_law_793 ?_
  refine cd_callV (rest := []) (As := [.int (xs (i + 1))]) hO hml (s_fine H _) mf_C_fine lk_W_98 H.1.2.1.1 rfl (by decide) rfl rfl rfl (Nat.le_of_ble_eq_true rfl) d_W_law_794 ⟨by omega, by omega⟩ ?_
  rintro r S1 I1 ⟨x, rfl, hs1, hC1⟩
  show cd_J w X _ _ S1 I1 797 [some (.ref b), some (.ref w.1), some (.ref m), some (.int (nI i))] [.int x]
  refine r_aload hO d_W_law_797 rfl ?_
  refine r_aload hO d_W_law_798 rfl ?_
  refine r_iload hO d_W_law_799 rfl ?_
  refine r_k hO d_W_law_800 ?_
  refine r_iaddN hO d_W_law_801 ?_
  refine r_scr hO hX hb hL (by omega) d_W_law_802 ?_
  refine cd_callV (rest := [.int x]) (As := [.int (xs (i + 1))]) hO hml hC1 mf_M_fine lk_W_101 hs1 rfl (by decide) rfl rfl rfl (Nat.le_of_ble_eq_true rfl) d_W_law_803 ⟨by omega, by omega⟩ ?_
  rintro r S2 I2 ⟨rfl, HS⟩
  show cd_J w X _ _ S2 I2 806 [some (.ref b), some (.ref w.1), some (.ref m), some (.int (nI i))] [.int x, .int x]
  refine r_icmp_eq hO d_W_law_806 (fun c_806 => ?_) (fun c_806 => ?_)
  · exact kk _ _ _ _ (by omega) (by omega) HS
  · exact absurd rfl c_806
theorem w_811 {l : Launch} {w : cd_WT} {X : cd_XT} {k n b L m i c : Nat} {xs : Nat → Int32} {S : cd_Sp} {I : cd_Mem} (hO : cd_O w X code "CatDoorsLaw" 83 600000 7302250 l) (hml : X.2.2.2.2.2.2.2.2.2.1.maxLocals = 4) (hX : va_X b L xs X.2.2.2.2.1 w.2.1) (hb : b < w.1) (hL : L ≤ 3072) (hi : i + 6 ≤ L) (H : px_SM w m S I c) (hc : c ≤ 600) (hk : k + 3 ≤ 600000) (hn : n + 196 ≤ 7302250) (kk : ∀ k' n' S' I', k' ≤ k + 3 → n' ≤ n + 196 → px_SM w m S' I' (c + 1) → cd_J w X k' n' S' I' 1378 [some (.ref b), some (.ref w.1), some (.ref m), some (.int (nI i))] []) : cd_J w X k n S I 811 [some (.ref b), some (.ref w.1), some (.ref m), some (.int (nI i))] [] := by
  refine r_aload hO d_W_law_811 rfl ?_
  refine r_aload hO d_W_law_812 rfl ?_
  refine r_iload hO d_W_law_813 rfl ?_
  refine r_k hO d_W_law_814 ?_
  refine r_iaddN hO d_W_law_815 ?_
  refine r_scr hO hX hb hL (by omega) d_W_law_816 ?_
  refine r_aload hO d_W_law_817 rfl ?_
  refine r_iload hO d_W_law_818 rfl ?_
  refine r_k hO d_W_law_819 ?_
  refine r_iaddN hO d_W_law_820 ?_
  refine r_scr hO hX hb hL (by omega) d_W_law_821 ?_
  refine r_aload hO d_W_law_822 rfl ?_
  refine r_iload hO d_W_law_823 rfl ?_
  refine r_k hO d_W_law_824 ?_
  refine r_iaddN hO d_W_law_825 ?_
  refine r_scr hO hX hb hL (by omega) d_W_law_826 ?_
  refine cd_callV (rest := []) (As := [.int (xs (i + 1)), .int (xs (i + 2)), .int (xs (i + 3))]) hO hml (s_feed H _ _ _) mf_C_feed lk_W_102 H.1.2.1.1 rfl (by decide) rfl rfl rfl (Nat.le_of_ble_eq_true rfl) d_W_law_827 ⟨by omega, by omega⟩ ?_
  rintro r S1 I1 ⟨x, rfl, hs1, hC1⟩
  show cd_J w X _ _ S1 I1 830 [some (.ref b), some (.ref w.1), some (.ref m), some (.int (nI i))] [.int x]
  refine r_aload hO d_W_law_830 rfl ?_
  refine r_aload hO d_W_law_831 rfl ?_
  refine r_iload hO d_W_law_832 rfl ?_
  refine r_k hO d_W_law_833 ?_
  refine r_iaddN hO d_W_law_834 ?_
  refine r_scr hO hX hb hL (by omega) d_W_law_835 ?_
  refine r_aload hO d_W_law_836 rfl ?_
  refine r_iload hO d_W_law_837 rfl ?_
  refine r_k hO d_W_law_838 ?_
  refine r_iaddN hO d_W_law_839 ?_
  refine r_scr hO hX hb hL (by omega) d_W_law_840 ?_
  refine r_aload hO d_W_law_841 rfl ?_
  refine r_iload hO d_W_law_842 rfl ?_
  refine r_k hO d_W_law_843 ?_
  refine r_iaddN hO d_W_law_844 ?_
  refine r_scr hO hX hb hL (by omega) d_W_law_845 ?_
  refine cd_callV (rest := [.int x]) (As := [.int (xs (i + 1)), .int (xs (i + 2)), .int (xs (i + 3))]) hO hml hC1 mf_M_feed lk_W_105 hs1 rfl (by decide) rfl rfl rfl (Nat.le_of_ble_eq_true rfl) d_W_law_846 ⟨by omega, by omega⟩ ?_
  rintro r S2 I2 ⟨rfl, HS⟩
  show cd_J w X _ _ S2 I2 849 [some (.ref b), some (.ref w.1), some (.ref m), some (.int (nI i))] [.int x, .int x]
  refine r_icmp_eq hO d_W_law_849 (fun c_849 => ?_) (fun c_849 => ?_)
  · exact kk _ _ _ _ (by omega) (by omega) HS
  · exact absurd rfl c_849
theorem w_854 {l : Launch} {w : cd_WT} {X : cd_XT} {k n b L m i c : Nat} {xs : Nat → Int32} {S : cd_Sp} {I : cd_Mem} (hO : cd_O w X code "CatDoorsLaw" 83 600000 7302250 l) (hml : X.2.2.2.2.2.2.2.2.2.1.maxLocals = 4) (hX : va_X b L xs X.2.2.2.2.1 w.2.1) (hb : b < w.1) (hL : L ≤ 3072) (hi : i + 6 ≤ L) (H : px_SM w m S I c) (hc : c ≤ 600) (hk : k + 3 ≤ 600000) (hn : n + 196 ≤ 7302250) (kk : ∀ k' n' S' I', k' ≤ k + 3 → n' ≤ n + 196 → px_SM w m S' I' (c + 1) → cd_J w X k' n' S' I' 1378 [some (.ref b), some (.ref w.1), some (.ref m), some (.int (nI i))] []) : cd_J w X k n S I 854 [some (.ref b), some (.ref w.1), some (.ref m), some (.int (nI i))] [] := by
  refine r_aload hO d_W_law_854 rfl ?_
  refine r_aload hO d_W_law_855 rfl ?_
  refine r_iload hO d_W_law_856 rfl ?_
  refine r_k hO d_W_law_857 ?_
  refine r_iaddN hO d_W_law_858 ?_
  refine r_scr hO hX hb hL (by omega) d_W_law_859 ?_
  refine cd_callV (rest := []) (As := [.int (xs (i + 1))]) hO hml (s_trim H _) mf_C_trim lk_W_106 H.1.2.1.1 rfl (by decide) rfl rfl rfl (Nat.le_of_ble_eq_true rfl) d_W_law_860 ⟨by omega, by omega⟩ ?_
  rintro r S1 I1 ⟨x, rfl, hs1, hC1⟩
  show cd_J w X _ _ S1 I1 863 [some (.ref b), some (.ref w.1), some (.ref m), some (.int (nI i))] [.int x]
  refine r_aload hO d_W_law_863 rfl ?_
  refine r_aload hO d_W_law_864 rfl ?_
  refine r_iload hO d_W_law_865 rfl ?_
  refine r_k hO d_W_law_866 ?_
  refine r_iaddN hO d_W_law_867 ?_
  refine r_scr hO hX hb hL (by omega) d_W_law_868 ?_
  refine cd_callV (rest := [.int x]) (As := [.int (xs (i + 1))]) hO hml hC1 mf_M_trim lk_W_109 hs1 rfl (by decide) rfl rfl rfl (Nat.le_of_ble_eq_true rfl) d_W_law_869 ⟨by omega, by omega⟩ ?_
  rintro r S2 I2 ⟨rfl, HS⟩
  show cd_J w X _ _ S2 I2 872 [some (.ref b), some (.ref w.1), some (.ref m), some (.int (nI i))] [.int x, .int x]
  refine r_icmp_eq hO d_W_law_872 (fun c_872 => ?_) (fun c_872 => ?_)
  · exact kk _ _ _ _ (by omega) (by omega) HS
  · exact absurd rfl c_872
theorem w_877 {l : Launch} {w : cd_WT} {X : cd_XT} {k n b L m i c : Nat} {xs : Nat → Int32} {S : cd_Sp} {I : cd_Mem} (hO : cd_O w X code "CatDoorsLaw" 83 600000 7302250 l) (hml : X.2.2.2.2.2.2.2.2.2.1.maxLocals = 4) (hX : va_X b L xs X.2.2.2.2.1 w.2.1) (hb : b < w.1) (hL : L ≤ 3072) (hi : i + 6 ≤ L) (H : px_SM w m S I c) (hc : c ≤ 600) (hk : k + 3 ≤ 600000) (hn : n + 196 ≤ 7302250) (kk : ∀ k' n' S' I', k' ≤ k + 3 → n' ≤ n + 196 → px_SM w m S' I' (c + 1) → cd_J w X k' n' S' I' 1378 [some (.ref b), some (.ref w.1), some (.ref m), some (.int (nI i))] []) : cd_J w X k n S I 877 [some (.ref b), some (.ref w.1), some (.ref m), some (.int (nI i))] [] := by
  refine r_aload hO d_W_law_877 rfl ?_
  refine cd_callV (rest := []) (As := []) hO hml (s_text H ) mf_C_text lk_W_110 H.1.2.1.1 rfl (by decide) rfl rfl rfl (Nat.le_of_ble_eq_true rfl) d_W_law_878 ⟨by omega, by omega⟩ ?_
  rintro r S1 I1 ⟨x, rfl, hs1, hC1⟩
  show cd_J w X _ _ S1 I1 881 [some (.ref b), some (.ref w.1), some (.ref m), some (.int (nI i))] [.int x]
  refine r_aload hO d_W_law_881 rfl ?_
  refine cd_callV (rest := [.int x]) (As := []) hO hml hC1 mf_M_text lk_W_113 hs1 rfl (by decide) rfl rfl rfl (Nat.le_of_ble_eq_true rfl) d_W_law_882 ⟨by omega, by omega⟩ ?_
  rintro r S2 I2 ⟨rfl, HS⟩
  show cd_J w X _ _ S2 I2 885 [some (.ref b), some (.ref w.1), some (.ref m), some (.int (nI i))] [.int x, .int x]
  refine r_icmp_eq hO d_W_law_885 (fun c_885 => ?_) (fun c_885 => ?_)
  · exact kk _ _ _ _ (by omega) (by omega) HS
  · exact absurd rfl c_885
theorem w_890 {l : Launch} {w : cd_WT} {X : cd_XT} {k n b L m i c : Nat} {xs : Nat → Int32} {S : cd_Sp} {I : cd_Mem} (hO : cd_O w X code "CatDoorsLaw" 83 600000 7302250 l) (hml : X.2.2.2.2.2.2.2.2.2.1.maxLocals = 4) (hX : va_X b L xs X.2.2.2.2.1 w.2.1) (hb : b < w.1) (hL : L ≤ 3072) (hi : i + 6 ≤ L) (H : px_SM w m S I c) (hc : c ≤ 600) (hk : k + 3 ≤ 600000) (hn : n + 196 ≤ 7302250) (kk : ∀ k' n' S' I', k' ≤ k + 3 → n' ≤ n + 196 → px_SM w m S' I' (c + 1) → cd_J w X k' n' S' I' 1378 [some (.ref b), some (.ref w.1), some (.ref m), some (.int (nI i))] []) : cd_J w X k n S I 890 [some (.ref b), some (.ref w.1), some (.ref m), some (.int (nI i))] [] := by
  refine r_aload hO d_W_law_890 rfl ?_
  refine r_aload hO d_W_law_891 rfl ?_
  refine r_iload hO d_W_law_892 rfl ?_
  refine r_k hO d_W_law_893 ?_
  refine r_iaddN hO d_W_law_894 ?_
  refine r_scr hO hX hb hL (by omega) d_W_law_895 ?_
  refine r_aload hO d_W_law_896 rfl ?_
  refine r_iload hO d_W_law_897 rfl ?_
  refine r_k hO d_W_law_898 ?_
  refine r_iaddN hO d_W_law_899 ?_
  refine r_scr hO hX hb hL (by omega) d_W_law_900 ?_
  refine cd_callV (rest := []) (As := [.int (xs (i + 1)), .int (xs (i + 2))]) hO hml (s_textTold H _ _) mf_C_textTold lk_W_114 H.1.2.1.1 rfl (by decide) rfl rfl rfl (Nat.le_of_ble_eq_true rfl) d_W_law_901 ⟨by omega, by omega⟩ ?_
  rintro r S1 I1 ⟨x, rfl, hs1, hC1⟩
  show cd_J w X _ _ S1 I1 904 [some (.ref b), some (.ref w.1), some (.ref m), some (.int (nI i))] [.int x]
  refine r_aload hO d_W_law_904 rfl ?_
  refine r_aload hO d_W_law_905 rfl ?_
  refine r_iload hO d_W_law_906 rfl ?_
  refine r_k hO d_W_law_907 ?_
  refine r_iaddN hO d_W_law_908 ?_
  refine r_scr hO hX hb hL (by omega) d_W_law_909 ?_
  refine r_aload hO d_W_law_910 rfl ?_
  refine r_iload hO d_W_law_911 rfl ?_
  refine r_k hO d_W_law_912 ?_
  refine r_iaddN hO d_W_law_913 ?_
  refine r_scr hO hX hb hL (by omega) d_W_law_914 ?_
  refine cd_callV (rest := [.int x]) (As := [.int (xs (i + 1)), .int (xs (i + 2))]) hO hml hC1 mf_M_textTold lk_W_117 hs1 rfl (by decide) rfl rfl rfl (Nat.le_of_ble_eq_true rfl) d_W_law_915 ⟨by omega, by omega⟩ ?_
  rintro r S2 I2 ⟨rfl, HS⟩
  show cd_J w X _ _ S2 I2 918 [some (.ref b), some (.ref w.1), some (.ref m), some (.int (nI i))] [.int x, .int x]
  refine r_icmp_eq hO d_W_law_918 (fun c_918 => ?_) (fun c_918 => ?_)
  · exact kk _ _ _ _ (by omega) (by omega) HS
  · exact absurd rfl c_918
theorem w_923 {l : Launch} {w : cd_WT} {X : cd_XT} {k n b L m i c : Nat} {xs : Nat → Int32} {S : cd_Sp} {I : cd_Mem} (hO : cd_O w X code "CatDoorsLaw" 83 600000 7302250 l) (hml : X.2.2.2.2.2.2.2.2.2.1.maxLocals = 4) (hX : va_X b L xs X.2.2.2.2.1 w.2.1) (hb : b < w.1) (hL : L ≤ 3072) (hi : i + 6 ≤ L) (H : px_SM w m S I c) (hc : c ≤ 600) (hk : k + 3 ≤ 600000) (hn : n + 196 ≤ 7302250) (kk : ∀ k' n' S' I', k' ≤ k + 3 → n' ≤ n + 196 → px_SM w m S' I' (c + 1) → cd_J w X k' n' S' I' 1378 [some (.ref b), some (.ref w.1), some (.ref m), some (.int (nI i))] []) : cd_J w X k n S I 923 [some (.ref b), some (.ref w.1), some (.ref m), some (.int (nI i))] [] := by
  refine r_aload hO d_W_law_923 rfl ?_
  refine r_aload hO d_W_law_924 rfl ?_
  refine r_iload hO d_W_law_925 rfl ?_
  refine r_k hO d_W_law_926 ?_
  refine r_iaddN hO d_W_law_927 ?_
  refine r_scr hO hX hb hL (by omega) d_W_law_928 ?_
  refine cd_callV (rest := []) (As := [.int (xs (i + 1))]) hO hml (s_why H _) mf_C_why lk_W_118 H.1.2.1.1 rfl (by decide) rfl rfl rfl (Nat.le_of_ble_eq_true rfl) d_W_law_929 ⟨by omega, by omega⟩ ?_
  rintro r S1 I1 ⟨x, rfl, hs1, hC1⟩
  show cd_J w X _ _ S1 I1 932 [some (.ref b), some (.ref w.1), some (.ref m), some (.int (nI i))] [.int x]
  refine r_aload hO d_W_law_932 rfl ?_
  refine r_aload hO d_W_law_933 rfl ?_
  refine r_iload hO d_W_law_934 rfl ?_
  refine r_k hO d_W_law_935 ?_
  refine r_iaddN hO d_W_law_936 ?_
  refine r_scr hO hX hb hL (by omega) d_W_law_937 ?_
  refine cd_callV (rest := [.int x]) (As := [.int (xs (i + 1))]) hO hml hC1 mf_M_why lk_W_121 hs1 rfl (by decide) rfl rfl rfl (Nat.le_of_ble_eq_true rfl) d_W_law_938 ⟨by omega, by omega⟩ ?_
  rintro r S2 I2 ⟨rfl, HS⟩
  show cd_J w X _ _ S2 I2 941 [some (.ref b), some (.ref w.1), some (.ref m), some (.int (nI i))] [.int x, .int x]
  refine r_icmp_eq hO d_W_law_941 (fun c_941 => ?_) (fun c_941 => ?_)
  · exact kk _ _ _ _ (by omega) (by omega) HS
  · exact absurd rfl c_941
theorem w_946 {l : Launch} {w : cd_WT} {X : cd_XT} {k n b L m i c : Nat} {xs : Nat → Int32} {S : cd_Sp} {I : cd_Mem} (hO : cd_O w X code "CatDoorsLaw" 83 600000 7302250 l) (hml : X.2.2.2.2.2.2.2.2.2.1.maxLocals = 4) (hX : va_X b L xs X.2.2.2.2.1 w.2.1) (hb : b < w.1) (hL : L ≤ 3072) (hi : i + 6 ≤ L) (H : px_SM w m S I c) (hc : c ≤ 600) (hk : k + 3 ≤ 600000) (hn : n + 196 ≤ 7302250) (kk : ∀ k' n' S' I', k' ≤ k + 3 → n' ≤ n + 196 → px_SM w m S' I' (c + 1) → cd_J w X k' n' S' I' 1378 [some (.ref b), some (.ref w.1), some (.ref m), some (.int (nI i))] []) : cd_J w X k n S I 946 [some (.ref b), some (.ref w.1), some (.ref m), some (.int (nI i))] [] := by
  refine r_aload hO d_W_law_946 rfl ?_
  refine r_aload hO d_W_law_947 rfl ?_
  refine r_iload hO d_W_law_948 rfl ?_
  refine r_k hO d_W_law_949 ?_
  refine r_iaddN hO d_W_law_950 ?_
  refine r_scr hO hX hb hL (by omega) d_W_law_951 ?_
  refine r_aload hO d_W_law_952 rfl ?_
  refine r_iload hO d_W_law_953 rfl ?_
  refine r_k hO d_W_law_954 ?_
  refine r_iaddN hO d_W_law_955 ?_
  refine r_scr hO hX hb hL (by omega) d_W_law_956 ?_
  refine r_aload hO d_W_law_957 rfl ?_
  refine r_iload hO d_W_law_958 rfl ?_
  refine r_k hO d_W_law_959 ?_
  refine r_iaddN hO d_W_law_960 ?_
  refine r_scr hO hX hb hL (by omega) d_W_law_961 ?_
  refine cd_callV (rest := []) (As := [.int (xs (i + 1)), .int (xs (i + 2)), .int (xs (i + 3))]) hO hml (s_sheet H _ _ _) mf_C_sheet lk_W_122 H.1.2.1.1 rfl (by decide) rfl rfl rfl (Nat.le_of_ble_eq_true rfl) d_W_law_962 ⟨by omega, by omega⟩ ?_
  rintro r S1 I1 ⟨x, rfl, hs1, hC1⟩
  show cd_J w X _ _ S1 I1 965 [some (.ref b), some (.ref w.1), some (.ref m), some (.int (nI i))] [.int x]
  refine r_aload hO d_W_law_965 rfl ?_
  refine r_aload hO d_W_law_966 rfl ?_
  refine r_iload hO d_W_law_967 rfl ?_
  refine r_k hO d_W_law_968 ?_
  refine r_iaddN hO d_W_law_969 ?_
  refine r_scr hO hX hb hL (by omega) d_W_law_970 ?_
  refine r_aload hO d_W_law_971 rfl ?_
  refine r_iload hO d_W_law_972 rfl ?_
  refine r_k hO d_W_law_973 ?_
  refine r_iaddN hO d_W_law_974 ?_
  refine r_scr hO hX hb hL (by omega) d_W_law_975 ?_
  refine r_aload hO d_W_law_976 rfl ?_
  refine r_iload hO d_W_law_977 rfl ?_
  refine r_k hO d_W_law_978 ?_
  refine r_iaddN hO d_W_law_979 ?_
  refine r_scr hO hX hb hL (by omega) d_W_law_980 ?_
  refine cd_callV (rest := [.int x]) (As := [.int (xs (i + 1)), .int (xs (i + 2)), .int (xs (i + 3))]) hO hml hC1 mf_M_sheet lk_W_125 hs1 rfl (by decide) rfl rfl rfl (Nat.le_of_ble_eq_true rfl) d_W_law_981 ⟨by omega, by omega⟩ ?_
  rintro r S2 I2 ⟨rfl, HS⟩
  show cd_J w X _ _ S2 I2 984 [some (.ref b), some (.ref w.1), some (.ref m), some (.int (nI i))] [.int x, .int x]
  refine r_icmp_eq hO d_W_law_984 (fun c_984 => ?_) (fun c_984 => ?_)
  · exact kk _ _ _ _ (by omega) (by omega) HS
  · exact absurd rfl c_984
theorem w_989 {l : Launch} {w : cd_WT} {X : cd_XT} {k n b L m i c : Nat} {xs : Nat → Int32} {S : cd_Sp} {I : cd_Mem} (hO : cd_O w X code "CatDoorsLaw" 83 600000 7302250 l) (hml : X.2.2.2.2.2.2.2.2.2.1.maxLocals = 4) (hX : va_X b L xs X.2.2.2.2.1 w.2.1) (hb : b < w.1) (hL : L ≤ 3072) (hi : i + 6 ≤ L) (H : px_SM w m S I c) (hc : c ≤ 600) (hk : k + 3 ≤ 600000) (hn : n + 196 ≤ 7302250) (kk : ∀ k' n' S' I', k' ≤ k + 3 → n' ≤ n + 196 → px_SM w m S' I' (c + 1) → cd_J w X k' n' S' I' 1378 [some (.ref b), some (.ref w.1), some (.ref m), some (.int (nI i))] []) : cd_J w X k n S I 989 [some (.ref b), some (.ref w.1), some (.ref m), some (.int (nI i))] [] := by
  refine r_aload hO d_W_law_989 rfl ?_
  refine r_aload hO d_W_law_990 rfl ?_
  refine r_iload hO d_W_law_991 rfl ?_
  refine r_k hO d_W_law_992 ?_
  refine r_iaddN hO d_W_law_993 ?_
  refine r_scr hO hX hb hL (by omega) d_W_law_994 ?_
  refine r_aload hO d_W_law_995 rfl ?_
  refine r_iload hO d_W_law_996 rfl ?_
  refine r_k hO d_W_law_997 ?_
  refine r_iaddN hO d_W_law_998 ?_
  refine r_scr hO hX hb hL (by omega) d_W_law_999 ?_
  refine r_aload hO d_W_law_1000 rfl ?_
  refine r_iload hO d_W_law_1001 rfl ?_
  refine r_k hO d_W_law_1002 ?_
  refine r_iaddN hO d_W_law_1003 ?_
  refine r_scr hO hX hb hL (by omega) d_W_law_1004 ?_
  refine cd_callV (rest := []) (As := [.int (xs (i + 1)), .int (xs (i + 2)), .int (xs (i + 3))]) hO hml (s_mark H _ _ _) mf_C_mark lk_W_126 H.1.2.1.1 rfl (by decide) rfl rfl rfl (Nat.le_of_ble_eq_true rfl) d_W_law_1005 ⟨by omega, by omega⟩ ?_
  rintro r S1 I1 ⟨x, rfl, hs1, hC1⟩
  show cd_J w X _ _ S1 I1 1008 [some (.ref b), some (.ref w.1), some (.ref m), some (.int (nI i))] [.int x]
  refine r_aload hO d_W_law_1008 rfl ?_
  refine r_aload hO d_W_law_1009 rfl ?_
  refine r_iload hO d_W_law_1010 rfl ?_
  refine r_k hO d_W_law_1011 ?_
  refine r_iaddN hO d_W_law_1012 ?_
  refine r_scr hO hX hb hL (by omega) d_W_law_1013 ?_
  refine r_aload hO d_W_law_1014 rfl ?_
  refine r_iload hO d_W_law_1015 rfl ?_
  refine r_k hO d_W_law_1016 ?_
  refine r_iaddN hO d_W_law_1017 ?_
  refine r_scr hO hX hb hL (by omega) d_W_law_1018 ?_
  refine r_aload hO d_W_law_1019 rfl ?_
  refine r_iload hO d_W_law_1020 rfl ?_
  refine r_k hO d_W_law_1021 ?_
  refine r_iaddN hO d_W_law_1022 ?_
  refine r_scr hO hX hb hL (by omega) d_W_law_1023 ?_
  refine cd_callV (rest := [.int x]) (As := [.int (xs (i + 1)), .int (xs (i + 2)), .int (xs (i + 3))]) hO hml hC1 mf_M_mark lk_W_129 hs1 rfl (by decide) rfl rfl rfl (Nat.le_of_ble_eq_true rfl) d_W_law_1024 ⟨by omega, by omega⟩ ?_
  rintro r S2 I2 ⟨rfl, HS⟩
  show cd_J w X _ _ S2 I2 1027 [some (.ref b), some (.ref w.1), some (.ref m), some (.int (nI i))] [.int x, .int x]
  refine r_icmp_eq hO d_W_law_1027 (fun c_1027 => ?_) (fun c_1027 => ?_)
  · exact kk _ _ _ _ (by omega) (by omega) HS
  · exact absurd rfl c_1027
theorem w_1032 {l : Launch} {w : cd_WT} {X : cd_XT} {k n b L m i c : Nat} {xs : Nat → Int32} {S : cd_Sp} {I : cd_Mem} (hO : cd_O w X code "CatDoorsLaw" 83 600000 7302250 l) (hml : X.2.2.2.2.2.2.2.2.2.1.maxLocals = 4) (hX : va_X b L xs X.2.2.2.2.1 w.2.1) (hb : b < w.1) (hL : L ≤ 3072) (hi : i + 6 ≤ L) (H : px_SM w m S I c) (hc : c ≤ 600) (hk : k + 3 ≤ 600000) (hn : n + 196 ≤ 7302250) (kk : ∀ k' n' S' I', k' ≤ k + 3 → n' ≤ n + 196 → px_SM w m S' I' (c + 1) → cd_J w X k' n' S' I' 1378 [some (.ref b), some (.ref w.1), some (.ref m), some (.int (nI i))] []) : cd_J w X k n S I 1032 [some (.ref b), some (.ref w.1), some (.ref m), some (.int (nI i))] [] := by
  refine r_aload hO d_W_law_1032 rfl ?_
  refine r_aload hO d_W_law_1033 rfl ?_
  refine r_iload hO d_W_law_1034 rfl ?_
  refine r_k hO d_W_law_1035 ?_
  refine r_iaddN hO d_W_law_1036 ?_
  refine r_scr hO hX hb hL (by omega) d_W_law_1037 ?_
  refine cd_callV (rest := []) (As := [.int (xs (i + 1))]) hO hml (s_pour H _) mf_C_pour lk_W_130 H.1.2.1.1 rfl (by decide) rfl rfl rfl (Nat.le_of_ble_eq_true rfl) d_W_law_1038 ⟨by omega, by omega⟩ ?_
  rintro r S1 I1 ⟨x, rfl, hs1, hC1⟩
  show cd_J w X _ _ S1 I1 1041 [some (.ref b), some (.ref w.1), some (.ref m), some (.int (nI i))] [.int x]
  refine r_aload hO d_W_law_1041 rfl ?_
  refine r_aload hO d_W_law_1042 rfl ?_
  refine r_iload hO d_W_law_1043 rfl ?_
  refine r_k hO d_W_law_1044 ?_
  refine r_iaddN hO d_W_law_1045 ?_
  refine r_scr hO hX hb hL (by omega) d_W_law_1046 ?_
  refine cd_callV (rest := [.int x]) (As := [.int (xs (i + 1))]) hO hml hC1 mf_M_pour lk_W_133 hs1 rfl (by decide) rfl rfl rfl (Nat.le_of_ble_eq_true rfl) d_W_law_1047 ⟨by omega, by omega⟩ ?_
  rintro r S2 I2 ⟨rfl, HS⟩
  show cd_J w X _ _ S2 I2 1050 [some (.ref b), some (.ref w.1), some (.ref m), some (.int (nI i))] [.int x, .int x]
  refine r_icmp_eq hO d_W_law_1050 (fun c_1050 => ?_) (fun c_1050 => ?_)
  · exact kk _ _ _ _ (by omega) (by omega) HS
  · exact absurd rfl c_1050
theorem w_1055 {l : Launch} {w : cd_WT} {X : cd_XT} {k n b L m i c : Nat} {xs : Nat → Int32} {S : cd_Sp} {I : cd_Mem} (hO : cd_O w X code "CatDoorsLaw" 83 600000 7302250 l) (hml : X.2.2.2.2.2.2.2.2.2.1.maxLocals = 4) (hX : va_X b L xs X.2.2.2.2.1 w.2.1) (hb : b < w.1) (hL : L ≤ 3072) (hi : i + 6 ≤ L) (H : px_SM w m S I c) (hc : c ≤ 600) (hk : k + 3 ≤ 600000) (hn : n + 196 ≤ 7302250) (kk : ∀ k' n' S' I', k' ≤ k + 3 → n' ≤ n + 196 → px_SM w m S' I' (c + 1) → cd_J w X k' n' S' I' 1378 [some (.ref b), some (.ref w.1), some (.ref m), some (.int (nI i))] []) : cd_J w X k n S I 1055 [some (.ref b), some (.ref w.1), some (.ref m), some (.int (nI i))] [] := by
  refine r_aload hO d_W_law_1055 rfl ?_
  refine r_aload hO d_W_law_1056 rfl ?_
  refine r_iload hO d_W_law_1057 rfl ?_
  refine r_k hO d_W_law_1058 ?_
  refine r_iaddN hO d_W_law_1059 ?_
  refine r_scr hO hX hb hL (by omega) d_W_law_1060 ?_
  refine cd_callV (rest := []) (As := [.int (xs (i + 1))]) hO hml (s_reads H _) mf_C_reads lk_W_134 H.1.2.1.1 rfl (by decide) rfl rfl rfl (Nat.le_of_ble_eq_true rfl) d_W_law_1061 ⟨by omega, by omega⟩ ?_
  rintro r S1 I1 ⟨x, rfl, hs1, hC1⟩
  show cd_J w X _ _ S1 I1 1064 [some (.ref b), some (.ref w.1), some (.ref m), some (.int (nI i))] [.int x]
  refine r_aload hO d_W_law_1064 rfl ?_
  refine r_aload hO d_W_law_1065 rfl ?_
  refine r_iload hO d_W_law_1066 rfl ?_
  refine r_k hO d_W_law_1067 ?_
  refine r_iaddN hO d_W_law_1068 ?_
  refine r_scr hO hX hb hL (by omega) d_W_law_1069 ?_
  refine cd_callV (rest := [.int x]) (As := [.int (xs (i + 1))]) hO hml hC1 mf_M_reads lk_W_137 hs1 rfl (by decide) rfl rfl rfl (Nat.le_of_ble_eq_true rfl) d_W_law_1070 ⟨by omega, by omega⟩ ?_
  rintro r S2 I2 ⟨rfl, HS⟩
  show cd_J w X _ _ S2 I2 1073 [some (.ref b), some (.ref w.1), some (.ref m), some (.int (nI i))] [.int x, .int x]
  refine r_icmp_eq hO d_W_law_1073 (fun c_1073 => ?_) (fun c_1073 => ?_)
  · exact kk _ _ _ _ (by omega) (by omega) HS
  · exact absurd rfl c_1073
theorem w_1078 {l : Launch} {w : cd_WT} {X : cd_XT} {k n b L m i c : Nat} {xs : Nat → Int32} {S : cd_Sp} {I : cd_Mem} (hO : cd_O w X code "CatDoorsLaw" 83 600000 7302250 l) (hml : X.2.2.2.2.2.2.2.2.2.1.maxLocals = 4) (hX : va_X b L xs X.2.2.2.2.1 w.2.1) (hb : b < w.1) (hL : L ≤ 3072) (hi : i + 6 ≤ L) (H : px_SM w m S I c) (hc : c ≤ 600) (hk : k + 3 ≤ 600000) (hn : n + 196 ≤ 7302250) (kk : ∀ k' n' S' I', k' ≤ k + 3 → n' ≤ n + 196 → px_SM w m S' I' (c + 1) → cd_J w X k' n' S' I' 1378 [some (.ref b), some (.ref w.1), some (.ref m), some (.int (nI i))] []) : cd_J w X k n S I 1078 [some (.ref b), some (.ref w.1), some (.ref m), some (.int (nI i))] [] := by
  refine r_aload hO d_W_law_1078 rfl ?_
  refine r_aload hO d_W_law_1079 rfl ?_
  refine r_iload hO d_W_law_1080 rfl ?_
  refine r_k hO d_W_law_1081 ?_
  refine r_iaddN hO d_W_law_1082 ?_
  refine r_scr hO hX hb hL (by omega) d_W_law_1083 ?_
  refine r_aload hO d_W_law_1084 rfl ?_
  refine r_iload hO d_W_law_1085 rfl ?_
  refine r_k hO d_W_law_1086 ?_
  refine r_iaddN hO d_W_law_1087 ?_
  refine r_scr hO hX hb hL (by omega) d_W_law_1088 ?_
  refine r_aload hO d_W_law_1089 rfl ?_
  refine r_iload hO d_W_law_1090 rfl ?_
  refine r_k hO d_W_law_1091 ?_
  refine r_iaddN hO d_W_law_1092 ?_
  refine r_scr hO hX hb hL (by omega) d_W_law_1093 ?_
  refine r_aload hO d_W_law_1094 rfl ?_
  refine r_iload hO d_W_law_1095 rfl ?_
  refine r_k hO d_W_law_1096 ?_
  refine r_iaddN hO d_W_law_1097 ?_
  refine r_scr hO hX hb hL (by omega) d_W_law_1098 ?_
  refine r_aload hO d_W_law_1099 rfl ?_
  refine r_iload hO d_W_law_1100 rfl ?_
  refine r_k hO d_W_law_1101 ?_
  refine r_iaddN hO d_W_law_1102 ?_
  refine r_scr hO hX hb hL (by omega) d_W_law_1103 ?_
  refine cd_callV (rest := []) (As := [.int (xs (i + 1)), .int (xs (i + 2)), .int (xs (i + 3)), .int (xs (i + 4)), .int (xs (i + 5))]) hO hml (s_copy H _ _ _ _ _) mf_C_copy lk_W_138 H.1.2.1.1 rfl (by decide) rfl rfl rfl (Nat.le_of_ble_eq_true rfl) d_W_law_1104 ⟨by omega, by omega⟩ ?_
  rintro r S1 I1 ⟨x, rfl, hs1, hC1⟩
  show cd_J w X _ _ S1 I1 1107 [some (.ref b), some (.ref w.1), some (.ref m), some (.int (nI i))] [.int x]
  refine r_aload hO d_W_law_1107 rfl ?_
  refine r_aload hO d_W_law_1108 rfl ?_
  refine r_iload hO d_W_law_1109 rfl ?_
  refine r_k hO d_W_law_1110 ?_
  refine r_iaddN hO d_W_law_1111 ?_
  refine r_scr hO hX hb hL (by omega) d_W_law_1112 ?_
  refine r_aload hO d_W_law_1113 rfl ?_
  refine r_iload hO d_W_law_1114 rfl ?_
  refine r_k hO d_W_law_1115 ?_
  refine r_iaddN hO d_W_law_1116 ?_
  refine r_scr hO hX hb hL (by omega) d_W_law_1117 ?_
  refine r_aload hO d_W_law_1118 rfl ?_
  refine r_iload hO d_W_law_1119 rfl ?_
  refine r_k hO d_W_law_1120 ?_
  refine r_iaddN hO d_W_law_1121 ?_
  refine r_scr hO hX hb hL (by omega) d_W_law_1122 ?_
  refine r_aload hO d_W_law_1123 rfl ?_
  refine r_iload hO d_W_law_1124 rfl ?_
  refine r_k hO d_W_law_1125 ?_
  refine r_iaddN hO d_W_law_1126 ?_
  refine r_scr hO hX hb hL (by omega) d_W_law_1127 ?_
  refine r_aload hO d_W_law_1128 rfl ?_
  refine r_iload hO d_W_law_1129 rfl ?_
  refine r_k hO d_W_law_1130 ?_
  refine r_iaddN hO d_W_law_1131 ?_
  refine r_scr hO hX hb hL (by omega) d_W_law_1132 ?_
  refine cd_callV (rest := [.int x]) (As := [.int (xs (i + 1)), .int (xs (i + 2)), .int (xs (i + 3)), .int (xs (i + 4)), .int (xs (i + 5))]) hO hml hC1 mf_M_copy lk_W_142 hs1 rfl (by decide) rfl rfl rfl (Nat.le_of_ble_eq_true rfl) d_W_law_1133 ⟨by omega, by omega⟩ ?_
  rintro r S2 I2 ⟨rfl, HS⟩
  show cd_J w X _ _ S2 I2 1136 [some (.ref b), some (.ref w.1), some (.ref m), some (.int (nI i))] [.int x, .int x]
  refine r_icmp_eq hO d_W_law_1136 (fun c_1136 => ?_) (fun c_1136 => ?_)
  · exact kk _ _ _ _ (by omega) (by omega) HS
  · exact absurd rfl c_1136
theorem w_1141 {l : Launch} {w : cd_WT} {X : cd_XT} {k n b L m i c : Nat} {xs : Nat → Int32} {S : cd_Sp} {I : cd_Mem} (hO : cd_O w X code "CatDoorsLaw" 83 600000 7302250 l) (hml : X.2.2.2.2.2.2.2.2.2.1.maxLocals = 4) (hX : va_X b L xs X.2.2.2.2.1 w.2.1) (hb : b < w.1) (hL : L ≤ 3072) (hi : i + 6 ≤ L) (H : px_SM w m S I c) (hc : c ≤ 600) (hk : k + 3 ≤ 600000) (hn : n + 196 ≤ 7302250) (kk : ∀ k' n' S' I', k' ≤ k + 3 → n' ≤ n + 196 → px_SM w m S' I' (c + 1) → cd_J w X k' n' S' I' 1378 [some (.ref b), some (.ref w.1), some (.ref m), some (.int (nI i))] []) : cd_J w X k n S I 1141 [some (.ref b), some (.ref w.1), some (.ref m), some (.int (nI i))] [] := by
  refine r_aload hO d_W_law_1141 rfl ?_
  refine r_aload hO d_W_law_1142 rfl ?_
  refine r_iload hO d_W_law_1143 rfl ?_
  refine r_k hO d_W_law_1144 ?_
  refine r_iaddN hO d_W_law_1145 ?_
  refine r_scr hO hX hb hL (by omega) d_W_law_1146 ?_
  refine r_aload hO d_W_law_1147 rfl ?_
  refine r_iload hO d_W_law_1148 rfl ?_
  refine r_k hO d_W_law_1149 ?_
  refine r_iaddN hO d_W_law_1150 ?_
  refine r_scr hO hX hb hL (by omega) d_W_law_1151 ?_
  refine r_aload hO d_W_law_1152 rfl ?_
  refine r_iload hO d_W_law_1153 rfl ?_
  refine r_k hO d_W_law_1154 ?_
  refine r_iaddN hO d_W_law_1155 ?_
  refine r_scr hO hX hb hL (by omega) d_W_law_1156 ?_
  refine cd_callV (rest := []) (As := [.int (xs (i + 1)), .int (xs (i + 2)), .int (xs (i + 3))]) hO hml (s_lay H _ _ _) mf_C_lay lk_W_143 H.1.2.1.1 rfl (by decide) rfl rfl rfl (Nat.le_of_ble_eq_true rfl) d_W_law_1157 ⟨by omega, by omega⟩ ?_
  rintro r S1 I1 ⟨x, rfl, hs1, hC1⟩
  show cd_J w X _ _ S1 I1 1160 [some (.ref b), some (.ref w.1), some (.ref m), some (.int (nI i))] [.int x]
  refine r_aload hO d_W_law_1160 rfl ?_
  refine r_aload hO d_W_law_1161 rfl ?_
  refine r_iload hO d_W_law_1162 rfl ?_
  refine r_k hO d_W_law_1163 ?_
  refine r_iaddN hO d_W_law_1164 ?_
  refine r_scr hO hX hb hL (by omega) d_W_law_1165 ?_
  refine r_aload hO d_W_law_1166 rfl ?_
  refine r_iload hO d_W_law_1167 rfl ?_
  refine r_k hO d_W_law_1168 ?_
  refine r_iaddN hO d_W_law_1169 ?_
  refine r_scr hO hX hb hL (by omega) d_W_law_1170 ?_
  refine r_aload hO d_W_law_1171 rfl ?_
  refine r_iload hO d_W_law_1172 rfl ?_
  refine r_k hO d_W_law_1173 ?_
  refine r_iaddN hO d_W_law_1174 ?_
  refine r_scr hO hX hb hL (by omega) d_W_law_1175 ?_
  refine cd_callV (rest := [.int x]) (As := [.int (xs (i + 1)), .int (xs (i + 2)), .int (xs (i + 3))]) hO hml hC1 mf_M_lay lk_W_146 hs1 rfl (by decide) rfl rfl rfl (Nat.le_of_ble_eq_true rfl) d_W_law_1176 ⟨by omega, by omega⟩ ?_
  rintro r S2 I2 ⟨rfl, HS⟩
  show cd_J w X _ _ S2 I2 1179 [some (.ref b), some (.ref w.1), some (.ref m), some (.int (nI i))] [.int x, .int x]
  refine r_icmp_eq hO d_W_law_1179 (fun c_1179 => ?_) (fun c_1179 => ?_)
  · exact kk _ _ _ _ (by omega) (by omega) HS
  · exact absurd rfl c_1179
theorem w_1184 {l : Launch} {w : cd_WT} {X : cd_XT} {k n b L m i c : Nat} {xs : Nat → Int32} {S : cd_Sp} {I : cd_Mem} (hO : cd_O w X code "CatDoorsLaw" 83 600000 7302250 l) (hml : X.2.2.2.2.2.2.2.2.2.1.maxLocals = 4) (hX : va_X b L xs X.2.2.2.2.1 w.2.1) (hb : b < w.1) (hL : L ≤ 3072) (hi : i + 6 ≤ L) (H : px_SM w m S I c) (hc : c ≤ 600) (hk : k + 3 ≤ 600000) (hn : n + 196 ≤ 7302250) (kk : ∀ k' n' S' I', k' ≤ k + 3 → n' ≤ n + 196 → px_SM w m S' I' (c + 1) → cd_J w X k' n' S' I' 1378 [some (.ref b), some (.ref w.1), some (.ref m), some (.int (nI i))] []) : cd_J w X k n S I 1184 [some (.ref b), some (.ref w.1), some (.ref m), some (.int (nI i))] [] := by
  refine r_aload hO d_W_law_1184 rfl ?_
  refine r_aload hO d_W_law_1185 rfl ?_
  refine r_iload hO d_W_law_1186 rfl ?_
  refine r_k hO d_W_law_1187 ?_
  refine r_iaddN hO d_W_law_1188 ?_
  refine r_scr hO hX hb hL (by omega) d_W_law_1189 ?_
  refine r_aload hO d_W_law_1190 rfl ?_
  refine r_iload hO d_W_law_1191 rfl ?_
  refine r_k hO d_W_law_1192 ?_
  refine r_iaddN hO d_W_law_1193 ?_
  refine r_scr hO hX hb hL (by omega) d_W_law_1194 ?_
  refine cd_callV (rest := []) (As := [.int (xs (i + 1)), .int (xs (i + 2))]) hO hml (s_ask H _ _) mf_C_ask lk_W_147 H.1.2.1.1 rfl (by decide) rfl rfl rfl (Nat.le_of_ble_eq_true rfl) d_W_law_1195 ⟨by omega, by omega⟩ ?_
  rintro r S1 I1 ⟨x, rfl, hs1, hC1⟩
  show cd_J w X _ _ S1 I1 1198 [some (.ref b), some (.ref w.1), some (.ref m), some (.int (nI i))] [.int x]
  refine r_aload hO d_W_law_1198 rfl ?_
  refine r_aload hO d_W_law_1199 rfl ?_
  refine r_iload hO d_W_law_1200 rfl ?_
  refine r_k hO d_W_law_1201 ?_
  refine r_iaddN hO d_W_law_1202 ?_
  refine r_scr hO hX hb hL (by omega) d_W_law_1203 ?_
  refine r_aload hO d_W_law_1204 rfl ?_
  refine r_iload hO d_W_law_1205 rfl ?_
  refine r_k hO d_W_law_1206 ?_
  refine r_iaddN hO d_W_law_1207 ?_
  refine r_scr hO hX hb hL (by omega) d_W_law_1208 ?_
  refine cd_callV (rest := [.int x]) (As := [.int (xs (i + 1)), .int (xs (i + 2))]) hO hml hC1 mf_M_ask lk_W_150 hs1 rfl (by decide) rfl rfl rfl (Nat.le_of_ble_eq_true rfl) d_W_law_1209 ⟨by omega, by omega⟩ ?_
  rintro r S2 I2 ⟨rfl, HS⟩
  show cd_J w X _ _ S2 I2 1212 [some (.ref b), some (.ref w.1), some (.ref m), some (.int (nI i))] [.int x, .int x]
  refine r_icmp_eq hO d_W_law_1212 (fun c_1212 => ?_) (fun c_1212 => ?_)
  · exact kk _ _ _ _ (by omega) (by omega) HS
  · exact absurd rfl c_1212
theorem w_1217 {l : Launch} {w : cd_WT} {X : cd_XT} {k n b L m i c : Nat} {xs : Nat → Int32} {S : cd_Sp} {I : cd_Mem} (hO : cd_O w X code "CatDoorsLaw" 83 600000 7302250 l) (hml : X.2.2.2.2.2.2.2.2.2.1.maxLocals = 4) (hX : va_X b L xs X.2.2.2.2.1 w.2.1) (hb : b < w.1) (hL : L ≤ 3072) (hi : i + 6 ≤ L) (H : px_SM w m S I c) (hc : c ≤ 600) (hk : k + 3 ≤ 600000) (hn : n + 196 ≤ 7302250) (kk : ∀ k' n' S' I', k' ≤ k + 3 → n' ≤ n + 196 → px_SM w m S' I' (c + 1) → cd_J w X k' n' S' I' 1378 [some (.ref b), some (.ref w.1), some (.ref m), some (.int (nI i))] []) : cd_J w X k n S I 1217 [some (.ref b), some (.ref w.1), some (.ref m), some (.int (nI i))] [] := by
  refine r_aload hO d_W_law_1217 rfl ?_
  refine r_aload hO d_W_law_1218 rfl ?_
  refine r_iload hO d_W_law_1219 rfl ?_
  refine r_k hO d_W_law_1220 ?_
  refine r_iaddN hO d_W_law_1221 ?_
  refine r_scr hO hX hb hL (by omega) d_W_law_1222 ?_
  refine r_aload hO d_W_law_1223 rfl ?_
  refine r_iload hO d_W_law_1224 rfl ?_
  refine r_k hO d_W_law_1225 ?_
  refine r_iaddN hO d_W_law_1226 ?_
  refine r_scr hO hX hb hL (by omega) d_W_law_1227 ?_
  refine cd_callV (rest := []) (As := [.int (xs (i + 1)), .int (xs (i + 2))]) hO hml (s_item H _ _) mf_C_item lk_W_151 H.1.2.1.1 rfl (by decide) rfl rfl rfl (Nat.le_of_ble_eq_true rfl) d_W_law_1228 ⟨by omega, by omega⟩ ?_
  rintro r S1 I1 ⟨x, rfl, hs1, hC1⟩
  show cd_J w X _ _ S1 I1 1231 [some (.ref b), some (.ref w.1), some (.ref m), some (.int (nI i))] [.int x]
  refine r_aload hO d_W_law_1231 rfl ?_
  refine r_aload hO d_W_law_1232 rfl ?_
  refine r_iload hO d_W_law_1233 rfl ?_
  refine r_k hO d_W_law_1234 ?_
  refine r_iaddN hO d_W_law_1235 ?_
  refine r_scr hO hX hb hL (by omega) d_W_law_1236 ?_
  refine r_aload hO d_W_law_1237 rfl ?_
  refine r_iload hO d_W_law_1238 rfl ?_
  refine r_k hO d_W_law_1239 ?_
  refine r_iaddN hO d_W_law_1240 ?_
  refine r_scr hO hX hb hL (by omega) d_W_law_1241 ?_
  refine cd_callV (rest := [.int x]) (As := [.int (xs (i + 1)), .int (xs (i + 2))]) hO hml hC1 mf_M_item lk_W_154 hs1 rfl (by decide) rfl rfl rfl (Nat.le_of_ble_eq_true rfl) d_W_law_1242 ⟨by omega, by omega⟩ ?_
  rintro r S2 I2 ⟨rfl, HS⟩
  show cd_J w X _ _ S2 I2 1245 [some (.ref b), some (.ref w.1), some (.ref m), some (.int (nI i))] [.int x, .int x]
  refine r_icmp_eq hO d_W_law_1245 (fun c_1245 => ?_) (fun c_1245 => ?_)
  · exact kk _ _ _ _ (by omega) (by omega) HS
  · exact absurd rfl c_1245
theorem w_1250 {l : Launch} {w : cd_WT} {X : cd_XT} {k n b L m i c : Nat} {xs : Nat → Int32} {S : cd_Sp} {I : cd_Mem} (hO : cd_O w X code "CatDoorsLaw" 83 600000 7302250 l) (hml : X.2.2.2.2.2.2.2.2.2.1.maxLocals = 4) (hX : va_X b L xs X.2.2.2.2.1 w.2.1) (hb : b < w.1) (hL : L ≤ 3072) (hi : i + 6 ≤ L) (H : px_SM w m S I c) (hc : c ≤ 600) (hk : k + 3 ≤ 600000) (hn : n + 196 ≤ 7302250) (kk : ∀ k' n' S' I', k' ≤ k + 3 → n' ≤ n + 196 → px_SM w m S' I' (c + 1) → cd_J w X k' n' S' I' 1378 [some (.ref b), some (.ref w.1), some (.ref m), some (.int (nI i))] []) : cd_J w X k n S I 1250 [some (.ref b), some (.ref w.1), some (.ref m), some (.int (nI i))] [] := by
  refine r_aload hO d_W_law_1250 rfl ?_
  refine r_aload hO d_W_law_1251 rfl ?_
  refine r_iload hO d_W_law_1252 rfl ?_
  refine r_k hO d_W_law_1253 ?_
  refine r_iaddN hO d_W_law_1254 ?_
  refine r_scr hO hX hb hL (by omega) d_W_law_1255 ?_
  refine r_aload hO d_W_law_1256 rfl ?_
  refine r_iload hO d_W_law_1257 rfl ?_
  refine r_k hO d_W_law_1258 ?_
  refine r_iaddN hO d_W_law_1259 ?_
  refine r_scr hO hX hb hL (by omega) d_W_law_1260 ?_
  refine cd_callV (rest := []) (As := [.int (xs (i + 1)), .int (xs (i + 2))]) hO hml (s_rest H _ _) mf_C_rest lk_W_155 H.1.2.1.1 rfl (by decide) rfl rfl rfl (Nat.le_of_ble_eq_true rfl) d_W_law_1261 ⟨by omega, by omega⟩ ?_
  rintro r S1 I1 ⟨x, rfl, hs1, hC1⟩
  show cd_J w X _ _ S1 I1 1264 [some (.ref b), some (.ref w.1), some (.ref m), some (.int (nI i))] [.int x]
  refine r_aload hO d_W_law_1264 rfl ?_
  refine r_aload hO d_W_law_1265 rfl ?_
  refine r_iload hO d_W_law_1266 rfl ?_
  refine r_k hO d_W_law_1267 ?_
  refine r_iaddN hO d_W_law_1268 ?_
  refine r_scr hO hX hb hL (by omega) d_W_law_1269 ?_
  refine r_aload hO d_W_law_1270 rfl ?_
  refine r_iload hO d_W_law_1271 rfl ?_
  refine r_k hO d_W_law_1272 ?_
  refine r_iaddN hO d_W_law_1273 ?_
  refine r_scr hO hX hb hL (by omega) d_W_law_1274 ?_
  refine cd_callV (rest := [.int x]) (As := [.int (xs (i + 1)), .int (xs (i + 2))]) hO hml hC1 mf_M_rest lk_W_158 hs1 rfl (by decide) rfl rfl rfl (Nat.le_of_ble_eq_true rfl) d_W_law_1275 ⟨by omega, by omega⟩ ?_
  rintro r S2 I2 ⟨rfl, HS⟩
  show cd_J w X _ _ S2 I2 1278 [some (.ref b), some (.ref w.1), some (.ref m), some (.int (nI i))] [.int x, .int x]
  refine r_icmp_eq hO d_W_law_1278 (fun c_1278 => ?_) (fun c_1278 => ?_)
  · exact kk _ _ _ _ (by omega) (by omega) HS
  · exact absurd rfl c_1278
theorem w_1283 {l : Launch} {w : cd_WT} {X : cd_XT} {k n b L m i c : Nat} {xs : Nat → Int32} {S : cd_Sp} {I : cd_Mem} (hO : cd_O w X code "CatDoorsLaw" 83 600000 7302250 l) (hml : X.2.2.2.2.2.2.2.2.2.1.maxLocals = 4) (hX : va_X b L xs X.2.2.2.2.1 w.2.1) (hb : b < w.1) (hL : L ≤ 3072) (hi : i + 6 ≤ L) (H : px_SM w m S I c) (hc : c ≤ 600) (hk : k + 3 ≤ 600000) (hn : n + 196 ≤ 7302250) (kk : ∀ k' n' S' I', k' ≤ k + 3 → n' ≤ n + 196 → px_SM w m S' I' (c + 1) → cd_J w X k' n' S' I' 1378 [some (.ref b), some (.ref w.1), some (.ref m), some (.int (nI i))] []) : cd_J w X k n S I 1283 [some (.ref b), some (.ref w.1), some (.ref m), some (.int (nI i))] [] := by
  refine r_aload hO d_W_law_1283 rfl ?_
  refine r_aload hO d_W_law_1284 rfl ?_
  refine r_iload hO d_W_law_1285 rfl ?_
  refine r_k hO d_W_law_1286 ?_
  refine r_iaddN hO d_W_law_1287 ?_
  refine r_scr hO hX hb hL (by omega) d_W_law_1288 ?_
  refine cd_callV (rest := []) (As := [.int (xs (i + 1))]) hO hml (s_tell H _) mf_C_tell lk_W_159 H.1.2.1.1 rfl (by decide) rfl rfl rfl (Nat.le_of_ble_eq_true rfl) d_W_law_1289 ⟨by omega, by omega⟩ ?_
  rintro r S1 I1 ⟨x, rfl, hs1, hC1⟩
  show cd_J w X _ _ S1 I1 1292 [some (.ref b), some (.ref w.1), some (.ref m), some (.int (nI i))] [.int x]
  refine r_aload hO d_W_law_1292 rfl ?_
  refine r_aload hO d_W_law_1293 rfl ?_
  refine r_iload hO d_W_law_1294 rfl ?_
  refine r_k hO d_W_law_1295 ?_
  refine r_iaddN hO d_W_law_1296 ?_
  refine r_scr hO hX hb hL (by omega) d_W_law_1297 ?_
  refine cd_callV (rest := [.int x]) (As := [.int (xs (i + 1))]) hO hml hC1 mf_M_tell lk_W_162 hs1 rfl (by decide) rfl rfl rfl (Nat.le_of_ble_eq_true rfl) d_W_law_1298 ⟨by omega, by omega⟩ ?_
  rintro r S2 I2 ⟨rfl, HS⟩
  show cd_J w X _ _ S2 I2 1301 [some (.ref b), some (.ref w.1), some (.ref m), some (.int (nI i))] [.int x, .int x]
  refine r_icmp_eq hO d_W_law_1301 (fun c_1301 => ?_) (fun c_1301 => ?_)
  · exact kk _ _ _ _ (by omega) (by omega) HS
  · exact absurd rfl c_1301
theorem w_1306 {l : Launch} {w : cd_WT} {X : cd_XT} {k n b L m i c : Nat} {xs : Nat → Int32} {S : cd_Sp} {I : cd_Mem} (hO : cd_O w X code "CatDoorsLaw" 83 600000 7302250 l) (hml : X.2.2.2.2.2.2.2.2.2.1.maxLocals = 4) (hX : va_X b L xs X.2.2.2.2.1 w.2.1) (hb : b < w.1) (hL : L ≤ 3072) (hi : i + 6 ≤ L) (H : px_SM w m S I c) (hc : c ≤ 600) (hk : k + 3 ≤ 600000) (hn : n + 196 ≤ 7302250) (kk : ∀ k' n' S' I', k' ≤ k + 3 → n' ≤ n + 196 → px_SM w m S' I' (c + 1) → cd_J w X k' n' S' I' 1378 [some (.ref b), some (.ref w.1), some (.ref m), some (.int (nI i))] []) : cd_J w X k n S I 1306 [some (.ref b), some (.ref w.1), some (.ref m), some (.int (nI i))] [] := by
  refine r_aload hO d_W_law_1306 rfl ?_
  refine r_aload hO d_W_law_1307 rfl ?_
  refine r_iload hO d_W_law_1308 rfl ?_
  refine r_k hO d_W_law_1309 ?_
  refine r_iaddN hO d_W_law_1310 ?_
  refine r_scr hO hX hb hL (by omega) d_W_law_1311 ?_
  refine cd_callV (rest := []) (As := [.int (xs (i + 1))]) hO hml (s_check H _) mf_C_check lk_W_163 H.1.2.1.1 rfl (by decide) rfl rfl rfl (Nat.le_of_ble_eq_true rfl) d_W_law_1312 ⟨by omega, by omega⟩ ?_
  rintro r S1 I1 ⟨x, rfl, hs1, hC1⟩
  show cd_J w X _ _ S1 I1 1315 [some (.ref b), some (.ref w.1), some (.ref m), some (.int (nI i))] [.int x]
  refine r_aload hO d_W_law_1315 rfl ?_
  refine r_aload hO d_W_law_1316 rfl ?_
  refine r_iload hO d_W_law_1317 rfl ?_
  refine r_k hO d_W_law_1318 ?_
  refine r_iaddN hO d_W_law_1319 ?_
  refine r_scr hO hX hb hL (by omega) d_W_law_1320 ?_
  refine cd_callV (rest := [.int x]) (As := [.int (xs (i + 1))]) hO hml hC1 mf_M_check lk_W_166 hs1 rfl (by decide) rfl rfl rfl (Nat.le_of_ble_eq_true rfl) d_W_law_1321 ⟨by omega, by omega⟩ ?_
  rintro r S2 I2 ⟨rfl, HS⟩
  show cd_J w X _ _ S2 I2 1324 [some (.ref b), some (.ref w.1), some (.ref m), some (.int (nI i))] [.int x, .int x]
  refine r_icmp_eq hO d_W_law_1324 (fun c_1324 => ?_) (fun c_1324 => ?_)
  · exact kk _ _ _ _ (by omega) (by omega) HS
  · exact absurd rfl c_1324
theorem w_1329 {l : Launch} {w : cd_WT} {X : cd_XT} {k n b L m i c : Nat} {xs : Nat → Int32} {S : cd_Sp} {I : cd_Mem} (hO : cd_O w X code "CatDoorsLaw" 83 600000 7302250 l) (hml : X.2.2.2.2.2.2.2.2.2.1.maxLocals = 4) (hX : va_X b L xs X.2.2.2.2.1 w.2.1) (hb : b < w.1) (hL : L ≤ 3072) (hi : i + 6 ≤ L) (H : px_SM w m S I c) (hc : c ≤ 600) (hk : k + 3 ≤ 600000) (hn : n + 196 ≤ 7302250) (kk : ∀ k' n' S' I', k' ≤ k + 3 → n' ≤ n + 196 → px_SM w m S' I' (c + 1) → cd_J w X k' n' S' I' 1378 [some (.ref b), some (.ref w.1), some (.ref m), some (.int (nI i))] []) : cd_J w X k n S I 1329 [some (.ref b), some (.ref w.1), some (.ref m), some (.int (nI i))] [] := by
  refine r_aload hO d_W_law_1329 rfl ?_
  refine cd_callV (rest := []) (As := []) hO hml (s_keep H ) mf_C_keep lk_W_167 H.1.2.1.1 rfl (by decide) rfl rfl rfl (Nat.le_of_ble_eq_true rfl) d_W_law_1330 ⟨by omega, by omega⟩ ?_
  rintro r S1 I1 ⟨x, rfl, hs1, hC1⟩
  show cd_J w X _ _ S1 I1 1333 [some (.ref b), some (.ref w.1), some (.ref m), some (.int (nI i))] [.int x]
  refine r_aload hO d_W_law_1333 rfl ?_
  refine cd_callV (rest := [.int x]) (As := []) hO hml hC1 mf_M_keep lk_W_170 hs1 rfl (by decide) rfl rfl rfl (Nat.le_of_ble_eq_true rfl) d_W_law_1334 ⟨by omega, by omega⟩ ?_
  rintro r S2 I2 ⟨rfl, HS⟩
  show cd_J w X _ _ S2 I2 1337 [some (.ref b), some (.ref w.1), some (.ref m), some (.int (nI i))] [.int x, .int x]
  refine r_icmp_eq hO d_W_law_1337 (fun c_1337 => ?_) (fun c_1337 => ?_)
  · exact kk _ _ _ _ (by omega) (by omega) HS
  · exact absurd rfl c_1337
theorem w_1342 {l : Launch} {w : cd_WT} {X : cd_XT} {k n b L m i c : Nat} {xs : Nat → Int32} {S : cd_Sp} {I : cd_Mem} (hO : cd_O w X code "CatDoorsLaw" 83 600000 7302250 l) (hml : X.2.2.2.2.2.2.2.2.2.1.maxLocals = 4) (hX : va_X b L xs X.2.2.2.2.1 w.2.1) (hb : b < w.1) (hL : L ≤ 3072) (hi : i + 6 ≤ L) (H : px_SM w m S I c) (hc : c ≤ 600) (hk : k + 3 ≤ 600000) (hn : n + 196 ≤ 7302250) (kk : ∀ k' n' S' I', k' ≤ k + 3 → n' ≤ n + 196 → px_SM w m S' I' (c + 1) → cd_J w X k' n' S' I' 1378 [some (.ref b), some (.ref w.1), some (.ref m), some (.int (nI i))] []) : cd_J w X k n S I 1342 [some (.ref b), some (.ref w.1), some (.ref m), some (.int (nI i))] [] := by
  refine r_aload hO d_W_law_1342 rfl ?_
  refine cd_callV (rest := []) (As := []) hO hml (s_back H ) mf_C_back lk_W_171 H.1.2.1.1 rfl (by decide) rfl rfl rfl (Nat.le_of_ble_eq_true rfl) d_W_law_1343 ⟨by omega, by omega⟩ ?_
  rintro r S1 I1 ⟨x, rfl, hs1, hC1⟩
  show cd_J w X _ _ S1 I1 1346 [some (.ref b), some (.ref w.1), some (.ref m), some (.int (nI i))] [.int x]
  refine r_aload hO d_W_law_1346 rfl ?_
  refine cd_callV (rest := [.int x]) (As := []) hO hml hC1 mf_M_back lk_W_174 hs1 rfl (by decide) rfl rfl rfl (Nat.le_of_ble_eq_true rfl) d_W_law_1347 ⟨by omega, by omega⟩ ?_
  rintro r S2 I2 ⟨rfl, HS⟩
  show cd_J w X _ _ S2 I2 1350 [some (.ref b), some (.ref w.1), some (.ref m), some (.int (nI i))] [.int x, .int x]
  refine r_icmp_eq hO d_W_law_1350 (fun c_1350 => ?_) (fun c_1350 => ?_)
  · exact kk _ _ _ _ (by omega) (by omega) HS
  · exact absurd rfl c_1350
theorem w_1355 {l : Launch} {w : cd_WT} {X : cd_XT} {k n b L m i c : Nat} {xs : Nat → Int32} {S : cd_Sp} {I : cd_Mem} (hO : cd_O w X code "CatDoorsLaw" 83 600000 7302250 l) (hml : X.2.2.2.2.2.2.2.2.2.1.maxLocals = 4) (hX : va_X b L xs X.2.2.2.2.1 w.2.1) (hb : b < w.1) (hL : L ≤ 3072) (hi : i + 6 ≤ L) (H : px_SM w m S I c) (hc : c ≤ 600) (hk : k + 3 ≤ 600000) (hn : n + 196 ≤ 7302250) (kk : ∀ k' n' S' I', k' ≤ k + 3 → n' ≤ n + 196 → px_SM w m S' I' (c + 1) → cd_J w X k' n' S' I' 1378 [some (.ref b), some (.ref w.1), some (.ref m), some (.int (nI i))] []) : cd_J w X k n S I 1355 [some (.ref b), some (.ref w.1), some (.ref m), some (.int (nI i))] [] := by
  refine r_aload hO d_W_law_1355 rfl ?_
  refine r_aload hO d_W_law_1356 rfl ?_
  refine r_iload hO d_W_law_1357 rfl ?_
  refine r_k hO d_W_law_1358 ?_
  refine r_iaddN hO d_W_law_1359 ?_
  refine r_scr hO hX hb hL (by omega) d_W_law_1360 ?_
  refine cd_callV (rest := []) (As := [.int (xs (i + 1))]) hO hml (s_count H _) mf_C_count lk_W_175 H.1.2.1.1 rfl (by decide) rfl rfl rfl (Nat.le_of_ble_eq_true rfl) d_W_law_1361 ⟨by omega, by omega⟩ ?_
  rintro r S1 I1 ⟨x, rfl, hs1, hC1⟩
  show cd_J w X _ _ S1 I1 1364 [some (.ref b), some (.ref w.1), some (.ref m), some (.int (nI i))] [.int x]
  refine r_aload hO d_W_law_1364 rfl ?_
  refine r_aload hO d_W_law_1365 rfl ?_
  refine r_iload hO d_W_law_1366 rfl ?_
  refine r_k hO d_W_law_1367 ?_
  refine r_iaddN hO d_W_law_1368 ?_
  refine r_scr hO hX hb hL (by omega) d_W_law_1369 ?_
  refine cd_callV (rest := [.int x]) (As := [.int (xs (i + 1))]) hO hml hC1 mf_M_count lk_W_178 hs1 rfl (by decide) rfl rfl rfl (Nat.le_of_ble_eq_true rfl) d_W_law_1370 ⟨by omega, by omega⟩ ?_
  rintro r S2 I2 ⟨rfl, HS⟩
  show cd_J w X _ _ S2 I2 1373 [some (.ref b), some (.ref w.1), some (.ref m), some (.int (nI i))] [.int x, .int x]
  refine r_icmp_eq hO d_W_law_1373 (fun c_1373 => ?_) (fun c_1373 => ?_)
  · exact kk _ _ _ _ (by omega) (by omega) HS
  · exact absurd rfl c_1373
