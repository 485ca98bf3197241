section
theorem xmks_240 : ∀ (k : Nat) (M : ix_M), 240 ≤ k → k < 260 → xT_M k = some M → xmkP M := by
  intro k M h1 h2 h
  obtain ⟨j, rfl⟩ : ∃ j, k = 240 + j := ⟨k - 240, by omega⟩
  rcases (show j = 0 ∨ j = 1 ∨ j = 2 ∨ j = 3 ∨ j = 4 ∨ j = 5 ∨ j = 6 ∨ j = 7 ∨ j = 8 ∨ j = 9 ∨ j = 10 ∨ j = 11 ∨ j = 12 ∨ j = 13 ∨ j = 14 ∨ j = 15 ∨ j = 16 ∨ j = 17 ∨ j = 18 ∨ j = 19 by omega) with rfl | rfl | rfl | rfl | rfl | rfl | rfl | rfl | rfl | rfl | rfl | rfl | rfl | rfl | rfl | rfl | rfl | rfl | rfl | rfl
  · have e : M = xm_240 := (Option.some.inj (h.symm.trans (show xT_M (240 + 0) = some xm_240 from rfl)))
    rw [e]; exact xmk_240
  · have e : M = xm_241 := (Option.some.inj (h.symm.trans (show xT_M (240 + 1) = some xm_241 from rfl)))
    rw [e]; exact xmk_241
  · have e : M = xm_242 := (Option.some.inj (h.symm.trans (show xT_M (240 + 2) = some xm_242 from rfl)))
    rw [e]; exact xmk_242
  · have e : M = xm_243 := (Option.some.inj (h.symm.trans (show xT_M (240 + 3) = some xm_243 from rfl)))
    rw [e]; exact xmk_243
  · have e : M = xm_244 := (Option.some.inj (h.symm.trans (show xT_M (240 + 4) = some xm_244 from rfl)))
    rw [e]; exact xmk_244
  · have e : M = xm_245 := (Option.some.inj (h.symm.trans (show xT_M (240 + 5) = some xm_245 from rfl)))
    rw [e]; exact xmk_245
  · have e : M = xm_246 := (Option.some.inj (h.symm.trans (show xT_M (240 + 6) = some xm_246 from rfl)))
    rw [e]; exact xmk_246
  · have e : M = xm_247 := (Option.some.inj (h.symm.trans (show xT_M (240 + 7) = some xm_247 from rfl)))
    rw [e]; exact xmk_247
  · have e : M = xm_248 := (Option.some.inj (h.symm.trans (show xT_M (240 + 8) = some xm_248 from rfl)))
    rw [e]; exact xmk_248
  · have e : M = xm_249 := (Option.some.inj (h.symm.trans (show xT_M (240 + 9) = some xm_249 from rfl)))
    rw [e]; exact xmk_249
  · have e : M = xm_250 := (Option.some.inj (h.symm.trans (show xT_M (240 + 10) = some xm_250 from rfl)))
    rw [e]; exact xmk_250
  · have e : M = xm_251 := (Option.some.inj (h.symm.trans (show xT_M (240 + 11) = some xm_251 from rfl)))
    rw [e]; exact xmk_251
  · have e : M = xm_252 := (Option.some.inj (h.symm.trans (show xT_M (240 + 12) = some xm_252 from rfl)))
    rw [e]; exact xmk_252
  · have e : M = xm_253 := (Option.some.inj (h.symm.trans (show xT_M (240 + 13) = some xm_253 from rfl)))
    rw [e]; exact xmk_253
  · have e : M = xm_254 := (Option.some.inj (h.symm.trans (show xT_M (240 + 14) = some xm_254 from rfl)))
    rw [e]; exact xmk_254
  · have e : M = xm_255 := (Option.some.inj (h.symm.trans (show xT_M (240 + 15) = some xm_255 from rfl)))
    rw [e]; exact xmk_255
  · have e : M = xm_256 := (Option.some.inj (h.symm.trans (show xT_M (240 + 16) = some xm_256 from rfl)))
    rw [e]; exact xmk_256
  · have e : M = xm_257 := (Option.some.inj (h.symm.trans (show xT_M (240 + 17) = some xm_257 from rfl)))
    rw [e]; exact xmk_257
  · have e : M = xm_258 := (Option.some.inj (h.symm.trans (show xT_M (240 + 18) = some xm_258 from rfl)))
    rw [e]; exact xmk_258
  · have e : M = xm_259 := (Option.some.inj (h.symm.trans (show xT_M (240 + 19) = some xm_259 from rfl)))
    rw [e]; exact xmk_259
theorem xmks_260 : ∀ (k : Nat) (M : ix_M), 260 ≤ k → k < 280 → xT_M k = some M → xmkP M := by
  intro k M h1 h2 h
  obtain ⟨j, rfl⟩ : ∃ j, k = 260 + j := ⟨k - 260, by omega⟩
  rcases (show j = 0 ∨ j = 1 ∨ j = 2 ∨ j = 3 ∨ j = 4 ∨ j = 5 ∨ j = 6 ∨ j = 7 ∨ j = 8 ∨ j = 9 ∨ j = 10 ∨ j = 11 ∨ j = 12 ∨ j = 13 ∨ j = 14 ∨ j = 15 ∨ j = 16 ∨ j = 17 ∨ j = 18 ∨ j = 19 by omega) with rfl | rfl | rfl | rfl | rfl | rfl | rfl | rfl | rfl | rfl | rfl | rfl | rfl | rfl | rfl | rfl | rfl | rfl | rfl | rfl
  · have e : M = xm_260 := (Option.some.inj (h.symm.trans (show xT_M (260 + 0) = some xm_260 from rfl)))
    rw [e]; exact xmk_260
  · have e : M = xm_261 := (Option.some.inj (h.symm.trans (show xT_M (260 + 1) = some xm_261 from rfl)))
    rw [e]; exact xmk_261
  · have e : M = xm_262 := (Option.some.inj (h.symm.trans (show xT_M (260 + 2) = some xm_262 from rfl)))
    rw [e]; exact xmk_262
  · have e : M = xm_263 := (Option.some.inj (h.symm.trans (show xT_M (260 + 3) = some xm_263 from rfl)))
    rw [e]; exact xmk_263
  · have e : M = xm_264 := (Option.some.inj (h.symm.trans (show xT_M (260 + 4) = some xm_264 from rfl)))
    rw [e]; exact xmk_264
  · have e : M = xm_265 := (Option.some.inj (h.symm.trans (show xT_M (260 + 5) = some xm_265 from rfl)))
    rw [e]; exact xmk_265
  · have e : M = xm_266 := (Option.some.inj (h.symm.trans (show xT_M (260 + 6) = some xm_266 from rfl)))
    rw [e]; exact xmk_266
  · have e : M = xm_267 := (Option.some.inj (h.symm.trans (show xT_M (260 + 7) = some xm_267 from rfl)))
    rw [e]; exact xmk_267
  · have e : M = xm_268 := (Option.some.inj (h.symm.trans (show xT_M (260 + 8) = some xm_268 from rfl)))
    rw [e]; exact xmk_268
  · have e : M = xm_269 := (Option.some.inj (h.symm.trans (show xT_M (260 + 9) = some xm_269 from rfl)))
    rw [e]; exact xmk_269
  · have e : M = xm_270 := (Option.some.inj (h.symm.trans (show xT_M (260 + 10) = some xm_270 from rfl)))
    rw [e]; exact xmk_270
  · have e : M = xm_271 := (Option.some.inj (h.symm.trans (show xT_M (260 + 11) = some xm_271 from rfl)))
    rw [e]; exact xmk_271
  · have e : M = xm_272 := (Option.some.inj (h.symm.trans (show xT_M (260 + 12) = some xm_272 from rfl)))
    rw [e]; exact xmk_272
  · have e : M = xm_273 := (Option.some.inj (h.symm.trans (show xT_M (260 + 13) = some xm_273 from rfl)))
    rw [e]; exact xmk_273
  · have e : M = xm_274 := (Option.some.inj (h.symm.trans (show xT_M (260 + 14) = some xm_274 from rfl)))
    rw [e]; exact xmk_274
  · have e : M = xm_275 := (Option.some.inj (h.symm.trans (show xT_M (260 + 15) = some xm_275 from rfl)))
    rw [e]; exact xmk_275
  · have e : M = xm_276 := (Option.some.inj (h.symm.trans (show xT_M (260 + 16) = some xm_276 from rfl)))
    rw [e]; exact xmk_276
  · have e : M = xm_277 := (Option.some.inj (h.symm.trans (show xT_M (260 + 17) = some xm_277 from rfl)))
    rw [e]; exact xmk_277
  · have e : M = xm_278 := (Option.some.inj (h.symm.trans (show xT_M (260 + 18) = some xm_278 from rfl)))
    rw [e]; exact xmk_278
  · have e : M = xm_279 := (Option.some.inj (h.symm.trans (show xT_M (260 + 19) = some xm_279 from rfl)))
    rw [e]; exact xmk_279
theorem xmks_280 : ∀ (k : Nat) (M : ix_M), 280 ≤ k → k < 300 → xT_M k = some M → xmkP M := by
  intro k M h1 h2 h
  obtain ⟨j, rfl⟩ : ∃ j, k = 280 + j := ⟨k - 280, by omega⟩
  rcases (show j = 0 ∨ j = 1 ∨ j = 2 ∨ j = 3 ∨ j = 4 ∨ j = 5 ∨ j = 6 ∨ j = 7 ∨ j = 8 ∨ j = 9 ∨ j = 10 ∨ j = 11 ∨ j = 12 ∨ j = 13 ∨ j = 14 ∨ j = 15 ∨ j = 16 ∨ j = 17 ∨ j = 18 ∨ j = 19 by omega) with rfl | rfl | rfl | rfl | rfl | rfl | rfl | rfl | rfl | rfl | rfl | rfl | rfl | rfl | rfl | rfl | rfl | rfl | rfl | rfl
  · have e : M = xm_280 := (Option.some.inj (h.symm.trans (show xT_M (280 + 0) = some xm_280 from rfl)))
    rw [e]; exact xmk_280
  · have e : M = xm_281 := (Option.some.inj (h.symm.trans (show xT_M (280 + 1) = some xm_281 from rfl)))
    rw [e]; exact xmk_281
  · have e : M = xm_282 := (Option.some.inj (h.symm.trans (show xT_M (280 + 2) = some xm_282 from rfl)))
    rw [e]; exact xmk_282
  · have e : M = xm_283 := (Option.some.inj (h.symm.trans (show xT_M (280 + 3) = some xm_283 from rfl)))
    rw [e]; exact xmk_283
  · have e : M = xm_284 := (Option.some.inj (h.symm.trans (show xT_M (280 + 4) = some xm_284 from rfl)))
    rw [e]; exact xmk_284
  · have e : M = xm_285 := (Option.some.inj (h.symm.trans (show xT_M (280 + 5) = some xm_285 from rfl)))
    rw [e]; exact xmk_285
  · have e : M = xm_286 := (Option.some.inj (h.symm.trans (show xT_M (280 + 6) = some xm_286 from rfl)))
    rw [e]; exact xmk_286
  · have e : M = xm_287 := (Option.some.inj (h.symm.trans (show xT_M (280 + 7) = some xm_287 from rfl)))
    rw [e]; exact xmk_287
  · have e : M = xm_288 := (Option.some.inj (h.symm.trans (show xT_M (280 + 8) = some xm_288 from rfl)))
    rw [e]; exact xmk_288
  · have e : M = xm_289 := (Option.some.inj (h.symm.trans (show xT_M (280 + 9) = some xm_289 from rfl)))
    rw [e]; exact xmk_289
  · have e : M = xm_290 := (Option.some.inj (h.symm.trans (show xT_M (280 + 10) = some xm_290 from rfl)))
    rw [e]; exact xmk_290
  · have e : M = xm_291 := (Option.some.inj (h.symm.trans (show xT_M (280 + 11) = some xm_291 from rfl)))
    rw [e]; exact xmk_291
  · have e : M = xm_292 := (Option.some.inj (h.symm.trans (show xT_M (280 + 12) = some xm_292 from rfl)))
    rw [e]; exact xmk_292
  · have e : M = xm_293 := (Option.some.inj (h.symm.trans (show xT_M (280 + 13) = some xm_293 from rfl)))
    rw [e]; exact xmk_293
  · have e : M = xm_294 := (Option.some.inj (h.symm.trans (show xT_M (280 + 14) = some xm_294 from rfl)))
    rw [e]; exact xmk_294
  · have e : M = xm_295 := (Option.some.inj (h.symm.trans (show xT_M (280 + 15) = some xm_295 from rfl)))
    rw [e]; exact xmk_295
  · have e : M = xm_296 := (Option.some.inj (h.symm.trans (show xT_M (280 + 16) = some xm_296 from rfl)))
    rw [e]; exact xmk_296
  · have e : M = xm_297 := (Option.some.inj (h.symm.trans (show xT_M (280 + 17) = some xm_297 from rfl)))
    rw [e]; exact xmk_297
  · have e : M = xm_298 := (Option.some.inj (h.symm.trans (show xT_M (280 + 18) = some xm_298 from rfl)))
    rw [e]; exact xmk_298
  · have e : M = xm_299 := (Option.some.inj (h.symm.trans (show xT_M (280 + 19) = some xm_299 from rfl)))
    rw [e]; exact xmk_299
theorem xmks_300 : ∀ (k : Nat) (M : ix_M), 300 ≤ k → k < 320 → xT_M k = some M → xmkP M := by
  intro k M h1 h2 h
  obtain ⟨j, rfl⟩ : ∃ j, k = 300 + j := ⟨k - 300, by omega⟩
  rcases (show j = 0 ∨ j = 1 ∨ j = 2 ∨ j = 3 ∨ j = 4 ∨ j = 5 ∨ j = 6 ∨ j = 7 ∨ j = 8 ∨ j = 9 ∨ j = 10 ∨ j = 11 ∨ j = 12 ∨ j = 13 ∨ j = 14 ∨ j = 15 ∨ j = 16 ∨ j = 17 ∨ j = 18 ∨ j = 19 by omega) with rfl | rfl | rfl | rfl | rfl | rfl | rfl | rfl | rfl | rfl | rfl | rfl | rfl | rfl | rfl | rfl | rfl | rfl | rfl | rfl
  · have e : M = xm_300 := (Option.some.inj (h.symm.trans (show xT_M (300 + 0) = some xm_300 from rfl)))
    rw [e]; exact xmk_300
  · have e : M = xm_301 := (Option.some.inj (h.symm.trans (show xT_M (300 + 1) = some xm_301 from rfl)))
    rw [e]; exact xmk_301
  · have e : M = xm_302 := (Option.some.inj (h.symm.trans (show xT_M (300 + 2) = some xm_302 from rfl)))
    rw [e]; exact xmk_302
  · have e : M = xm_303 := (Option.some.inj (h.symm.trans (show xT_M (300 + 3) = some xm_303 from rfl)))
    rw [e]; exact xmk_303
  · have e : M = xm_304 := (Option.some.inj (h.symm.trans (show xT_M (300 + 4) = some xm_304 from rfl)))
    rw [e]; exact xmk_304
  · have e : M = xm_305 := (Option.some.inj (h.symm.trans (show xT_M (300 + 5) = some xm_305 from rfl)))
    rw [e]; exact xmk_305
  · have e : M = xm_306 := (Option.some.inj (h.symm.trans (show xT_M (300 + 6) = some xm_306 from rfl)))
    rw [e]; exact xmk_306
  · have e : M = xm_307 := (Option.some.inj (h.symm.trans (show xT_M (300 + 7) = some xm_307 from rfl)))
    rw [e]; exact xmk_307
  · have e : M = xm_308 := (Option.some.inj (h.symm.trans (show xT_M (300 + 8) = some xm_308 from rfl)))
    rw [e]; exact xmk_308
  · have e : M = xm_309 := (Option.some.inj (h.symm.trans (show xT_M (300 + 9) = some xm_309 from rfl)))
    rw [e]; exact xmk_309
  · have e : M = xm_310 := (Option.some.inj (h.symm.trans (show xT_M (300 + 10) = some xm_310 from rfl)))
    rw [e]; exact xmk_310
  · have e : M = xm_311 := (Option.some.inj (h.symm.trans (show xT_M (300 + 11) = some xm_311 from rfl)))
    rw [e]; exact xmk_311
  · have e : M = xm_312 := (Option.some.inj (h.symm.trans (show xT_M (300 + 12) = some xm_312 from rfl)))
    rw [e]; exact xmk_312
  · have e : M = xm_313 := (Option.some.inj (h.symm.trans (show xT_M (300 + 13) = some xm_313 from rfl)))
    rw [e]; exact xmk_313
  · have e : M = xm_314 := (Option.some.inj (h.symm.trans (show xT_M (300 + 14) = some xm_314 from rfl)))
    rw [e]; exact xmk_314
  · have e : M = xm_315 := (Option.some.inj (h.symm.trans (show xT_M (300 + 15) = some xm_315 from rfl)))
    rw [e]; exact xmk_315
  · have e : M = xm_316 := (Option.some.inj (h.symm.trans (show xT_M (300 + 16) = some xm_316 from rfl)))
    rw [e]; exact xmk_316
  · have e : M = xm_317 := (Option.some.inj (h.symm.trans (show xT_M (300 + 17) = some xm_317 from rfl)))
    rw [e]; exact xmk_317
  · have e : M = xm_318 := (Option.some.inj (h.symm.trans (show xT_M (300 + 18) = some xm_318 from rfl)))
    rw [e]; exact xmk_318
  · have e : M = xm_319 := (Option.some.inj (h.symm.trans (show xT_M (300 + 19) = some xm_319 from rfl)))
    rw [e]; exact xmk_319
theorem xmks_320 : ∀ (k : Nat) (M : ix_M), 320 ≤ k → k < 340 → xT_M k = some M → xmkP M := by
  intro k M h1 h2 h
  obtain ⟨j, rfl⟩ : ∃ j, k = 320 + j := ⟨k - 320, by omega⟩
  rcases (show j = 0 ∨ j = 1 ∨ j = 2 ∨ j = 3 ∨ j = 4 ∨ j = 5 ∨ j = 6 ∨ j = 7 ∨ j = 8 ∨ j = 9 ∨ j = 10 ∨ j = 11 ∨ j = 12 ∨ j = 13 ∨ j = 14 ∨ j = 15 ∨ j = 16 ∨ j = 17 ∨ j = 18 ∨ j = 19 by omega) with rfl | rfl | rfl | rfl | rfl | rfl | rfl | rfl | rfl | rfl | rfl | rfl | rfl | rfl | rfl | rfl | rfl | rfl | rfl | rfl
  · have e : M = xm_320 := (Option.some.inj (h.symm.trans (show xT_M (320 + 0) = some xm_320 from rfl)))
    rw [e]; exact xmk_320
  · have e : M = xm_321 := (Option.some.inj (h.symm.trans (show xT_M (320 + 1) = some xm_321 from rfl)))
    rw [e]; exact xmk_321
  · have e : M = xm_322 := (Option.some.inj (h.symm.trans (show xT_M (320 + 2) = some xm_322 from rfl)))
    rw [e]; exact xmk_322
  · have e : M = xm_323 := (Option.some.inj (h.symm.trans (show xT_M (320 + 3) = some xm_323 from rfl)))
    rw [e]; exact xmk_323
  · have e : M = xm_324 := (Option.some.inj (h.symm.trans (show xT_M (320 + 4) = some xm_324 from rfl)))
    rw [e]; exact xmk_324
  · have e : M = xm_325 := (Option.some.inj (h.symm.trans (show xT_M (320 + 5) = some xm_325 from rfl)))
    rw [e]; exact xmk_325
  · have e : M = xm_326 := (Option.some.inj (h.symm.trans (show xT_M (320 + 6) = some xm_326 from rfl)))
    rw [e]; exact xmk_326
  · have e : M = xm_327 := (Option.some.inj (h.symm.trans (show xT_M (320 + 7) = some xm_327 from rfl)))
    rw [e]; exact xmk_327
  · have e : M = xm_328 := (Option.some.inj (h.symm.trans (show xT_M (320 + 8) = some xm_328 from rfl)))
    rw [e]; exact xmk_328
  · have e : M = xm_329 := (Option.some.inj (h.symm.trans (show xT_M (320 + 9) = some xm_329 from rfl)))
    rw [e]; exact xmk_329
  · have e : M = xm_330 := (Option.some.inj (h.symm.trans (show xT_M (320 + 10) = some xm_330 from rfl)))
    rw [e]; exact xmk_330
  · have e : M = xm_331 := (Option.some.inj (h.symm.trans (show xT_M (320 + 11) = some xm_331 from rfl)))
    rw [e]; exact xmk_331
  · have e : M = xm_332 := (Option.some.inj (h.symm.trans (show xT_M (320 + 12) = some xm_332 from rfl)))
    rw [e]; exact xmk_332
  · have e : M = xm_333 := (Option.some.inj (h.symm.trans (show xT_M (320 + 13) = some xm_333 from rfl)))
    rw [e]; exact xmk_333
  · have e : M = xm_334 := (Option.some.inj (h.symm.trans (show xT_M (320 + 14) = some xm_334 from rfl)))
    rw [e]; exact xmk_334
  · have e : M = xm_335 := (Option.some.inj (h.symm.trans (show xT_M (320 + 15) = some xm_335 from rfl)))
    rw [e]; exact xmk_335
  · have e : M = xm_336 := (Option.some.inj (h.symm.trans (show xT_M (320 + 16) = some xm_336 from rfl)))
    rw [e]; exact xmk_336
  · have e : M = xm_337 := (Option.some.inj (h.symm.trans (show xT_M (320 + 17) = some xm_337 from rfl)))
    rw [e]; exact xmk_337
  · have e : M = xm_338 := (Option.some.inj (h.symm.trans (show xT_M (320 + 18) = some xm_338 from rfl)))
    rw [e]; exact xmk_338
  · have e : M = xm_339 := (Option.some.inj (h.symm.trans (show xT_M (320 + 19) = some xm_339 from rfl)))
    rw [e]; exact xmk_339
theorem xmks_340 : ∀ (k : Nat) (M : ix_M), 340 ≤ k → k < 360 → xT_M k = some M → xmkP M := by
  intro k M h1 h2 h
  obtain ⟨j, rfl⟩ : ∃ j, k = 340 + j := ⟨k - 340, by omega⟩
  rcases (show j = 0 ∨ j = 1 ∨ j = 2 ∨ j = 3 ∨ j = 4 ∨ j = 5 ∨ j = 6 ∨ j = 7 ∨ j = 8 ∨ j = 9 ∨ j = 10 ∨ j = 11 ∨ j = 12 ∨ j = 13 ∨ j = 14 ∨ j = 15 ∨ j = 16 ∨ j = 17 ∨ j = 18 ∨ j = 19 by omega) with rfl | rfl | rfl | rfl | rfl | rfl | rfl | rfl | rfl | rfl | rfl | rfl | rfl | rfl | rfl | rfl | rfl | rfl | rfl | rfl
  · have e : M = xm_340 := (Option.some.inj (h.symm.trans (show xT_M (340 + 0) = some xm_340 from rfl)))
    rw [e]; exact xmk_340
  · have e : M = xm_341 := (Option.some.inj (h.symm.trans (show xT_M (340 + 1) = some xm_341 from rfl)))
    rw [e]; exact xmk_341
  · have e : M = xm_342 := (Option.some.inj (h.symm.trans (show xT_M (340 + 2) = some xm_342 from rfl)))
    rw [e]; exact xmk_342
  · have e : M = xm_343 := (Option.some.inj (h.symm.trans (show xT_M (340 + 3) = some xm_343 from rfl)))
    rw [e]; exact xmk_343
  · have e : M = xm_344 := (Option.some.inj (h.symm.trans (show xT_M (340 + 4) = some xm_344 from rfl)))
    rw [e]; exact xmk_344
  · have e : M = xm_345 := (Option.some.inj (h.symm.trans (show xT_M (340 + 5) = some xm_345 from rfl)))
    rw [e]; exact xmk_345
  · have e : M = xm_346 := (Option.some.inj (h.symm.trans (show xT_M (340 + 6) = some xm_346 from rfl)))
    rw [e]; exact xmk_346
  · have e : M = xm_347 := (Option.some.inj (h.symm.trans (show xT_M (340 + 7) = some xm_347 from rfl)))
    rw [e]; exact xmk_347
  · have e : M = xm_348 := (Option.some.inj (h.symm.trans (show xT_M (340 + 8) = some xm_348 from rfl)))
    rw [e]; exact xmk_348
  · have e : M = xm_349 := (Option.some.inj (h.symm.trans (show xT_M (340 + 9) = some xm_349 from rfl)))
    rw [e]; exact xmk_349
  · have e : M = xm_350 := (Option.some.inj (h.symm.trans (show xT_M (340 + 10) = some xm_350 from rfl)))
    rw [e]; exact xmk_350
  · have e : M = xm_351 := (Option.some.inj (h.symm.trans (show xT_M (340 + 11) = some xm_351 from rfl)))
    rw [e]; exact xmk_351
  · have e : M = xm_352 := (Option.some.inj (h.symm.trans (show xT_M (340 + 12) = some xm_352 from rfl)))
    rw [e]; exact xmk_352
  · have e : M = xm_353 := (Option.some.inj (h.symm.trans (show xT_M (340 + 13) = some xm_353 from rfl)))
    rw [e]; exact xmk_353
  · have e : M = xm_354 := (Option.some.inj (h.symm.trans (show xT_M (340 + 14) = some xm_354 from rfl)))
    rw [e]; exact xmk_354
  · have e : M = xm_355 := (Option.some.inj (h.symm.trans (show xT_M (340 + 15) = some xm_355 from rfl)))
    rw [e]; exact xmk_355
  · have e : M = xm_356 := (Option.some.inj (h.symm.trans (show xT_M (340 + 16) = some xm_356 from rfl)))
    rw [e]; exact xmk_356
  · have e : M = xm_357 := (Option.some.inj (h.symm.trans (show xT_M (340 + 17) = some xm_357 from rfl)))
    rw [e]; exact xmk_357
  · have e : M = xm_358 := (Option.some.inj (h.symm.trans (show xT_M (340 + 18) = some xm_358 from rfl)))
    rw [e]; exact xmk_358
  · have e : M = xm_359 := (Option.some.inj (h.symm.trans (show xT_M (340 + 19) = some xm_359 from rfl)))
    rw [e]; exact xmk_359
end
