section
theorem xmk_309 : xmkP xm_309 :=
  ⟨rfl, xcw_12.1, xcw_12.2.1, xTs_at (k := 11) (i := 7) rfl rfl, xcw_12.2.2, Nat.le_of_ble_eq_true rfl, xbf rfl, ix_cd_ok xc_309_ok (xg_no _ _)⟩
theorem xmk_310 : xmkP xm_310 :=
  ⟨rfl, xcw_12.1, xcw_12.2.1, xTs_at (k := 11) (i := 3) rfl rfl, xcw_12.2.2, Nat.le_of_ble_eq_true rfl, xbf rfl, ix_cd_ok xc_310_ok (xg_no _ _)⟩
theorem xmk_311 : xmkP xm_311 :=
  ⟨rfl, xcw_12.1, xcw_12.2.1, xTs_at (k := 11) (i := 19) rfl rfl, xcw_12.2.2, Nat.le_of_ble_eq_true rfl, xbf rfl, ix_cd_ok xc_311_ok (xg_no _ _)⟩
theorem xmk_312 : xmkP xm_312 :=
  ⟨rfl, xcw_12.1, xcw_12.2.1, xTs_at (k := 11) (i := 15) rfl rfl, xcw_12.2.2, Nat.le_of_ble_eq_true rfl, xbf rfl, ix_cd_ok xc_312_ok (xg_no _ _)⟩
theorem xmk_313 : xmkP xm_313 :=
  ⟨rfl, xcw_12.1, xcw_12.2.1, xTs_at (k := 11) (i := 27) rfl rfl, xcw_12.2.2, Nat.le_of_ble_eq_true rfl, xbf rfl, ix_cd_ok xc_313_ok (xg_no _ _)⟩
theorem xmk_314 : xmkP xm_314 :=
  ⟨rfl, xcw_12.1, xcw_12.2.1, xTs_at (k := 10) (i := 216) rfl rfl, xcw_12.2.2, Nat.le_of_ble_eq_true rfl, xbf rfl, ix_cd_ok xc_314_ok (xg_no _ _)⟩
theorem xmk_315 : xmkP xm_315 :=
  ⟨rfl, xcw_12.1, xcw_12.2.1, xTs_at (k := 11) (i := 35) rfl rfl, xcw_12.2.2, Nat.le_of_ble_eq_true rfl, xbf rfl, ix_cd_ok xc_315_ok (xg_no _ _)⟩
theorem xmk_316 : xmkP xm_316 :=
  ⟨rfl, xcw_12.1, xcw_12.2.1, xTs_at (k := 11) (i := 31) rfl rfl, xcw_12.2.2, Nat.le_of_ble_eq_true rfl, xbf rfl, ix_cd_ok xc_316_ok (xg_no _ _)⟩
theorem xmk_317 : xmkP xm_317 :=
  ⟨rfl, xcw_12.1, xcw_12.2.1, xTs_at (k := 11) (i := 39) rfl rfl, xcw_12.2.2, Nat.le_of_ble_eq_true rfl, xbf rfl, ix_cd_ok xc_317_ok (xg_no _ _)⟩
theorem xmk_318 : xmkP xm_318 :=
  ⟨rfl, xcw_12.1, xcw_12.2.1, xTs_at (k := 11) (i := 44) rfl rfl, xcw_12.2.2, Nat.le_of_ble_eq_true rfl, xbf rfl, ix_cd_ok xc_318_ok (xg_no _ _)⟩
theorem xmk_319 : xmkP xm_319 :=
  ⟨rfl, xcw_12.1, xcw_12.2.1, xTs_at (k := 11) (i := 48) rfl rfl, xcw_12.2.2, Nat.le_of_ble_eq_true rfl, xbf rfl, ix_cd_ok xc_319_ok (xg_no _ _)⟩
theorem xmk_320 : xmkP xm_320 :=
  ⟨rfl, xcw_12.1, xcw_12.2.1, xTs_at (k := 11) (i := 58) rfl rfl, xcw_12.2.2, Nat.le_of_ble_eq_true rfl, xbf rfl, ix_cd_ok xc_320_ok (xg_no _ _)⟩
theorem xmk_321 : xmkP xm_321 :=
  ⟨rfl, xcw_12.1, xcw_12.2.1, xTs_at (k := 11) (i := 54) rfl rfl, xcw_12.2.2, Nat.le_of_ble_eq_true rfl, xbf rfl, ix_cd_ok xc_321_ok (xg_no _ _)⟩
theorem xmk_322 : xmkP xm_322 :=
  ⟨rfl, xcw_12.1, xcw_12.2.1, xTs_at (k := 11) (i := 62) rfl rfl, xcw_12.2.2, Nat.le_of_ble_eq_true rfl, xbf rfl, ix_cd_ok xc_322_ok (xg_no _ _)⟩
theorem xmk_323 : xmkP xm_323 :=
  ⟨rfl, xcw_12.1, xcw_12.2.1, xTs_at (k := 11) (i := 82) rfl rfl, xcw_12.2.2, Nat.le_of_ble_eq_true rfl, xbf rfl, ix_cd_ok xc_323_ok (xg_no _ _)⟩
theorem xmk_324 : xmkP xm_324 :=
  ⟨rfl, xcw_12.1, xcw_12.2.1, xTs_at (k := 11) (i := 74) rfl rfl, xcw_12.2.2, Nat.le_of_ble_eq_true rfl, xbf rfl, ix_cd_ok xc_324_ok (xg_no _ _)⟩
theorem xmk_325 : xmkP xm_325 :=
  ⟨rfl, xcw_12.1, xcw_12.2.1, xTs_at (k := 11) (i := 78) rfl rfl, xcw_12.2.2, Nat.le_of_ble_eq_true rfl, xbf rfl, ix_cd_ok xc_325_ok (xg_no _ _)⟩
theorem xmk_326 : xmkP xm_326 :=
  ⟨rfl, xcw_12.1, xcw_12.2.1, xTs_at (k := 11) (i := 70) rfl rfl, xcw_12.2.2, Nat.le_of_ble_eq_true rfl, xbf rfl, ix_cd_ok xc_326_ok (xg_no _ _)⟩
theorem xmk_327 : xmkP xm_327 :=
  ⟨rfl, xcw_12.1, xcw_12.2.1, xTs_at (k := 11) (i := 94) rfl rfl, xcw_12.2.2, Nat.le_of_ble_eq_true rfl, xbf rfl, ix_cd_ok xc_327_ok (xg_no _ _)⟩
theorem xmk_328 : xmkP xm_328 :=
  ⟨rfl, xcw_12.1, xcw_12.2.1, xTs_at (k := 11) (i := 103) rfl rfl, xcw_12.2.2, Nat.le_of_ble_eq_true rfl, xbf rfl, ix_cd_ok xc_328_ok (xg_no _ _)⟩
theorem xmk_329 : xmkP xm_329 :=
  ⟨rfl, xcw_12.1, xcw_12.2.1, xTs_at (k := 11) (i := 99) rfl rfl, xcw_12.2.2, Nat.le_of_ble_eq_true rfl, xbf rfl, ix_cd_ok xc_329_ok (xg_no _ _)⟩
theorem xmk_330 : xmkP xm_330 :=
  ⟨rfl, xcw_12.1, xcw_12.2.1, xTs_at (k := 11) (i := 108) rfl rfl, xcw_12.2.2, Nat.le_of_ble_eq_true rfl, xbf rfl, ix_cd_ok xc_330_ok (xg_no _ _)⟩
theorem xmk_331 : xmkP xm_331 :=
  ⟨rfl, xcw_12.1, xcw_12.2.1, xTs_at (k := 11) (i := 90) rfl rfl, xcw_12.2.2, Nat.le_of_ble_eq_true rfl, xbf rfl, ix_cd_ok xc_331_ok (xg_no _ _)⟩
theorem xmk_332 : xmkP xm_332 :=
  ⟨rfl, xcw_12.1, xcw_12.2.1, xTs_at (k := 11) (i := 86) rfl rfl, xcw_12.2.2, Nat.le_of_ble_eq_true rfl, xbf rfl, ix_cd_ok xc_332_ok (xg_no _ _)⟩
theorem xmk_333 : xmkP xm_333 :=
  ⟨rfl, xcw_12.1, xcw_12.2.1, xTs_at (k := 11) (i := 112) rfl rfl, xcw_12.2.2, Nat.le_of_ble_eq_true rfl, xbf rfl, ix_cd_ok xc_333_ok (xg_no _ _)⟩
theorem xmk_334 : xmkP xm_334 :=
  ⟨rfl, xcw_12.1, xcw_12.2.1, xTs_at (k := 11) (i := 116) rfl rfl, xcw_12.2.2, Nat.le_of_ble_eq_true rfl, xbf rfl, ix_cd_ok xc_334_ok (xg_no _ _)⟩
theorem xmk_335 : xmkP xm_335 :=
  ⟨rfl, xcw_12.1, xcw_12.2.1, xTs_at (k := 11) (i := 120) rfl rfl, xcw_12.2.2, Nat.le_of_ble_eq_true rfl, xbf rfl, ix_cd_ok xc_335_ok (xg_no _ _)⟩
theorem xmk_336 : xmkP xm_336 :=
  ⟨rfl, xcw_12.1, xcw_12.2.1, xTs_at (k := 11) (i := 124) rfl rfl, xcw_12.2.2, Nat.le_of_ble_eq_true rfl, xbf rfl, ix_cd_ok xc_336_ok (xg_no _ _)⟩
theorem xmk_337 : xmkP xm_337 :=
  ⟨rfl, xcw_12.1, xcw_12.2.1, xTs_at (k := 8) (i := 12) rfl rfl, xcw_12.2.2, Nat.le_of_ble_eq_true rfl, xbf rfl, ix_cd_ok xc_337_ok (xg_no _ _)⟩
theorem xmk_338 : xmkP xm_338 :=
  ⟨rfl, xcw_12.1, xcw_12.2.1, xTs_at (k := 11) (i := 154) rfl rfl, xcw_12.2.2, Nat.le_of_ble_eq_true rfl, xbf rfl, ix_cd_ok xc_338_ok (xg_no _ _)⟩
theorem xmk_339 : xmkP xm_339 :=
  ⟨rfl, xcw_12.1, xcw_12.2.1, xTs_at (k := 11) (i := 166) rfl rfl, xcw_12.2.2, Nat.le_of_ble_eq_true rfl, xbf rfl, ix_cd_ok xc_339_ok (xg_no _ _)⟩
theorem xmk_340 : xmkP xm_340 :=
  ⟨rfl, xcw_12.1, xcw_12.2.1, xTs_at (k := 11) (i := 162) rfl rfl, xcw_12.2.2, Nat.le_of_ble_eq_true rfl, xbf rfl, ix_cd_ok xc_340_ok (xg_no _ _)⟩
theorem xmk_341 : xmkP xm_341 :=
  ⟨rfl, xcw_12.1, xcw_12.2.1, xTs_at (k := 11) (i := 135) rfl rfl, xcw_12.2.2, Nat.le_of_ble_eq_true rfl, xbf rfl, ix_cd_ok xc_341_ok (xg_no _ _)⟩
theorem xmk_342 : xmkP xm_342 :=
  ⟨rfl, xcw_12.1, xcw_12.2.1, xTs_at (k := 11) (i := 138) rfl rfl, xcw_12.2.2, Nat.le_of_ble_eq_true rfl, xbf rfl, ix_cd_ok xc_342_ok (xg_no _ _)⟩
theorem xmk_343 : xmkP xm_343 :=
  ⟨rfl, xcw_12.1, xcw_12.2.1, xTs_at (k := 11) (i := 142) rfl rfl, xcw_12.2.2, Nat.le_of_ble_eq_true rfl, xbf rfl, ix_cd_ok xc_343_ok (xg_no _ _)⟩
theorem xmk_344 : xmkP xm_344 :=
  ⟨rfl, xcw_12.1, xcw_12.2.1, xTs_at (k := 11) (i := 132) rfl rfl, xcw_12.2.2, Nat.le_of_ble_eq_true rfl, xbf rfl, ix_cd_ok xc_344_ok (xg_no _ _)⟩
theorem xmk_345 : xmkP xm_345 :=
  ⟨rfl, xcw_12.1, xcw_12.2.1, xTs_at (k := 11) (i := 178) rfl rfl, xcw_12.2.2, Nat.le_of_ble_eq_true rfl, xbf rfl, ix_cd_ok xc_345_ok (xg_no _ _)⟩
theorem xmk_346 : xmkP xm_346 :=
  ⟨rfl, xcw_12.1, xcw_12.2.1, xTs_at (k := 11) (i := 146) rfl rfl, xcw_12.2.2, Nat.le_of_ble_eq_true rfl, xbf rfl, ix_cd_ok xc_346_ok (xg_no _ _)⟩
theorem xmk_347 : xmkP xm_347 :=
  ⟨rfl, xcw_12.1, xcw_12.2.1, xTs_at (k := 11) (i := 198) rfl rfl, xcw_12.2.2, Nat.le_of_ble_eq_true rfl, xbf rfl, ix_cd_ok xc_347_ok (xg_no _ _)⟩
theorem xmk_348 : xmkP xm_348 :=
  ⟨rfl, xcw_12.1, xcw_12.2.1, xTs_at (k := 11) (i := 222) rfl rfl, xcw_12.2.2, Nat.le_of_ble_eq_true rfl, xbf rfl, ix_cd_ok xc_348_ok (xg_no _ _)⟩
theorem xmk_349 : xmkP xm_349 :=
  ⟨rfl, xcw_12.1, xcw_12.2.1, xTs_at (k := 11) (i := 158) rfl rfl, xcw_12.2.2, Nat.le_of_ble_eq_true rfl, xbf rfl, ix_cd_ok xc_349_ok (xg_no _ _)⟩
theorem xmk_350 : xmkP xm_350 :=
  ⟨rfl, xcw_12.1, xcw_12.2.1, xTs_at (k := 11) (i := 190) rfl rfl, xcw_12.2.2, Nat.le_of_ble_eq_true rfl, xbf rfl, ix_cd_ok xc_350_ok (xg_no _ _)⟩
theorem xmk_351 : xmkP xm_351 :=
  ⟨rfl, xcw_12.1, xcw_12.2.1, xTs_at (k := 11) (i := 202) rfl rfl, xcw_12.2.2, Nat.le_of_ble_eq_true rfl, xbf rfl, ix_cd_ok xc_351_ok (xg_no _ _)⟩
theorem xmk_352 : xmkP xm_352 :=
  ⟨rfl, xcw_12.1, xcw_12.2.1, xTs_at (k := 11) (i := 182) rfl rfl, xcw_12.2.2, Nat.le_of_ble_eq_true rfl, xbf rfl, ix_cd_ok xc_352_ok (xg_no _ _)⟩
theorem xmk_353 : xmkP xm_353 :=
  ⟨rfl, xcw_12.1, xcw_12.2.1, xTs_at (k := 11) (i := 174) rfl rfl, xcw_12.2.2, Nat.le_of_ble_eq_true rfl, xbf rfl, ix_cd_ok xc_353_ok (xg_no _ _)⟩
theorem xmk_354 : xmkP xm_354 :=
  ⟨rfl, xcw_12.1, xcw_12.2.1, xTs_at (k := 11) (i := 233) rfl rfl, xcw_12.2.2, Nat.le_of_ble_eq_true rfl, xbf rfl, ix_cd_ok xc_354_ok (xg_no _ _)⟩
theorem xmk_355 : xmkP xm_355 :=
  ⟨rfl, xcw_12.1, xcw_12.2.1, xTs_at (k := 11) (i := 230) rfl rfl, xcw_12.2.2, Nat.le_of_ble_eq_true rfl, xbf rfl, ix_cd_ok xc_355_ok (xg_no _ _)⟩
theorem xmk_356 : xmkP xm_356 :=
  ⟨rfl, xcw_12.1, xcw_12.2.1, xTs_at (k := 11) (i := 214) rfl rfl, xcw_12.2.2, Nat.le_of_ble_eq_true rfl, xbf rfl, ix_cd_ok xc_356_ok (xg_no _ _)⟩
theorem xmk_357 : xmkP xm_357 :=
  ⟨rfl, xcw_12.1, xcw_12.2.1, xTs_at (k := 12) (i := 8) rfl rfl, xcw_12.2.2, Nat.le_of_ble_eq_true rfl, xbf rfl, ix_cd_ok xc_357_ok (xg_no _ _)⟩
theorem xmk_358 : xmkP xm_358 :=
  ⟨rfl, xcw_12.1, xcw_12.2.1, xTs_at (k := 11) (i := 226) rfl rfl, xcw_12.2.2, Nat.le_of_ble_eq_true rfl, xbf rfl, ix_cd_ok xc_358_ok (xg_no _ _)⟩
theorem xmk_359 : xmkP xm_359 :=
  ⟨rfl, xcw_12.1, xcw_12.2.1, xTs_at (k := 11) (i := 218) rfl rfl, xcw_12.2.2, Nat.le_of_ble_eq_true rfl, xbf rfl, ix_cd_ok xc_359_ok (xg_no _ _)⟩
theorem xmk_360 : xmkP xm_360 :=
  ⟨rfl, xcw_12.1, xcw_12.2.1, xTs_at (k := 11) (i := 210) rfl rfl, xcw_12.2.2, Nat.le_of_ble_eq_true rfl, xbf rfl, ix_cd_ok xc_360_ok (xg_no _ _)⟩
theorem xmk_361 : xmkP xm_361 :=
  ⟨rfl, xcw_12.1, xcw_12.2.1, xTs_at (k := 12) (i := 5) rfl rfl, xcw_12.2.2, Nat.le_of_ble_eq_true rfl, xbf rfl, ix_cd_ok xc_361_ok (xg_no _ _)⟩
theorem xmk_362 : xmkP xm_362 :=
  ⟨rfl, xcw_12.1, xcw_12.2.1, xTs_at (k := 12) (i := 1) rfl rfl, xcw_12.2.2, Nat.le_of_ble_eq_true rfl, xbf rfl, ix_cd_ok xc_362_ok (xg_no _ _)⟩
theorem xmk_363 : xmkP xm_363 :=
  ⟨rfl, xcw_12.1, xcw_12.2.1, xTs_at (k := 11) (i := 237) rfl rfl, xcw_12.2.2, Nat.le_of_ble_eq_true rfl, xbf rfl, ix_cd_ok xc_363_ok (xg_no _ _)⟩
theorem xmk_364 : xmkP xm_364 :=
  ⟨rfl, xcw_12.1, xcw_12.2.1, xTs_at (k := 11) (i := 206) rfl rfl, xcw_12.2.2, Nat.le_of_ble_eq_true rfl, xbf rfl, ix_cd_ok xc_364_ok (xg_no _ _)⟩
theorem xmk_365 : xmkP xm_365 :=
  ⟨rfl, xcw_12.1, xcw_12.2.1, xTs_at (k := 11) (i := 170) rfl rfl, xcw_12.2.2, Nat.le_of_ble_eq_true rfl, xbf rfl, ix_cd_ok xc_365_ok (xg_no _ _)⟩
theorem xmk_366 : xmkP xm_366 :=
  ⟨rfl, xcw_12.1, xcw_12.2.1, xTs_at (k := 12) (i := 11) rfl rfl, xcw_12.2.2, Nat.le_of_ble_eq_true rfl, xbf rfl, ix_cd_ok xc_366_ok (xg_no _ _)⟩
theorem xmk_367 : xmkP xm_367 :=
  ⟨rfl, xcw_12.1, xcw_12.2.1, xTs_at (k := 11) (i := 194) rfl rfl, xcw_12.2.2, Nat.le_of_ble_eq_true rfl, xbf rfl, ix_cd_ok xc_367_ok (xg_no _ _)⟩
theorem xmk_368 : xmkP xm_368 :=
  ⟨rfl, xcw_12.1, xcw_12.2.1, xTs_at (k := 11) (i := 186) rfl rfl, xcw_12.2.2, Nat.le_of_ble_eq_true rfl, xbf rfl, ix_cd_ok xc_368_ok (xg_no _ _)⟩
theorem xmk_369 : xmkP xm_369 :=
  ⟨rfl, xcw_12.1, xcw_12.2.1, xTs_at (k := 11) (i := 150) rfl rfl, xcw_12.2.2, Nat.le_of_ble_eq_true rfl, xbf rfl, ix_cd_ok xc_369_ok (xg_no _ _)⟩
theorem xmk_370 : xmkP xm_370 :=
  ⟨rfl, xcw_12.1, xcw_12.2.1, xTs_at (k := 12) (i := 15) rfl rfl, xcw_12.2.2, Nat.le_of_ble_eq_true rfl, xbf rfl, ix_cd_ok xc_370_ok (xg_no _ _)⟩
theorem xmk_371 : xmkP xm_371 :=
  ⟨rfl, xcw_12.1, xcw_12.2.1, xTs_at (k := 11) (i := 128) rfl rfl, xcw_12.2.2, Nat.le_of_ble_eq_true rfl, xbf rfl, ix_cd_ok xc_371_ok (xg_no _ _)⟩
theorem xmk_372 : xmkP xm_372 :=
  ⟨rfl, xcw_12.1, xcw_12.2.1, xTs_at (k := 12) (i := 19) rfl rfl, xcw_12.2.2, Nat.le_of_ble_eq_true rfl, xbf rfl, ix_cd_ok xc_372_ok (xg_no _ _)⟩
theorem xmk_373 : xmkP xm_373 :=
  ⟨rfl, xcw_12.1, xcw_12.2.1, xTs_at (k := 12) (i := 31) rfl rfl, xcw_12.2.2, Nat.le_of_ble_eq_true rfl, xbf rfl, ix_cd_ok xc_373_ok (xg_no _ _)⟩
theorem xmk_374 : xmkP xm_374 :=
  ⟨rfl, xcw_12.1, xcw_12.2.1, xTs_at (k := 12) (i := 47) rfl rfl, xcw_12.2.2, Nat.le_of_ble_eq_true rfl, xbf rfl, ix_cd_ok xc_374_ok (xg_no _ _)⟩
theorem xmk_375 : xmkP xm_375 :=
  ⟨rfl, xcw_12.1, xcw_12.2.1, xTs_at (k := 12) (i := 27) rfl rfl, xcw_12.2.2, Nat.le_of_ble_eq_true rfl, xbf rfl, ix_cd_ok xc_375_ok (xg_no _ _)⟩
theorem xmk_376 : xmkP xm_376 :=
  ⟨rfl, xcw_12.1, xcw_12.2.1, xTs_at (k := 12) (i := 108) rfl rfl, xcw_12.2.2, Nat.le_of_ble_eq_true rfl, xbf rfl, ix_cd_ok xc_376_ok (xg_no _ _)⟩
theorem xmk_377 : xmkP xm_377 :=
  ⟨rfl, xcw_12.1, xcw_12.2.1, xTs_at (k := 12) (i := 43) rfl rfl, xcw_12.2.2, Nat.le_of_ble_eq_true rfl, xbf rfl, ix_cd_ok xc_377_ok (xg_no _ _)⟩
theorem xmk_378 : xmkP xm_378 :=
  ⟨rfl, xcw_12.1, xcw_12.2.1, xTs_at (k := 12) (i := 138) rfl rfl, xcw_12.2.2, Nat.le_of_ble_eq_true rfl, xbf rfl, ix_cd_ok xc_378_ok (xg_no _ _)⟩
theorem xmk_379 : xmkP xm_379 :=
  ⟨rfl, xcw_12.1, xcw_12.2.1, xTs_at (k := 12) (i := 23) rfl rfl, xcw_12.2.2, Nat.le_of_ble_eq_true rfl, xbf rfl, ix_cd_ok xc_379_ok (xg_no _ _)⟩
theorem xmk_380 : xmkP xm_380 :=
  ⟨rfl, xcw_12.1, xcw_12.2.1, xTs_at (k := 12) (i := 35) rfl rfl, xcw_12.2.2, Nat.le_of_ble_eq_true rfl, xbf rfl, ix_cd_ok xc_380_ok (xg_no _ _)⟩
theorem xmk_381 : xmkP xm_381 :=
  ⟨rfl, xcw_12.1, xcw_12.2.1, xTs_at (k := 12) (i := 39) rfl rfl, xcw_12.2.2, Nat.le_of_ble_eq_true rfl, xbf rfl, ix_cd_ok xc_381_ok (xg_no _ _)⟩
theorem xmk_382 : xmkP xm_382 :=
  ⟨rfl, xcw_12.1, xcw_12.2.1, xTs_at (k := 12) (i := 100) rfl rfl, xcw_12.2.2, Nat.le_of_ble_eq_true rfl, xbf rfl, ix_cd_ok xc_382_ok (xg_no _ _)⟩
theorem xmk_383 : xmkP xm_383 :=
  ⟨rfl, xcw_12.1, xcw_12.2.1, xTs_at (k := 12) (i := 55) rfl rfl, xcw_12.2.2, Nat.le_of_ble_eq_true rfl, xbf rfl, ix_cd_ok xc_383_ok (xg_no _ _)⟩
theorem xmk_384 : xmkP xm_384 :=
  ⟨rfl, xcw_12.1, xcw_12.2.1, xTs_at (k := 12) (i := 58) rfl rfl, xcw_12.2.2, Nat.le_of_ble_eq_true rfl, xbf rfl, ix_cd_ok xc_384_ok (xg_no _ _)⟩
theorem xmk_385 : xmkP xm_385 :=
  ⟨rfl, xcw_12.1, xcw_12.2.1, xTs_at (k := 12) (i := 51) rfl rfl, xcw_12.2.2, Nat.le_of_ble_eq_true rfl, xbf rfl, ix_cd_ok xc_385_ok (xg_no _ _)⟩
theorem xmk_386 : xmkP xm_386 :=
  ⟨rfl, xcw_12.1, xcw_12.2.1, xTs_at (k := 12) (i := 66) rfl rfl, xcw_12.2.2, Nat.le_of_ble_eq_true rfl, xbf rfl, ix_cd_ok xc_386_ok (xg_no _ _)⟩
theorem xmk_387 : xmkP xm_387 :=
  ⟨rfl, xcw_12.1, xcw_12.2.1, xTs_at (k := 12) (i := 83) rfl rfl, xcw_12.2.2, Nat.le_of_ble_eq_true rfl, xbf rfl, ix_cd_ok xc_387_ok (xg_no _ _)⟩
theorem xmk_388 : xmkP xm_388 :=
  ⟨rfl, xcw_12.1, xcw_12.2.1, xTs_at (k := 12) (i := 92) rfl rfl, xcw_12.2.2, Nat.le_of_ble_eq_true rfl, xbf rfl, ix_cd_ok xc_388_ok (xg_no _ _)⟩
theorem xmk_389 : xmkP xm_389 :=
  ⟨rfl, xcw_12.1, xcw_12.2.1, xTs_at (k := 12) (i := 96) rfl rfl, xcw_12.2.2, Nat.le_of_ble_eq_true rfl, xbf rfl, ix_cd_ok xc_389_ok (xg_no _ _)⟩
theorem xmk_390 : xmkP xm_390 :=
  ⟨rfl, xcw_12.1, xcw_12.2.1, xTs_at (k := 12) (i := 79) rfl rfl, xcw_12.2.2, Nat.le_of_ble_eq_true rfl, xbf rfl, ix_cd_ok xc_390_ok (xg_no _ _)⟩
theorem xmk_391 : xmkP xm_391 :=
  ⟨rfl, xcw_12.1, xcw_12.2.1, xTs_at (k := 12) (i := 88) rfl rfl, xcw_12.2.2, Nat.le_of_ble_eq_true rfl, xbf rfl, ix_cd_ok xc_391_ok (xg_no _ _)⟩
theorem xmk_392 : xmkP xm_392 :=
  ⟨rfl, xcw_12.1, xcw_12.2.1, xTs_at (k := 12) (i := 71) rfl rfl, xcw_12.2.2, Nat.le_of_ble_eq_true rfl, xbf rfl, ix_cd_ok xc_392_ok (xg_no _ _)⟩
theorem xmk_393 : xmkP xm_393 :=
  ⟨rfl, xcw_12.1, xcw_12.2.1, xTs_at (k := 12) (i := 75) rfl rfl, xcw_12.2.2, Nat.le_of_ble_eq_true rfl, xbf rfl, ix_cd_ok xc_393_ok (xg_no _ _)⟩
theorem xmk_394 : xmkP xm_394 :=
  ⟨rfl, xcw_12.1, xcw_12.2.1, xTs_at (k := 12) (i := 62) rfl rfl, xcw_12.2.2, Nat.le_of_ble_eq_true rfl, xbf rfl, ix_cd_ok xc_394_ok (xg_no _ _)⟩
theorem xmk_395 : xmkP xm_395 :=
  ⟨rfl, xcw_12.1, xcw_12.2.1, xTs_at (k := 12) (i := 104) rfl rfl, xcw_12.2.2, Nat.le_of_ble_eq_true rfl, xbf rfl, ix_cd_ok xc_395_ok (xg_no _ _)⟩
theorem xmk_396 : xmkP xm_396 :=
  ⟨rfl, xcw_12.1, xcw_12.2.1, xTs_at (k := 12) (i := 112) rfl rfl, xcw_12.2.2, Nat.le_of_ble_eq_true rfl, xbf rfl, ix_cd_ok xc_396_ok (xg_no _ _)⟩
theorem xmk_397 : xmkP xm_397 :=
  ⟨rfl, xcw_12.1, xcw_12.2.1, xTs_at (k := 12) (i := 116) rfl rfl, xcw_12.2.2, Nat.le_of_ble_eq_true rfl, xbf rfl, ix_cd_ok xc_397_ok (xg_no _ _)⟩
theorem xmk_398 : xmkP xm_398 :=
  ⟨rfl, xcw_12.1, xcw_12.2.1, xTs_at (k := 12) (i := 125) rfl rfl, xcw_12.2.2, Nat.le_of_ble_eq_true rfl, xbf rfl, ix_cd_ok xc_398_ok (xg_no _ _)⟩
theorem xmk_399 : xmkP xm_399 :=
  ⟨rfl, xcw_12.1, xcw_12.2.1, xTs_at (k := 12) (i := 120) rfl rfl, xcw_12.2.2, Nat.le_of_ble_eq_true rfl, xbf rfl, ix_cd_ok xc_399_ok (xg_no _ _)⟩
theorem xmk_400 : xmkP xm_400 :=
  ⟨rfl, xcw_12.1, xcw_12.2.1, xTs_at (k := 12) (i := 129) rfl rfl, xcw_12.2.2, Nat.le_of_ble_eq_true rfl, xbf rfl, ix_cd_ok xc_400_ok (xg_no _ _)⟩
theorem xmk_401 : xmkP xm_401 :=
  ⟨rfl, xcw_12.1, xcw_12.2.1, xTs_at (k := 12) (i := 134) rfl rfl, xcw_12.2.2, Nat.le_of_ble_eq_true rfl, xbf rfl, ix_cd_ok xc_401_ok (xg_no _ _)⟩
theorem xmk_402 : xmkP xm_402 :=
  ⟨rfl, xcw_12.1, xcw_12.2.1, xTs_at (k := 12) (i := 142) rfl rfl, xcw_12.2.2, Nat.le_of_ble_eq_true rfl, xbf rfl, ix_cd_ok xc_402_ok (xg_no _ _)⟩
theorem xmk_403 : xmkP xm_403 :=
  ⟨rfl, xcw_12.1, xcw_12.2.1, xTs_at (k := 12) (i := 146) rfl rfl, xcw_12.2.2, Nat.le_of_ble_eq_true rfl, xbf rfl, ix_cd_ok xc_403_ok (xg_no _ _)⟩
theorem xmk_404 : xmkP xm_404 :=
  ⟨rfl, xcw_12.1, xcw_12.2.1, xTs_at (k := 12) (i := 150) rfl rfl, xcw_12.2.2, Nat.le_of_ble_eq_true rfl, xbf rfl, ix_cd_ok xc_404_ok (xg_no _ _)⟩
theorem xmk_405 : xmkP xm_405 :=
  ⟨rfl, xcw_12.1, xcw_12.2.1, xTs_at (k := 12) (i := 154) rfl rfl, xcw_12.2.2, Nat.le_of_ble_eq_true rfl, xbf rfl, ix_cd_ok xc_405_ok (xg_no _ _)⟩
theorem xmk_406 : xmkP xm_406 :=
  ⟨rfl, xcw_12.1, xcw_12.2.1, xTs_at (k := 12) (i := 158) rfl rfl, xcw_12.2.2, Nat.le_of_ble_eq_true rfl, xbf rfl, ix_cd_ok xc_406_ok (xg_no _ _)⟩
theorem xmk_407 : xmkP xm_407 :=
  ⟨rfl, xcw_13.1, xcw_13.2.1, xTs_at (k := 5) (i := 109) rfl rfl, xcw_13.2.2, Nat.le_of_ble_eq_true rfl, xbf rfl, ix_cd_ok xc_407_ok (xg_no _ _)⟩
theorem xmk_408 : xmkP xm_408 :=
  ⟨rfl, xcw_13.1, xcw_13.2.1, xTs_at (k := 5) (i := 119) rfl rfl, xcw_13.2.2, Nat.le_of_ble_eq_true rfl, xbf rfl, ix_cd_ok xc_408_ok (xg_no _ _)⟩
theorem xmk_409 : xmkP xm_409 :=
  ⟨rfl, xcw_13.1, xcw_13.2.1, xTs_at (k := 5) (i := 167) rfl rfl, xcw_13.2.2, Nat.le_of_ble_eq_true rfl, xbf rfl, ix_cd_ok xc_409_ok (xg_no _ _)⟩
theorem xmk_410 : xmkP xm_410 :=
  ⟨rfl, xcw_13.1, xcw_13.2.1, xTs_at (k := 5) (i := 171) rfl rfl, xcw_13.2.2, Nat.le_of_ble_eq_true rfl, xbf rfl, ix_cd_ok xc_410_ok (xg_no _ _)⟩
theorem xmk_411 : xmkP xm_411 :=
  ⟨rfl, xcw_13.1, xcw_13.2.1, xTs_at (k := 5) (i := 113) rfl rfl, xcw_13.2.2, Nat.le_of_ble_eq_true rfl, xbf rfl, ix_cd_ok xc_411_ok (xg_no _ _)⟩
theorem xmk_412 : xmkP xm_412 :=
  ⟨rfl, xcw_13.1, xcw_13.2.1, xTs_at (k := 5) (i := 123) rfl rfl, xcw_13.2.2, Nat.le_of_ble_eq_true rfl, xbf rfl, ix_cd_ok xc_412_ok (xg_no _ _)⟩
theorem xmk_413 : xmkP xm_413 :=
  ⟨rfl, xcw_13.1, xcw_13.2.1, xTs_at (k := 5) (i := 129) rfl rfl, xcw_13.2.2, Nat.le_of_ble_eq_true rfl, xbf rfl, ix_cd_ok xc_413_ok (xg_no _ _)⟩
theorem xmk_414 : xmkP xm_414 :=
  ⟨rfl, xcw_14.1, xcw_14.2.1, xTs_at (k := 5) (i := 126) rfl rfl, xcw_14.2.2, Nat.le_of_ble_eq_true rfl, xbf rfl, ix_cd_ok xc_414_ok (xg_no _ _)⟩
theorem xmk_415 : xmkP xm_415 :=
  ⟨rfl, xcw_14.1, xcw_14.2.1, xTs_at (k := 5) (i := 178) rfl rfl, xcw_14.2.2, Nat.le_of_ble_eq_true rfl, xbf rfl, ix_cd_ok xc_415_ok (xg_no _ _)⟩
theorem xmk_416 : xmkP xm_416 :=
  ⟨rfl, xcw_14.1, xcw_14.2.1, xTs_at (k := 5) (i := 175) rfl rfl, xcw_14.2.2, Nat.le_of_ble_eq_true rfl, xbf rfl, ix_cd_ok xc_416_ok (xg_no _ _)⟩
theorem xmk_417 : xmkP xm_417 :=
  ⟨rfl, xcw_14.1, xcw_14.2.1, xTs_at (k := 5) (i := 183) rfl rfl, xcw_14.2.2, Nat.le_of_ble_eq_true rfl, xbf rfl, ix_cd_ok xc_417_ok (xg_no _ _)⟩
theorem xmk_418 : xmkP xm_418 :=
  ⟨rfl, xcw_15.1, xcw_15.2.1, xTs_at (k := 5) (i := 134) rfl rfl, xcw_15.2.2, Nat.le_of_ble_eq_true rfl, xbf rfl, ix_cd_ok xc_418_ok (xg_no _ _)⟩
end
