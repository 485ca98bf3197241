section
theorem xmks_360 : ∀ (k : Nat) (M : ix_M), 360 ≤ k → k < 380 → xT_M k = some M → xmkP M := by
  intro k M h1 h2 h
  obtain ⟨j, rfl⟩ : ∃ j, k = 360 + j := ⟨k - 360, by omega⟩
  rcases (show j = 0 ∨ j = 1 ∨ j = 2 ∨ j = 3 ∨ j = 4 ∨ j = 5 ∨ j = 6 ∨ j = 7 ∨ j = 8 ∨ j = 9 ∨ j = 10 ∨ j = 11 ∨ j = 12 ∨ j = 13 ∨ j = 14 ∨ j = 15 ∨ j = 16 ∨ j = 17 ∨ j = 18 ∨ j = 19 by omega) with rfl | rfl | rfl | rfl | rfl | rfl | rfl | rfl | rfl | rfl | rfl | rfl | rfl | rfl | rfl | rfl | rfl | rfl | rfl | rfl
  · have e : M = xm_360 := (Option.some.inj (h.symm.trans (show xT_M (360 + 0) = some xm_360 from rfl)))
    rw [e]; exact xmk_360
  · have e : M = xm_361 := (Option.some.inj (h.symm.trans (show xT_M (360 + 1) = some xm_361 from rfl)))
    rw [e]; exact xmk_361
  · have e : M = xm_362 := (Option.some.inj (h.symm.trans (show xT_M (360 + 2) = some xm_362 from rfl)))
    rw [e]; exact xmk_362
  · have e : M = xm_363 := (Option.some.inj (h.symm.trans (show xT_M (360 + 3) = some xm_363 from rfl)))
    rw [e]; exact xmk_363
  · have e : M = xm_364 := (Option.some.inj (h.symm.trans (show xT_M (360 + 4) = some xm_364 from rfl)))
    rw [e]; exact xmk_364
  · have e : M = xm_365 := (Option.some.inj (h.symm.trans (show xT_M (360 + 5) = some xm_365 from rfl)))
    rw [e]; exact xmk_365
  · have e : M = xm_366 := (Option.some.inj (h.symm.trans (show xT_M (360 + 6) = some xm_366 from rfl)))
    rw [e]; exact xmk_366
  · have e : M = xm_367 := (Option.some.inj (h.symm.trans (show xT_M (360 + 7) = some xm_367 from rfl)))
    rw [e]; exact xmk_367
  · have e : M = xm_368 := (Option.some.inj (h.symm.trans (show xT_M (360 + 8) = some xm_368 from rfl)))
    rw [e]; exact xmk_368
  · have e : M = xm_369 := (Option.some.inj (h.symm.trans (show xT_M (360 + 9) = some xm_369 from rfl)))
    rw [e]; exact xmk_369
  · have e : M = xm_370 := (Option.some.inj (h.symm.trans (show xT_M (360 + 10) = some xm_370 from rfl)))
    rw [e]; exact xmk_370
  · have e : M = xm_371 := (Option.some.inj (h.symm.trans (show xT_M (360 + 11) = some xm_371 from rfl)))
    rw [e]; exact xmk_371
  · have e : M = xm_372 := (Option.some.inj (h.symm.trans (show xT_M (360 + 12) = some xm_372 from rfl)))
    rw [e]; exact xmk_372
  · have e : M = xm_373 := (Option.some.inj (h.symm.trans (show xT_M (360 + 13) = some xm_373 from rfl)))
    rw [e]; exact xmk_373
  · have e : M = xm_374 := (Option.some.inj (h.symm.trans (show xT_M (360 + 14) = some xm_374 from rfl)))
    rw [e]; exact xmk_374
  · have e : M = xm_375 := (Option.some.inj (h.symm.trans (show xT_M (360 + 15) = some xm_375 from rfl)))
    rw [e]; exact xmk_375
  · have e : M = xm_376 := (Option.some.inj (h.symm.trans (show xT_M (360 + 16) = some xm_376 from rfl)))
    rw [e]; exact xmk_376
  · have e : M = xm_377 := (Option.some.inj (h.symm.trans (show xT_M (360 + 17) = some xm_377 from rfl)))
    rw [e]; exact xmk_377
  · have e : M = xm_378 := (Option.some.inj (h.symm.trans (show xT_M (360 + 18) = some xm_378 from rfl)))
    rw [e]; exact xmk_378
  · have e : M = xm_379 := (Option.some.inj (h.symm.trans (show xT_M (360 + 19) = some xm_379 from rfl)))
    rw [e]; exact xmk_379
theorem xmks_380 : ∀ (k : Nat) (M : ix_M), 380 ≤ k → k < 400 → xT_M k = some M → xmkP M := by
  intro k M h1 h2 h
  obtain ⟨j, rfl⟩ : ∃ j, k = 380 + j := ⟨k - 380, by omega⟩
  rcases (show j = 0 ∨ j = 1 ∨ j = 2 ∨ j = 3 ∨ j = 4 ∨ j = 5 ∨ j = 6 ∨ j = 7 ∨ j = 8 ∨ j = 9 ∨ j = 10 ∨ j = 11 ∨ j = 12 ∨ j = 13 ∨ j = 14 ∨ j = 15 ∨ j = 16 ∨ j = 17 ∨ j = 18 ∨ j = 19 by omega) with rfl | rfl | rfl | rfl | rfl | rfl | rfl | rfl | rfl | rfl | rfl | rfl | rfl | rfl | rfl | rfl | rfl | rfl | rfl | rfl
  · have e : M = xm_380 := (Option.some.inj (h.symm.trans (show xT_M (380 + 0) = some xm_380 from rfl)))
    rw [e]; exact xmk_380
  · have e : M = xm_381 := (Option.some.inj (h.symm.trans (show xT_M (380 + 1) = some xm_381 from rfl)))
    rw [e]; exact xmk_381
  · have e : M = xm_382 := (Option.some.inj (h.symm.trans (show xT_M (380 + 2) = some xm_382 from rfl)))
    rw [e]; exact xmk_382
  · have e : M = xm_383 := (Option.some.inj (h.symm.trans (show xT_M (380 + 3) = some xm_383 from rfl)))
    rw [e]; exact xmk_383
  · have e : M = xm_384 := (Option.some.inj (h.symm.trans (show xT_M (380 + 4) = some xm_384 from rfl)))
    rw [e]; exact xmk_384
  · have e : M = xm_385 := (Option.some.inj (h.symm.trans (show xT_M (380 + 5) = some xm_385 from rfl)))
    rw [e]; exact xmk_385
  · have e : M = xm_386 := (Option.some.inj (h.symm.trans (show xT_M (380 + 6) = some xm_386 from rfl)))
    rw [e]; exact xmk_386
  · have e : M = xm_387 := (Option.some.inj (h.symm.trans (show xT_M (380 + 7) = some xm_387 from rfl)))
    rw [e]; exact xmk_387
  · have e : M = xm_388 := (Option.some.inj (h.symm.trans (show xT_M (380 + 8) = some xm_388 from rfl)))
    rw [e]; exact xmk_388
  · have e : M = xm_389 := (Option.some.inj (h.symm.trans (show xT_M (380 + 9) = some xm_389 from rfl)))
    rw [e]; exact xmk_389
  · have e : M = xm_390 := (Option.some.inj (h.symm.trans (show xT_M (380 + 10) = some xm_390 from rfl)))
    rw [e]; exact xmk_390
  · have e : M = xm_391 := (Option.some.inj (h.symm.trans (show xT_M (380 + 11) = some xm_391 from rfl)))
    rw [e]; exact xmk_391
  · have e : M = xm_392 := (Option.some.inj (h.symm.trans (show xT_M (380 + 12) = some xm_392 from rfl)))
    rw [e]; exact xmk_392
  · have e : M = xm_393 := (Option.some.inj (h.symm.trans (show xT_M (380 + 13) = some xm_393 from rfl)))
    rw [e]; exact xmk_393
  · have e : M = xm_394 := (Option.some.inj (h.symm.trans (show xT_M (380 + 14) = some xm_394 from rfl)))
    rw [e]; exact xmk_394
  · have e : M = xm_395 := (Option.some.inj (h.symm.trans (show xT_M (380 + 15) = some xm_395 from rfl)))
    rw [e]; exact xmk_395
  · have e : M = xm_396 := (Option.some.inj (h.symm.trans (show xT_M (380 + 16) = some xm_396 from rfl)))
    rw [e]; exact xmk_396
  · have e : M = xm_397 := (Option.some.inj (h.symm.trans (show xT_M (380 + 17) = some xm_397 from rfl)))
    rw [e]; exact xmk_397
  · have e : M = xm_398 := (Option.some.inj (h.symm.trans (show xT_M (380 + 18) = some xm_398 from rfl)))
    rw [e]; exact xmk_398
  · have e : M = xm_399 := (Option.some.inj (h.symm.trans (show xT_M (380 + 19) = some xm_399 from rfl)))
    rw [e]; exact xmk_399
theorem xmks_400 : ∀ (k : Nat) (M : ix_M), 400 ≤ k → k < 419 → xT_M k = some M → xmkP M := by
  intro k M h1 h2 h
  obtain ⟨j, rfl⟩ : ∃ j, k = 400 + j := ⟨k - 400, by omega⟩
  rcases (show j = 0 ∨ j = 1 ∨ j = 2 ∨ j = 3 ∨ j = 4 ∨ j = 5 ∨ j = 6 ∨ j = 7 ∨ j = 8 ∨ j = 9 ∨ j = 10 ∨ j = 11 ∨ j = 12 ∨ j = 13 ∨ j = 14 ∨ j = 15 ∨ j = 16 ∨ j = 17 ∨ j = 18 by omega) with rfl | rfl | rfl | rfl | rfl | rfl | rfl | rfl | rfl | rfl | rfl | rfl | rfl | rfl | rfl | rfl | rfl | rfl | rfl
  · have e : M = xm_400 := (Option.some.inj (h.symm.trans (show xT_M (400 + 0) = some xm_400 from rfl)))
    rw [e]; exact xmk_400
  · have e : M = xm_401 := (Option.some.inj (h.symm.trans (show xT_M (400 + 1) = some xm_401 from rfl)))
    rw [e]; exact xmk_401
  · have e : M = xm_402 := (Option.some.inj (h.symm.trans (show xT_M (400 + 2) = some xm_402 from rfl)))
    rw [e]; exact xmk_402
  · have e : M = xm_403 := (Option.some.inj (h.symm.trans (show xT_M (400 + 3) = some xm_403 from rfl)))
    rw [e]; exact xmk_403
  · have e : M = xm_404 := (Option.some.inj (h.symm.trans (show xT_M (400 + 4) = some xm_404 from rfl)))
    rw [e]; exact xmk_404
  · have e : M = xm_405 := (Option.some.inj (h.symm.trans (show xT_M (400 + 5) = some xm_405 from rfl)))
    rw [e]; exact xmk_405
  · have e : M = xm_406 := (Option.some.inj (h.symm.trans (show xT_M (400 + 6) = some xm_406 from rfl)))
    rw [e]; exact xmk_406
  · have e : M = xm_407 := (Option.some.inj (h.symm.trans (show xT_M (400 + 7) = some xm_407 from rfl)))
    rw [e]; exact xmk_407
  · have e : M = xm_408 := (Option.some.inj (h.symm.trans (show xT_M (400 + 8) = some xm_408 from rfl)))
    rw [e]; exact xmk_408
  · have e : M = xm_409 := (Option.some.inj (h.symm.trans (show xT_M (400 + 9) = some xm_409 from rfl)))
    rw [e]; exact xmk_409
  · have e : M = xm_410 := (Option.some.inj (h.symm.trans (show xT_M (400 + 10) = some xm_410 from rfl)))
    rw [e]; exact xmk_410
  · have e : M = xm_411 := (Option.some.inj (h.symm.trans (show xT_M (400 + 11) = some xm_411 from rfl)))
    rw [e]; exact xmk_411
  · have e : M = xm_412 := (Option.some.inj (h.symm.trans (show xT_M (400 + 12) = some xm_412 from rfl)))
    rw [e]; exact xmk_412
  · have e : M = xm_413 := (Option.some.inj (h.symm.trans (show xT_M (400 + 13) = some xm_413 from rfl)))
    rw [e]; exact xmk_413
  · have e : M = xm_414 := (Option.some.inj (h.symm.trans (show xT_M (400 + 14) = some xm_414 from rfl)))
    rw [e]; exact xmk_414
  · have e : M = xm_415 := (Option.some.inj (h.symm.trans (show xT_M (400 + 15) = some xm_415 from rfl)))
    rw [e]; exact xmk_415
  · have e : M = xm_416 := (Option.some.inj (h.symm.trans (show xT_M (400 + 16) = some xm_416 from rfl)))
    rw [e]; exact xmk_416
  · have e : M = xm_417 := (Option.some.inj (h.symm.trans (show xT_M (400 + 17) = some xm_417 from rfl)))
    rw [e]; exact xmk_417
  · have e : M = xm_418 := (Option.some.inj (h.symm.trans (show xT_M (400 + 18) = some xm_418 from rfl)))
    rw [e]; exact xmk_418
theorem xok_M (A : Nat → Option (Nat × (Nat → Int32))) : ix_okM (xT A) xon xTs := by
  intro mid M h
  have h : xT_M mid = some M := h
  have hn : mid < 419 := by
    unfold xT_M at h
    cases hb : Nat.blt mid 419 with
    | false => rw [hb] at h; cases h
    | true => exact Nat.blt_eq.mp hb
  by_cases h0 : mid < 20
  · exact xmks_0 mid M (by omega) h0 h
  by_cases h20 : mid < 40
  · exact xmks_20 mid M (by omega) h20 h
  by_cases h40 : mid < 60
  · exact xmks_40 mid M (by omega) h40 h
  by_cases h60 : mid < 80
  · exact xmks_60 mid M (by omega) h60 h
  by_cases h80 : mid < 100
  · exact xmks_80 mid M (by omega) h80 h
  by_cases h100 : mid < 120
  · exact xmks_100 mid M (by omega) h100 h
  by_cases h120 : mid < 140
  · exact xmks_120 mid M (by omega) h120 h
  by_cases h140 : mid < 160
  · exact xmks_140 mid M (by omega) h140 h
  by_cases h160 : mid < 180
  · exact xmks_160 mid M (by omega) h160 h
  by_cases h180 : mid < 200
  · exact xmks_180 mid M (by omega) h180 h
  by_cases h200 : mid < 220
  · exact xmks_200 mid M (by omega) h200 h
  by_cases h220 : mid < 240
  · exact xmks_220 mid M (by omega) h220 h
  by_cases h240 : mid < 260
  · exact xmks_240 mid M (by omega) h240 h
  by_cases h260 : mid < 280
  · exact xmks_260 mid M (by omega) h260 h
  by_cases h280 : mid < 300
  · exact xmks_280 mid M (by omega) h280 h
  by_cases h300 : mid < 320
  · exact xmks_300 mid M (by omega) h300 h
  by_cases h320 : mid < 340
  · exact xmks_320 mid M (by omega) h320 h
  by_cases h340 : mid < 360
  · exact xmks_340 mid M (by omega) h340 h
  by_cases h360 : mid < 380
  · exact xmks_360 mid M (by omega) h360 h
  by_cases h380 : mid < 400
  · exact xmks_380 mid M (by omega) h380 h
  by_cases h400 : mid < 419
  · exact xmks_400 mid M (by omega) h400 h
  · omega
theorem xok (A : Nat → Option (Nat × (Nat → Int32))) : ix_okT (xT A) xcl xon xTs xNs := ⟨xok_F A, xok_D A, xok_C A, xok_K A, xok_I A, xok_M A, xTs_good⟩
noncomputable def xpN (c : String) (idx : Nat) : Option (Nat × Nat) := match ([("PacketWall", 21, 1, 33), ("PacketWall$Headers", 23, 1, 39), ("PacketWall", 35, 1, 103), ("PacketWall$Flows", 20, 1, 162), ("PacketWall", 52, 2, 19), ("PacketWall$Parser", 17, 2, 25), ("PacketWall$Machine", 19, 2, 111), ("PacketWall$Machine", 26, 2, 145), ("PacketWall$Machine", 47, 2, 149), ("PacketWall$Machine", 52, 2, 151), ("PacketWall$Machine", 53, 2, 175), ("PacketWall$Frame", 9, 2, 180), ("PacketWall", 73, 3, 20), ("PacketWall$Headers", 78, 3, 138), ("PacketWall$Packet", 19, 3, 164), ("PacketWall$Headers", 74, 3, 214), ("PacketWall$Headers", 82, 3, 238), ("PacketWall$Headers", 122, 4, 7), ("PacketWall$Headers", 132, 4, 22), ("PacketWall$Headers", 140, 4, 38), ("PacketWall$Gathering", 130, 4, 161), ("PacketWall$Gathering", 134, 4, 162), ("PacketWall$Gathering", 138, 4, 163), ("PacketWall$Flows", 168, 4, 197), ("PacketWall$Flows", 178, 4, 203), ("PacketWall$Flows", 119, 5, 79), ("PacketWall$Row", 56, 7, 107), ("PacketWall$Flow", 104, 7, 191), ("PacketWall$Flow", 108, 7, 192), ("PacketWall$Flow", 112, 7, 193), ("PacketWall$Flow", 116, 7, 206)] : List (String × Nat × Nat × Nat)).find? (fun q => q.1 == c && q.2.1 == idx) with
  | some q => some (q.2.2.1, q.2.2.2)
  | none => none
theorem xw_o3 : Cond.arrayOver (.object "PacketWall$Packet") ∈ lw_tbl := xW_in 1 _ (List.mem_of_getElem? (i := 30) (by decide +kernel))
theorem xw_o4 : Cond.arrayOver (.object "PacketWall$Gathering") ∈ lw_tbl := xW_in 1 _ (List.mem_of_getElem? (i := 101) (by decide +kernel))
theorem xw_o5 : Cond.arrayOver (.object "PacketWall$Flow") ∈ lw_tbl := xW_in 1 _ (List.mem_of_getElem? (i := 160) (by decide +kernel))
theorem xw_o6 : Cond.arrayOver (.object "PacketWall$Row") ∈ lw_tbl := xW_in 2 _ (List.mem_of_getElem? (i := 108) (by decide +kernel))
theorem xw_o7 : Cond.arrayOver (.object "PacketWall$Frame") ∈ lw_tbl := xW_in 2 _ (List.mem_of_getElem? (i := 147) (by decide +kernel))
theorem xw_a0 : Cond.arrayClass .int ∈ xTs := xat_ok (q := some (1, 64)) (by decide +kernel) rfl
theorem xw_a1 : Cond.arrayClass .long ∈ xTs := xat_ok (q := some (1, 226)) (by decide +kernel) rfl
theorem xw_a2 : Cond.arrayClass .boolean ∈ xTs := xat_ok (q := some (1, 227)) (by decide +kernel) rfl
end
section
-- ===== end of PART A; then your names; then what follows =====
/-! THE CLAIM OUT OF ONE WALK OF THE LAW'S BODY. Your part is whole_start (and what it stands on); all else here is the same for every law, but numbers. -/
noncomputable def R_law : String := "PacketWallLaw"
noncomputable def lw_P (b : Addr) (xs : List Int32) (args : Array Value) (s : State) : Prop := args = #[.ref b] ∧ s.IntsAt b xs ∧ xs.length ≤ 3072 ∧ (Jvm.Cond.and given_1 narrow_1).before args s = true
noncomputable def lw_Q (_ : Array Value) (s : State) (o : Outcome) (t : State) : Prop := o = .returned (some (.int 1)) ∧ Framed s o t [] 600000 7302250
noncomputable def lw_Z (below : List Frame) (a : Array Value) (s : State) : State → Prop := fun t => ∃ o, t.status = .running ∧ Ended t below o ∧ lw_Q a s o t
/-- the law's own end, with 1 on the stack, nothing written that was there before, its room as the claim has it -/
theorem lw_ret {p : Program} {l : Launch} {e : Env} {s : State} {m : MethodId} {below : List Frame} {meth : Method} {c : Code} {b : Nat} (hx : p.tables.exec = Jvm.exec) (hb : c.code = code) (hr : meth.sig.returnType = ret) (hlocks : meth.locks = false) {pc : Nat} {H : Heap} {ls : Array Slot} (hdg : decode code pc = .ok (.ireturn, 1)) : W p l e room_1 s m #[Value.ref b] below meth c H [] 600000 7302250 (lw_Z below #[Value.ref b] s) (F0 m pc ls [.int 1]) := by
  intro T hT X
  obtain ⟨fs, hret, hrun, hended, hW, hframe⟩ := X.leave (v := some (.int 1)) (hlocks := hlocks) (fun h => by rw [hr] at h; cases h)
  have hmeth' : T.vm.method? m = some meth := X.method'
  refine ⟨T.setFrames fs, ?_, .returned (some (.int 1)), hrun, hended, rfl, ⟨_, rfl⟩, hW, hframe⟩
  jvm_step X.here [X.here.top, hx, hb, hdg, hmeth', hr, ret, narrow_b1]
  (try refine ⟨rfl, ?_⟩); (try refine ⟨rfl, ?_⟩)
  first | (intro acts; rw [hret _ acts rfl rfl rfl]) | rw [hret _ _ rfl rfl rfl]
  exact Steps.refl _
/-- what holds at the law's entry: the machine, the code, the tables' words (any of lw_tbl by 'hts w (by decide +kernel)'), the script of L ints xs at the cell b, what the Statement gives of the start (any of its parts by flat_of_before) -/
noncomputable def lw_At (p : Program) (s : State) (m : MethodId) (meth : Method) (c : Code) (b L : Nat) (xs : Nat → Int32) : Prop :=
  p.tables.exec = Jvm.exec ∧ c.code = code ∧ meth.sig.returnType = ret ∧ c.maxLocals = 4 ∧ s.vm.findClass R_law = some m.cls ∧ (∀ w ∈ lw_tbl, w.before #[Value.ref b] s = true) ∧ va_X b L xs s s.heap ∧ b < s.heap.size ∧ meth.locks = false ∧ (Jvm.Cond.and given_1 narrow_1).before #[Value.ref b] s = true

/-! ===== what the start gives of static rows and Strings ===== -/
noncomputable def xeatL : List Cond → List Cond → List Cond
  | [], ws => ws
  | _ :: _, [] => []
  | c :: cs, w :: r => bif decide (c = w) then xeatL cs r else xeatL cs (w :: r)
theorem xeatL_ok : ∀ (cs ws : List Cond), ∀ w ∈ ws, w ∈ xeatL cs ws ∨ w ∈ cs
  | [], ws, w, h => Or.inl h
  | _ :: _, [], w, h => by cases h
  | c :: cs, v :: r, w, h => by
    unfold xeatL
    cases hd : decide (c = v) with
    | true =>
      have e : c = v := of_decide_eq_true hd
      rcases List.mem_cons.mp h with rfl | h
      · exact Or.inr (by rw [e]; exact List.mem_cons_self)
      · exact (xeatL_ok cs r w h).imp id (fun q => List.mem_cons_of_mem _ q)
    | false => exact (xeatL_ok cs (v :: r) w h).imp id (fun q => List.mem_cons_of_mem _ q)
noncomputable def xwStat (C n : String) (v : List Int32) : List Cond := Cond.arrayOf (.static C n "[I") .int :: Cond.eq (.length (.static C n "[I")) (.int (Int32.ofNat v.length)) :: (List.range v.length).map (fun j => Cond.eq (.elem (.static C n "[I") (.int (Int32.ofNat j))) (.int (v.getD j 0)))
noncomputable def xwStr (C : String) (k : Nat) (v : List Int32) : List Cond := Cond.exactly (.string C k) "java/lang/String" :: Cond.eq (.field (.string C k) "java/lang/String" "coder" "B") (.int 0) :: Cond.arrayOf (.field (.string C k) "java/lang/String" "value" "[B") .byte :: Cond.eq (.length (.field (.string C k) "java/lang/String" "value" "[B")) (.int (Int32.ofNat v.length)) :: (List.range v.length).map (fun j => Cond.eq (.elem (.field (.string C k) "java/lang/String" "value" "[B") (.int (Int32.ofNat j))) (.int (v.getD j 0)))
noncomputable def xwant : List Cond := xwStat "PacketWall$Headers" "LEAST" xv_1 ++ xwStat "PacketWall$Headers" "FIELD_COUNTS" xv_2 ++ xwStat "PacketWall$Headers" "FIRST_FORM" xv_3 ++ xwStat "PacketWall$Headers" "FORMS" xv_4 ++ xwStat "PacketWall$Flow" "NEXT_STATES" xv_5 ++ xwStat "PacketWall$Flow" "STREAM_LIVES" xv_6 ++ [Cond.eq (.static "java/lang/String" "COMPACT_STRINGS" "Z") (.int 1), Cond.isRef (.static "jdk/internal/util/Preconditions" "SIOOBE_FORMATTER" "Ljava/util/function/BiFunction;")] ++ xwStat "PacketWall$Headers" "NET_IN_SIX" xv_7 ++ xwStat "PacketWall$Headers" "NET_IN_FOUR" xv_8 ++ xwStr "PacketWall$Parser" 209 xs_0 ++ xwStr "PacketWall$Parser" 217 xs_1 ++ xwStr "PacketWall$Parser" 173 xs_2 ++ xwStr "PacketWall$Parser" 175 xs_3 ++ xwStr "PacketWall$Parser" 177 xs_4 ++ xwStr "PacketWall$Parser" 179 xs_5 ++ xwStr "PacketWall$Parser" 181 xs_6 ++ xwStr "PacketWall$Parser" 183 xs_7 ++ xwStr "PacketWall$Parser" 185 xs_8 ++ xwStr "PacketWall$Parser" 187 xs_9 ++ xwStr "PacketWall$Parser" 189 xs_10 ++ xwStr "PacketWall$Parser" 191 xs_11 ++ xwStr "PacketWall$Parser" 193 xs_12 ++ xwStr "PacketWall$Parser" 195 xs_13 ++ xwStr "PacketWall$Parser" 197 xs_14 ++ xwStr "PacketWall$Parser" 199 xs_15
set_option maxRecDepth 100000 in
theorem xwant_eat : xeatL (flatC narrow_1) xwant = [] := by decide +kernel
theorem xwant_ok {args : Array Value} {s : State} (h : (Jvm.Cond.and given_1 narrow_1).before args s = true) : ∀ w ∈ xwant, w.before args s = true := by
  rw [Cond.before_and, Bool.and_eq_true] at h
  intro w hw
  rcases xeatL_ok (flatC narrow_1) xwant w hw with q | q
  · rw [xwant_eat] at q; cases q
  · exact flat_of_before _ h.2 w q
end

