noncomputable def xpM_9_0 (k : Nat) : Option (Option (Nat × Nat) × Option (Nat × Nat) × Option (Nat × Nat) × Option (Nat × Nat)) := bif Nat.blt k 382 then (bif Nat.blt k 380 then (bif Nat.blt k 379 then (bif Nat.beq k 378 then some ((some (12, 137), some (0, 208), none, some (1, 13))) else none) else (bif Nat.beq k 379 then some ((some (12, 21), some (12, 22), none, some (1, 13))) else none)) else (bif Nat.blt k 381 then (bif Nat.beq k 380 then some ((some (12, 34), some (0, 184), none, some (1, 13))) else none) else (bif Nat.beq k 381 then some ((some (12, 38), some (0, 185), none, some (1, 13))) else none))) else (bif Nat.blt k 384 then (bif Nat.blt k 383 then (bif Nat.beq k 382 then some ((some (12, 99), some (0, 199), none, some (1, 13))) else none) else (bif Nat.beq k 383 then some ((some (12, 54), some (0, 189), none, some (1, 13))) else none)) else (bif Nat.blt k 385 then (bif Nat.beq k 384 then some ((none, none, some (12, 57), some (1, 13))) else none) else (bif Nat.blt k 386 then (bif Nat.beq k 385 then some ((some (12, 50), some (0, 188), none, some (1, 13))) else none) else (bif Nat.beq k 386 then some ((some (12, 65), some (0, 191), none, some (1, 13))) else none))))
noncomputable def xpM_9_1 (k : Nat) : Option (Option (Nat × Nat) × Option (Nat × Nat) × Option (Nat × Nat) × Option (Nat × Nat)) := bif Nat.blt k 391 then (bif Nat.blt k 389 then (bif Nat.blt k 388 then (bif Nat.beq k 387 then some ((some (12, 82), some (0, 195), none, some (1, 13))) else none) else (bif Nat.beq k 388 then some ((some (12, 91), some (0, 197), none, some (1, 13))) else none)) else (bif Nat.blt k 390 then (bif Nat.beq k 389 then some ((some (12, 95), some (0, 198), none, some (1, 13))) else none) else (bif Nat.beq k 390 then some ((some (12, 78), some (0, 194), none, some (1, 13))) else none))) else (bif Nat.blt k 393 then (bif Nat.blt k 392 then (bif Nat.beq k 391 then some ((some (12, 87), some (0, 196), none, some (1, 13))) else none) else (bif Nat.beq k 392 then some ((some (12, 70), some (0, 192), none, some (1, 13))) else none)) else (bif Nat.blt k 394 then (bif Nat.beq k 393 then some ((some (12, 74), some (0, 193), none, some (1, 13))) else none) else (bif Nat.blt k 395 then (bif Nat.beq k 394 then some ((some (12, 61), some (0, 190), none, some (1, 13))) else none) else (bif Nat.beq k 395 then some ((some (12, 103), some (0, 200), none, some (1, 13))) else none))))
noncomputable def xpM_9_2 (k : Nat) : Option (Option (Nat × Nat) × Option (Nat × Nat) × Option (Nat × Nat) × Option (Nat × Nat)) := bif Nat.blt k 400 then (bif Nat.blt k 398 then (bif Nat.blt k 397 then (bif Nat.beq k 396 then some ((some (12, 111), some (0, 202), none, some (1, 13))) else none) else (bif Nat.beq k 397 then some ((some (12, 115), some (0, 203), none, some (1, 13))) else none)) else (bif Nat.blt k 399 then (bif Nat.beq k 398 then some ((some (12, 124), some (0, 205), none, some (1, 13))) else none) else (bif Nat.beq k 399 then some ((some (12, 119), some (0, 204), none, some (1, 13))) else none))) else (bif Nat.blt k 402 then (bif Nat.blt k 401 then (bif Nat.beq k 400 then some ((some (12, 128), some (0, 206), none, some (1, 13))) else none) else (bif Nat.beq k 401 then some ((some (12, 133), some (0, 207), none, some (1, 13))) else none)) else (bif Nat.blt k 403 then (bif Nat.beq k 402 then some ((some (12, 140), some (12, 141), none, some (1, 13))) else none) else (bif Nat.blt k 404 then (bif Nat.beq k 403 then some ((some (12, 144), some (12, 145), none, some (1, 13))) else none) else (bif Nat.beq k 404 then some ((some (12, 148), some (12, 149), none, some (1, 13))) else none))))
noncomputable def xpM_9_3 (k : Nat) : Option (Option (Nat × Nat) × Option (Nat × Nat) × Option (Nat × Nat) × Option (Nat × Nat)) := bif Nat.blt k 409 then (bif Nat.blt k 407 then (bif Nat.blt k 406 then (bif Nat.beq k 405 then some ((some (12, 152), some (12, 153), none, some (1, 13))) else none) else (bif Nat.beq k 406 then some ((some (12, 156), some (12, 157), none, some (1, 13))) else none)) else (bif Nat.blt k 408 then (bif Nat.beq k 407 then some ((some (5, 107), some (5, 108), none, some (1, 16))) else none) else (bif Nat.beq k 408 then some ((some (5, 117), some (5, 118), none, some (1, 16))) else none))) else (bif Nat.blt k 411 then (bif Nat.blt k 410 then (bif Nat.beq k 409 then some ((some (5, 165), some (5, 166), none, some (1, 16))) else none) else (bif Nat.beq k 410 then some ((some (5, 169), some (5, 170), none, some (1, 16))) else none)) else (bif Nat.blt k 412 then (bif Nat.beq k 411 then some ((some (5, 111), some (5, 112), none, some (1, 16))) else none) else (bif Nat.blt k 413 then (bif Nat.beq k 412 then some ((some (5, 121), some (5, 122), none, some (1, 16))) else none) else (bif Nat.beq k 413 then some ((none, none, some (5, 128), some (1, 16))) else none))))
noncomputable def xpM_9_4 (k : Nat) : Option (Option (Nat × Nat) × Option (Nat × Nat) × Option (Nat × Nat) × Option (Nat × Nat)) := bif Nat.blt k 416 then (bif Nat.blt k 415 then (bif Nat.beq k 414 then some ((none, none, some (5, 125), some (1, 17))) else none) else (bif Nat.beq k 415 then some ((none, none, some (5, 177), some (1, 17))) else none)) else (bif Nat.blt k 417 then (bif Nat.beq k 416 then some ((none, none, some (5, 174), some (1, 17))) else none) else (bif Nat.blt k 418 then (bif Nat.beq k 417 then some ((none, none, some (5, 182), some (1, 17))) else none) else (bif Nat.beq k 418 then some ((none, none, some (5, 133), some (1, 18))) else none)))
noncomputable def xpM_9 (k : Nat) : Option (Option (Nat × Nat) × Option (Nat × Nat) × Option (Nat × Nat) × Option (Nat × Nat)) := bif Nat.blt k 396 then (bif Nat.blt k 387 then (xpM_9_0 k) else (xpM_9_1 k)) else (bif Nat.blt k 405 then (xpM_9_2 k) else (bif Nat.blt k 414 then (xpM_9_3 k) else (xpM_9_4 k)))
noncomputable def xpM (k : Nat) : Option (Option (Nat × Nat) × Option (Nat × Nat) × Option (Nat × Nat) × Option (Nat × Nat)) := bif Nat.blt k 210 then (bif Nat.blt k 84 then (bif Nat.blt k 42 then (xpM_0 k) else (xpM_1 k)) else (bif Nat.blt k 126 then (xpM_2 k) else (bif Nat.blt k 168 then (xpM_3 k) else (xpM_4 k)))) else (bif Nat.blt k 294 then (bif Nat.blt k 252 then (xpM_5 k) else (xpM_6 k)) else (bif Nat.blt k 336 then (xpM_7 k) else (bif Nat.blt k 378 then (xpM_8 k) else (xpM_9 k))))
noncomputable def xchkF (oc : Nat) : Bool := (List.range 1063).all (fun idx => match xT_F oc idx with
  | none => true
  | some (ci, j) => match xcl[ci]? with
    | some r => Nat.blt j r.2.2 && xat (xpF oc idx) (Cond.fieldLink (xon oc) idx r.1 (r.2.1 j).2.1 (r.2.1 j).2.2.1)
    | none => false)
noncomputable def xchkC (oc : Nat) : Bool := (List.range 1063).all (fun idx => match xT_C oc idx with
  | none => true
  | some (ci, t) => match xcl[ci]? with
    | some r => xat (xpC oc idx) (Cond.classLink (xon oc) idx r.1) && (Nat.beq t 0 || decide (xT_E t = some ci))
    | none => false)
noncomputable def xchkK (oc : Nat) : Bool := (List.range 1063).all (fun idx => match xT_K oc idx with
  | none => true
  | some (.int v) => xat (xpK oc idx) (Jvm.Cond.constant (xon oc) idx v)
  | some (.long v) => xat (xpK oc idx) (Jvm.Cond.constantLong (xon oc) idx v)
  | some (.ref _) => true
  | some _ => false)
/-- a method called in a way -/
noncomputable def xchkM (kd mid na oc idx : Nat) : Bool := match xT_M mid, xpM mid, xpI oc idx with
  | some M, some (pi, ps, pt, _), some q => decide ((parseMethodDescriptor M.2.1.desc).map (fun d => d.parameters.length) = some na) &&
    ((bif Nat.beq kd 1 || (Nat.beq kd 3 || Nat.beq kd 5) then xat (some q) (Cond.methodLink (xon oc) idx M.2.1) else decide (xNs[q.2]? = some (xon oc, idx, M.2.1))) &&
    (bif Nat.beq kd 1 || Nat.beq kd 2 then decide (M.2.1.name = "<init>") && (xat pi (Cond.instanceMethod M.2.1) && decide (M.2.2.2.2.1 = none))
    else bif Nat.beq kd 3 || Nat.beq kd 4 then xat pi (Cond.instanceMethod M.2.1) && (xat ps (Cond.selects M.2.1.cls M.2.1 M.2.1) && (match xcl[M.1]? with
      | some r => decide (r.1 = M.2.1.cls)
      | none => false))
    else xat pt (Cond.static M.2.1)))
  | _, _, _ => false
noncomputable def xchkI (oc : Nat) : Bool := (List.range 1063).all (fun idx => match xT_I oc idx with
  | none => true
  | some (kd, mid, na) => bif Nat.beq kd 0 then xat (xpI oc idx) (Cond.methodLink (xon oc) idx objectInit)
    else bif Nat.beq kd 7 then xat (xpI oc idx) (Cond.methodLink (xon oc) idx arraycopyName)
    else bif Nat.beq kd 9 then xat (xpI oc idx) (Cond.methodLink (xon oc) idx Lib.Math.min.name)
    else bif Nat.beq kd 10 then xat (xpI oc idx) (Cond.methodLink (xon oc) idx Lib.Math.max.name)
    else bif Nat.beq kd 11 then xat (xpI oc idx) (Cond.methodLink (xon oc) idx Lib.MathLoose.min_long.x)
    else bif Nat.beq kd 8 then (match xT_M mid, xpM mid with
      | some M, some (pi, ps, _, _) => decide ((parseMethodDescriptor M.2.1.desc).map (fun d => d.parameters.length) = some na) && (xat (xpI oc idx) (Cond.methodLink (xon oc) idx M.2.1) && (xat pi (Cond.instanceMethod M.2.1) && (xat ps (Cond.selects M.2.1.cls M.2.1 M.2.1) && decide (M.2.1.cls = "java/lang/String"))))
      | _, _ => false)
    else Nat.ble kd 6 && xchkM kd mid na oc idx)
theorem xchkF_0 : xchkF 0 = true := by decide +kernel
theorem xchkF_1 : xchkF 1 = true := by decide +kernel
theorem xchkF_2 : xchkF 2 = true := by decide +kernel
theorem xchkF_3 : xchkF 3 = true := by decide +kernel
theorem xchkF_4 : xchkF 4 = true := by decide +kernel
theorem xchkF_5 : xchkF 5 = true := by decide +kernel
theorem xchkF_6 : xchkF 6 = true := by decide +kernel
theorem xchkF_7 : xchkF 7 = true := by decide +kernel
theorem xchkF_8 : xchkF 8 = true := by decide +kernel
theorem xchkF_9 : xchkF 9 = true := by decide +kernel
theorem xchkF_10 : xchkF 10 = true := by decide +kernel
theorem xchkF_11 : xchkF 11 = true := by decide +kernel
theorem xchkF_12 : xchkF 12 = true := by decide +kernel
theorem xchkF_13 : xchkF 13 = true := by decide +kernel
theorem xchkF_14 : xchkF 14 = true := by decide +kernel
theorem xchkF_15 : xchkF 15 = true := by decide +kernel
theorem xchkF_16 : xchkF 16 = true := by decide +kernel
theorem xchkF_17 : xchkF 17 = true := by decide +kernel
theorem xchkF_all : ∀ oc, oc < 18 → xchkF oc = true
  | 0, _ => xchkF_0
  | 1, _ => xchkF_1
  | 2, _ => xchkF_2
  | 3, _ => xchkF_3
  | 4, _ => xchkF_4
  | 5, _ => xchkF_5
  | 6, _ => xchkF_6
  | 7, _ => xchkF_7
  | 8, _ => xchkF_8
  | 9, _ => xchkF_9
  | 10, _ => xchkF_10
  | 11, _ => xchkF_11
  | 12, _ => xchkF_12
  | 13, _ => xchkF_13
  | 14, _ => xchkF_14
  | 15, _ => xchkF_15
  | 16, _ => xchkF_16
  | 17, _ => xchkF_17
  | n + 18, h => absurd h (by omega)
theorem xchkC_0 : xchkC 0 = true := by decide +kernel
theorem xchkC_1 : xchkC 1 = true := by decide +kernel
theorem xchkC_2 : xchkC 2 = true := by decide +kernel
theorem xchkC_3 : xchkC 3 = true := by decide +kernel
theorem xchkC_4 : xchkC 4 = true := by decide +kernel
theorem xchkC_5 : xchkC 5 = true := by decide +kernel
theorem xchkC_6 : xchkC 6 = true := by decide +kernel
theorem xchkC_7 : xchkC 7 = true := by decide +kernel
theorem xchkC_8 : xchkC 8 = true := by decide +kernel
theorem xchkC_9 : xchkC 9 = true := by decide +kernel
theorem xchkC_10 : xchkC 10 = true := by decide +kernel
theorem xchkC_11 : xchkC 11 = true := by decide +kernel
theorem xchkC_12 : xchkC 12 = true := by decide +kernel
theorem xchkC_13 : xchkC 13 = true := by decide +kernel
theorem xchkC_14 : xchkC 14 = true := by decide +kernel
theorem xchkC_15 : xchkC 15 = true := by decide +kernel
theorem xchkC_16 : xchkC 16 = true := by decide +kernel
theorem xchkC_17 : xchkC 17 = true := by decide +kernel
theorem xchkC_all : ∀ oc, oc < 18 → xchkC oc = true
  | 0, _ => xchkC_0
  | 1, _ => xchkC_1
  | 2, _ => xchkC_2
  | 3, _ => xchkC_3
  | 4, _ => xchkC_4
  | 5, _ => xchkC_5
  | 6, _ => xchkC_6
  | 7, _ => xchkC_7
  | 8, _ => xchkC_8
  | 9, _ => xchkC_9
  | 10, _ => xchkC_10
  | 11, _ => xchkC_11
  | 12, _ => xchkC_12
  | 13, _ => xchkC_13
  | 14, _ => xchkC_14
  | 15, _ => xchkC_15
  | 16, _ => xchkC_16
  | 17, _ => xchkC_17
  | n + 18, h => absurd h (by omega)
theorem xchkK_0 : xchkK 0 = true := by decide +kernel
theorem xchkK_1 : xchkK 1 = true := by decide +kernel
theorem xchkK_2 : xchkK 2 = true := by decide +kernel
theorem xchkK_3 : xchkK 3 = true := by decide +kernel
theorem xchkK_4 : xchkK 4 = true := by decide +kernel
theorem xchkK_5 : xchkK 5 = true := by decide +kernel
theorem xchkK_6 : xchkK 6 = true := by decide +kernel
theorem xchkK_7 : xchkK 7 = true := by decide +kernel
theorem xchkK_8 : xchkK 8 = true := by decide +kernel
theorem xchkK_9 : xchkK 9 = true := by decide +kernel
theorem xchkK_10 : xchkK 10 = true := by decide +kernel
theorem xchkK_11 : xchkK 11 = true := by decide +kernel
theorem xchkK_12 : xchkK 12 = true := by decide +kernel
theorem xchkK_13 : xchkK 13 = true := by decide +kernel
theorem xchkK_14 : xchkK 14 = true := by decide +kernel
theorem xchkK_15 : xchkK 15 = true := by decide +kernel
theorem xchkK_16 : xchkK 16 = true := by decide +kernel
theorem xchkK_17 : xchkK 17 = true := by decide +kernel
theorem xchkK_all : ∀ oc, oc < 18 → xchkK oc = true
  | 0, _ => xchkK_0
  | 1, _ => xchkK_1
  | 2, _ => xchkK_2
  | 3, _ => xchkK_3
  | 4, _ => xchkK_4
  | 5, _ => xchkK_5
  | 6, _ => xchkK_6
  | 7, _ => xchkK_7
  | 8, _ => xchkK_8
  | 9, _ => xchkK_9
  | 10, _ => xchkK_10
  | 11, _ => xchkK_11
  | 12, _ => xchkK_12
  | 13, _ => xchkK_13
  | 14, _ => xchkK_14
  | 15, _ => xchkK_15
  | 16, _ => xchkK_16
  | 17, _ => xchkK_17
  | n + 18, h => absurd h (by omega)
theorem xchkI_0 : xchkI 0 = true := by decide +kernel
theorem xchkI_1 : xchkI 1 = true := by decide +kernel
theorem xchkI_2 : xchkI 2 = true := by decide +kernel
theorem xchkI_3 : xchkI 3 = true := by decide +kernel
theorem xchkI_4 : xchkI 4 = true := by decide +kernel
theorem xchkI_5 : xchkI 5 = true := by decide +kernel
theorem xchkI_6 : xchkI 6 = true := by decide +kernel
theorem xchkI_7 : xchkI 7 = true := by decide +kernel
theorem xchkI_8 : xchkI 8 = true := by decide +kernel
theorem xchkI_9 : xchkI 9 = true := by decide +kernel
theorem xchkI_10 : xchkI 10 = true := by decide +kernel
theorem xchkI_11 : xchkI 11 = true := by decide +kernel
theorem xchkI_12 : xchkI 12 = true := by decide +kernel
theorem xchkI_13 : xchkI 13 = true := by decide +kernel
theorem xchkI_14 : xchkI 14 = true := by decide +kernel
theorem xchkI_15 : xchkI 15 = true := by decide +kernel
theorem xchkI_16 : xchkI 16 = true := by decide +kernel
theorem xchkI_17 : xchkI 17 = true := by decide +kernel
theorem xchkI_all : ∀ oc, oc < 18 → xchkI oc = true
  | 0, _ => xchkI_0
  | 1, _ => xchkI_1
  | 2, _ => xchkI_2
  | 3, _ => xchkI_3
  | 4, _ => xchkI_4
  | 5, _ => xchkI_5
  | 6, _ => xchkI_6
  | 7, _ => xchkI_7
  | 8, _ => xchkI_8
  | 9, _ => xchkI_9
  | 10, _ => xchkI_10
  | 11, _ => xchkI_11
  | 12, _ => xchkI_12
  | 13, _ => xchkI_13
  | 14, _ => xchkI_14
  | 15, _ => xchkI_15
  | 16, _ => xchkI_16
  | 17, _ => xchkI_17
  | n + 18, h => absurd h (by omega)
theorem xT_F_out {oc idx : Nat} {x : Nat × Nat} (h : xT_F oc idx = some x) : oc < 18 ∧ idx < 1063 := by
  unfold xT_F at h
  cases hb : Nat.blt idx 1063 with
  | false => rw [hb] at h; cases h
  | true =>
    refine ⟨?_, Nat.blt_eq.mp hb⟩
    rw [hb] at h
    rcases Nat.lt_or_ge oc 18 with h1 | h1
    · exact h1
    · obtain ⟨n, rfl⟩ : ∃ n, oc = n + 18 := ⟨oc - 18, by omega⟩
      cases h
theorem xT_C_out {oc idx : Nat} {x : Nat × Nat} (h : xT_C oc idx = some x) : oc < 18 ∧ idx < 1063 := by
  unfold xT_C at h
  cases hb : Nat.blt idx 1063 with
  | false => rw [hb] at h; cases h
  | true =>
    refine ⟨?_, Nat.blt_eq.mp hb⟩
    rw [hb] at h
    rcases Nat.lt_or_ge oc 18 with h1 | h1
    · exact h1
    · obtain ⟨n, rfl⟩ : ∃ n, oc = n + 18 := ⟨oc - 18, by omega⟩
      cases h
theorem xT_K_out {oc idx : Nat} {x : Value} (h : xT_K oc idx = some x) : oc < 18 ∧ idx < 1063 := by
  unfold xT_K at h
  cases hb : Nat.blt idx 1063 with
  | false => rw [hb] at h; cases h
  | true =>
    refine ⟨?_, Nat.blt_eq.mp hb⟩
    rw [hb] at h
    rcases Nat.lt_or_ge oc 18 with h1 | h1
    · exact h1
    · obtain ⟨n, rfl⟩ : ∃ n, oc = n + 18 := ⟨oc - 18, by omega⟩
      cases h
theorem xT_I_out {oc idx : Nat} {x : Nat × Nat × Nat} (h : xT_I oc idx = some x) : oc < 18 ∧ idx < 1063 := by
  unfold xT_I at h
  cases hb : Nat.blt idx 1063 with
  | false => rw [hb] at h; cases h
  | true =>
    refine ⟨?_, Nat.blt_eq.mp hb⟩
    rw [hb] at h
    rcases Nat.lt_or_ge oc 18 with h1 | h1
    · exact h1
    · obtain ⟨n, rfl⟩ : ∃ n, oc = n + 18 := ⟨oc - 18, by omega⟩
      cases h
section XOK
variable (A : Nat → Option (Nat × (Nat → Int32)))
theorem xok_F : ix_okF (xT A) xcl xon xTs := by
  intro oc idx ci j h
  have h : xT_F oc idx = some (ci, j) := h
  obtain ⟨h1, h2⟩ := xT_F_out h
  have h3 := List.all_eq_true.mp (xchkF_all oc h1) idx (List.mem_range.mpr h2)
  rw [h] at h3
  simp only at h3
  split at h3
  · rename_i r hr
    rw [Bool.and_eq_true] at h3
    exact ⟨r, hr, Nat.blt_eq.mp h3.1, xat_ok h3.2 rfl⟩
  · cases h3
theorem xok_C : ix_okC (xT A) xcl xon xTs := by
  intro oc idx ci t h
  have h : xT_C oc idx = some (ci, t) := h
  obtain ⟨h1, h2⟩ := xT_C_out h
  have h3 := List.all_eq_true.mp (xchkC_all oc h1) idx (List.mem_range.mpr h2)
  rw [h] at h3
  simp only at h3
  split at h3
  · rename_i r hr
    rw [Bool.and_eq_true, Bool.or_eq_true] at h3
    exact ⟨r, hr, xat_ok h3.1 rfl, fun ht => of_decide_eq_true (h3.2.resolve_left (fun q => ht (Nat.eq_of_beq_eq_true q)))⟩
  · cases h3
theorem xok_K : ix_okK (xT A) xon xTs := by
  refine ⟨fun oc idx v h => ?_, fun oc idx v h => ?_⟩
  · have h : xT_K oc idx = some (.int v) := h
    obtain ⟨h1, h2⟩ := xT_K_out h
    have h3 := List.all_eq_true.mp (xchkK_all oc h1) idx (List.mem_range.mpr h2)
    rw [h] at h3
    exact xat_ok h3 rfl
  · have h : xT_K oc idx = some (.long v) := h
    obtain ⟨h1, h2⟩ := xT_K_out h
    have h3 := List.all_eq_true.mp (xchkK_all oc h1) idx (List.mem_range.mpr h2)
    rw [h] at h3
    exact xat_ok h3 rfl
theorem xw_oi : Cond.instanceMethod objectInit ∈ xTs := xat_ok (q := some (1, 27)) (by decide +kernel) rfl
theorem xw_oc : Cond.code objectInit ⟨#[0xb1]⟩ 1 none ∈ xTs := xTs_at (k := 1) (i := 28) rfl rfl
theorem xw_an : Cond.native arraycopyName ∈ xTs := xat_ok (q := some (3, 88)) (by decide +kernel) rfl
theorem xw_as : Cond.static arraycopyName ∈ xTs := xat_ok (q := some (3, 87)) (by decide +kernel) rfl
theorem xw_ai : Cond.initialized "java/lang/System" ∈ xTs := xat_ok (q := some (1, 14)) (by decide +kernel) rfl
theorem xw_mi : Cond.initialized "java/lang/Math" ∈ xTs := xat_ok (q := some (1, 15)) (by decide +kernel) rfl
theorem xw_m9s : Cond.static Lib.Math.min.name ∈ xTs := xat_ok (q := some (4, 133)) (by decide +kernel) rfl
theorem xw_m9c : Cond.code Lib.Math.min.name Lib.Math.min.code 2 (some .int) ∈ xTs := xat_ok (q := some (4, 134)) (by decide +kernel) rfl
theorem xw_m10s : Cond.static Lib.Math.max.name ∈ xTs := xat_ok (q := some (4, 119)) (by decide +kernel) rfl
theorem xw_m10c : Cond.code Lib.Math.max.name Lib.Math.max.code 2 (some .int) ∈ xTs := xat_ok (q := some (4, 120)) (by decide +kernel) rfl
theorem xw_m11s : Cond.static Lib.MathLoose.min_long.x ∈ xTs := xat_ok (q := some (7, 209)) (by decide +kernel) rfl
theorem xw_m11c : Cond.code Lib.MathLoose.min_long.x Lib.MathLoose.min_long.code 4 (some .long) ∈ xTs := xat_ok (q := some (7, 210)) (by decide +kernel) rfl
theorem xok_I : ix_okI (xT A) xcl xon xTs xNs := by
  intro oc idx kd mid na h
  have h : xT_I oc idx = some (kd, mid, na) := h
  obtain ⟨h1, h2⟩ := xT_I_out h
  have h3 := List.all_eq_true.mp (xchkI_all oc h1) idx (List.mem_range.mpr h2)
  rw [h] at h3
  simp only at h3
  refine ⟨fun hk => ?_, fun hk => ?_, fun hk => ?_, fun hk => ?_, fun hk => ?_, fun hk => ?_, fun hk1 hk6 => ?_⟩
  · subst hk
    exact ⟨xat_ok h3 rfl, xw_oi, xw_oc⟩
  · subst hk
    exact ⟨xat_ok h3 rfl, xw_an, xw_as, xw_ai⟩
  · subst hk
    simp only [Nat.beq, cond_true, cond_false] at h3
    split at h3
    · rename_i M pi ps p8 p9 hM hpM
      simp only [Bool.and_eq_true, decide_eq_true_eq] at h3
      obtain ⟨a1, a2, a3, a4, a5⟩ := h3
      exact ⟨M, hM, a1, xat_ok a2 rfl, xat_ok a3 rfl, xat_ok a4 rfl, a5⟩
    · cases h3
  · subst hk
    exact ⟨xat_ok h3 rfl, xw_m9s, xw_mi, xw_m9c⟩
  · subst hk
    exact ⟨xat_ok h3 rfl, xw_m10s, xw_mi, xw_m10c⟩
  · subst hk
    exact ⟨xat_ok h3 rfl, xw_m11s, xw_mi, xw_m11c⟩
  · have hb0 : Nat.beq kd 0 = false := by
      cases hb : Nat.beq kd 0 with
      | false => rfl
      | true => have := Nat.eq_of_beq_eq_true hb; omega
    have hb7 : Nat.beq kd 7 = false := by
      cases hb : Nat.beq kd 7 with
      | false => rfl
      | true => have := Nat.eq_of_beq_eq_true hb; omega
    have hb8 : Nat.beq kd 8 = false := by
      cases hb : Nat.beq kd 8 with
      | false => rfl
      | true => have := Nat.eq_of_beq_eq_true hb; omega
    have hb9 : Nat.beq kd 9 = false := by
      cases hb : Nat.beq kd 9 with
      | false => rfl
      | true => have := Nat.eq_of_beq_eq_true hb; omega
    have hb10 : Nat.beq kd 10 = false := by
      cases hb : Nat.beq kd 10 with
      | false => rfl
      | true => have := Nat.eq_of_beq_eq_true hb; omega
    have hb11 : Nat.beq kd 11 = false := by
      cases hb : Nat.beq kd 11 with
      | false => rfl
      | true => have := Nat.eq_of_beq_eq_true hb; omega
    rw [hb0, hb7, hb8, hb9, hb10, hb11] at h3
    simp only [cond_false, Bool.and_eq_true] at h3
    have h4 := h3.2
    unfold xchkM at h4
    split at h4
    · rename_i M pi ps pt pn q hM hpM hpI
      refine ⟨M, hM, ?_⟩
      rcases (show kd = 1 ∨ kd = 2 ∨ kd = 3 ∨ kd = 4 ∨ kd = 5 ∨ kd = 6 by omega) with rfl | rfl | rfl | rfl | rfl | rfl <;> simp only [Nat.beq, Bool.or_true, Bool.true_or, Bool.or_false, Bool.false_or, cond_true, cond_false, Bool.and_eq_true, decide_eq_true_eq] at h4
      · obtain ⟨a1, a2, a3, a4, a5⟩ := h4
        exact ⟨a1, fun _ => xat_ok a2 rfl, fun q => by omega, fun _ => ⟨a3, xat_ok a4 rfl, a5⟩, fun q => by omega, fun q => by omega⟩
      · obtain ⟨a1, a2, a3, a4, a5⟩ := h4
        exact ⟨a1, fun q => by omega, fun _ => List.mem_of_getElem? a2, fun _ => ⟨a3, xat_ok a4 rfl, a5⟩, fun q => by omega, fun q => by omega⟩
      · obtain ⟨a1, a2, a3, a4, a5⟩ := h4
        split at a5
        · rename_i r hr
          exact ⟨a1, fun _ => xat_ok a2 rfl, fun q => by omega, fun q => by omega, fun _ => ⟨xat_ok a3 rfl, xat_ok a4 rfl, r, hr, of_decide_eq_true a5⟩, fun q => by omega⟩
        · cases a5
      · obtain ⟨a1, a2, a3, a4, a5⟩ := h4
        split at a5
        · rename_i r hr
          exact ⟨a1, fun q => by omega, fun _ => List.mem_of_getElem? a2, fun q => by omega, fun _ => ⟨xat_ok a3 rfl, xat_ok a4 rfl, r, hr, of_decide_eq_true a5⟩, fun q => by omega⟩
        · cases a5
      · obtain ⟨a1, a2, a3⟩ := h4
        exact ⟨a1, fun _ => xat_ok a2 rfl, fun q => by omega, fun q => by omega, fun q => by omega, fun _ => xat_ok a3 rfl⟩
      · obtain ⟨a1, a2, a3⟩ := h4
        exact ⟨a1, fun q => by omega, fun _ => List.mem_of_getElem? a2, fun q => by omega, fun q => by omega, fun _ => xat_ok a3 rfl⟩
    · cases h4
end XOK

