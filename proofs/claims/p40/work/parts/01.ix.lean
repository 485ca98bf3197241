section
/-! ===== an interpreter of the bytecode over abstract cells: a run of it that ends is a run of the machine (the parts behind this one show it) ===== -/
/-- an abstract cell: an array (number of its type, length and contents), or an object (number of its class, fields); references are numbers of cells, from 1000000 on constants -/
noncomputable abbrev ix_C : Type := (Nat × vp_A) ⊕ (Nat × List Value)
/-- cells made, slots made, the cells -/
noncomputable abbrev ix_H : Type := Nat × Nat × (Nat → ix_C)
/-- a method: its class's number, name, bytes, locals, type of the answer, whether it is a constructor, its instructions -/
noncomputable abbrev ix_M : Type := Nat × MethodName × ByteArray × Nat × Option FieldType × Bool × (Nat → Option Instr)
noncomputable abbrev ix_L : Type := List (Nat × Value)
noncomputable abbrev ix_S : Type := Nat × ix_L × List Value × ix_H
/-- the tables: methods by number; by class and place in its constants: fields (class, field), calls (kind, method, count of arguments), classes, constants; of a class: its fields' types and which are final; of an array type: its elements' class; static rows of ints (by class and place: number of a constant), the constants' lengths and contents -/
noncomputable abbrev ix_T : Type := (Nat → Option ix_M) × (Nat → Nat → Option (Nat × Nat)) × (Nat → Nat → Option (Nat × Nat × Nat)) × (Nat → Nat → Option (Nat × Nat)) × (Nat → Nat → Option Value) × (Nat → Nat × (Nat → FieldType × Bool)) × (Nat → Option Nat) × (Nat → Nat → Option Value) × (Nat → Option (Nat × (Nat → Int32))) × (Nat → Option (Nat × (Nat → Int32))) × (Nat → Option Nat) × (Nat → Nat → Option Bool)
noncomputable def ix_tM (T : ix_T) : Nat → Option ix_M := T.1
noncomputable def ix_tF (T : ix_T) : Nat → Nat → Option (Nat × Nat) := T.2.1
noncomputable def ix_tI (T : ix_T) : Nat → Nat → Option (Nat × Nat × Nat) := T.2.2.1
noncomputable def ix_tC (T : ix_T) : Nat → Nat → Option (Nat × Nat) := T.2.2.2.1
noncomputable def ix_tK (T : ix_T) : Nat → Nat → Option Value := T.2.2.2.2.1
noncomputable def ix_tD (T : ix_T) : Nat → Nat × (Nat → FieldType × Bool) := T.2.2.2.2.2.1
noncomputable def ix_tE (T : ix_T) : Nat → Option Nat := T.2.2.2.2.2.2.1
noncomputable def ix_tS (T : ix_T) : Nat → Nat → Option Value := T.2.2.2.2.2.2.2.1
noncomputable def ix_tA (T : ix_T) : Nat → Option (Nat × (Nat → Int32)) := T.2.2.2.2.2.2.2.2.1
/-- constant rows of bytes; String constants (the number of their row of bytes); String's own fields (true: value, false: coder) -/
noncomputable def ix_tB (T : ix_T) : Nat → Option (Nat × (Nat → Int32)) := T.2.2.2.2.2.2.2.2.2.1
noncomputable def ix_tO (T : ix_T) : Nat → Option Nat := T.2.2.2.2.2.2.2.2.2.2.1
noncomputable def ix_tG (T : ix_T) : Nat → Nat → Option Bool := T.2.2.2.2.2.2.2.2.2.2.2
/-- a constant row of ints -/
noncomputable def ix_cns (T : ix_T) (a : Nat) : Option (Nat × (Nat → Int32)) := bif Nat.blt a 1000000 then none else ix_tA T (a - 1000000)
theorem ix_cns_ok {T : ix_T} {a : Nat} {x : Nat × (Nat → Int32)} (h : ix_cns T a = some x) : ∃ k, a = 1000000 + k ∧ ix_tA T k = some x := by
  unfold ix_cns at h
  cases hb : Nat.blt a 1000000 with
  | true => rw [hb] at h; cases h
  | false =>
    rw [hb] at h
    have : ¬ a < 1000000 := fun q => by rw [Nat.blt_eq.mpr q] at hb; cases hb
    exact ⟨a - 1000000, by omega, h⟩
/-- a constant row of bytes -/
noncomputable def ix_cnb (T : ix_T) (a : Nat) : Option (Nat × (Nat → Int32)) := bif Nat.blt a 1000000 then none else ix_tB T (a - 1000000)
theorem ix_cnb_ok {T : ix_T} {a : Nat} {x : Nat × (Nat → Int32)} (h : ix_cnb T a = some x) : ∃ k, a = 1000000 + k ∧ ix_tB T k = some x := by
  unfold ix_cnb at h
  cases hb : Nat.blt a 1000000 with
  | true => rw [hb] at h; cases h
  | false =>
    rw [hb] at h
    have : ¬ a < 1000000 := fun q => by rw [Nat.blt_eq.mpr q] at hb; cases hb
    exact ⟨a - 1000000, by omega, h⟩
/-- a String constant -/
noncomputable def ix_cno (T : ix_T) (a : Nat) : Option Nat := bif Nat.blt a 1000000 then none else ix_tO T (a - 1000000)
theorem ix_cno_ok {T : ix_T} {a : Nat} {x : Nat} (h : ix_cno T a = some x) : ∃ k, a = 1000000 + k ∧ ix_tO T k = some x := by
  unfold ix_cno at h
  cases hb : Nat.blt a 1000000 with
  | true => rw [hb] at h; cases h
  | false =>
    rw [hb] at h
    have : ¬ a < 1000000 := fun q => by rw [Nat.blt_eq.mpr q] at hb; cases hb
    exact ⟨a - 1000000, by omega, h⟩
noncomputable def ix_up (h : Nat → ix_C) (i : Nat) (c : ix_C) : Nat → ix_C := fun j => bif Nat.beq j i then c else h j
theorem ix_up_self (h : Nat → ix_C) (i : Nat) (c : ix_C) : ix_up h i c i = c := by simp [ix_up]
theorem ix_up_ne (h : Nat → ix_C) {i j : Nat} (c : ix_C) (hj : j ≠ i) : ix_up h i c j = h j := by
  have : Nat.beq j i = false := by
    cases hb : Nat.beq j i with
    | false => rfl
    | true => exact absurd (Nat.eq_of_beq_eq_true hb) hj
  simp [ix_up, this]
noncomputable def ix_v (ad : Nat → Nat) : Value → Value
  | .ref a => .ref (ad a)
  | v => v
noncomputable def ix_a (ad : Nat → Nat) : vp_A → vp_A
  | (n, .inr (.inr (.inr (.inr f)))) => (n, .inr (.inr (.inr (.inr (fun j => (f j).map ad)))))
  | x => x
noncomputable def ix_e (aC : Nat → ClassId) (ad : Nat → Nat) : ix_C → va_E
  | .inl (t, x) => .inl (aC t, ix_a ad x)
  | .inr (c, fs) => .inr (c, fs.map (ix_v ad))
noncomputable def ix_ws (aC : Nat → ClassId) (ad : Nat → Nat) (base n : Nat) (h : Nat → ix_C) : va_W := (List.range n).map (fun i => (base + i, ix_e aC ad (h i)))
theorem ix_ws_get {aC : Nat → ClassId} {ad : Nat → Nat} {base n : Nat} {h : Nat → ix_C} {i : Nat} (hi : i < n) : (ix_ws aC ad base n h)[i]? = some (base + i, ix_e aC ad (h i)) := by
  simp [ix_ws, hi]
theorem ix_ws_len {aC : Nat → ClassId} {ad : Nat → Nat} {base n : Nat} {h : Nat → ix_C} : (ix_ws aC ad base n h).length = n := by
  simp [ix_ws]
theorem ix_ws_set {aC : Nat → ClassId} {ad : Nat → Nat} {base n : Nat} {h : Nat → ix_C} {i : Nat} (c : ix_C) : (ix_ws aC ad base n h).set i (base + i, ix_e aC ad c) = ix_ws aC ad base n (ix_up h i c) := by
  apply List.ext_getElem?
  intro k
  by_cases hk : k < n
  · by_cases hki : k = i
    · subst hki
      rw [List.getElem?_set_self (by rw [ix_ws_len]; exact hk), ix_ws_get hk, ix_up_self]
    · rw [List.getElem?_set_ne (fun e => hki e.symm), ix_ws_get hk, ix_ws_get hk, ix_up_ne _ _ hki]
  · have h1 : ((ix_ws aC ad base n h).set i (base + i, ix_e aC ad c)).length ≤ k := by rw [List.length_set, ix_ws_len]; omega
    have h2 : (ix_ws aC ad base n (ix_up h i c)).length ≤ k := by rw [ix_ws_len]; omega
    rw [List.getElem?_eq_none h1, List.getElem?_eq_none h2]
theorem ix_ws_push {aC : Nat → ClassId} {ad : Nat → Nat} {base n : Nat} {h : Nat → ix_C} (c : ix_C) : ix_ws aC ad base n h ++ [(base + n, ix_e aC ad c)] = ix_ws aC ad base (n + 1) (ix_up h n c) := by
  apply List.ext_getElem?
  intro k
  by_cases hk : k < n
  · rw [List.getElem?_append_left (by rw [ix_ws_len]; exact hk), ix_ws_get hk, ix_ws_get (by omega), ix_up_ne _ _ (by omega)]
  · by_cases hkn : k = n
    · subst hkn
      rw [List.getElem?_append_right (by rw [ix_ws_len]; omega), ix_ws_get (by omega), ix_up_self, ix_ws_len, Nat.sub_self]
      rfl
    · have h1 : (ix_ws aC ad base n h ++ [(base + n, ix_e aC ad c)]).length ≤ k := by simp [ix_ws_len]; omega
      have h2 : (ix_ws aC ad base (n + 1) (ix_up h n c)).length ≤ k := by rw [ix_ws_len]; omega
      rw [List.getElem?_eq_none h1, List.getElem?_eq_none h2]
/-- where an abstract reference lies -/
noncomputable def ix_ad (base : Nat) (cst : Nat → Nat) (a : Nat) : Nat := if a < 1000000 then base + a else cst (a - 1000000)
theorem ix_ad_lt {base : Nat} {cst : Nat → Nat} {a : Nat} (h : a < 1000000) : ix_ad base cst a = base + a := by simp [ix_ad, h]
theorem ix_v_cat (ad : Nat → Nat) (v : Value) : (ix_v ad v).category = v.category := by cases v <;> rfl
theorem ix_v_cats (ad : Nat → Nat) (st : List Value) : ((st.map (ix_v ad)).map fun v => v.category).sum = (st.map fun v => v.category).sum := by
  rw [List.map_map]
  congr 1
  apply List.map_congr_left
  intro v _
  exact ix_v_cat ad v
theorem ix_v_narrow {ad : Nat → Nat} {ty : FieldType} {v : Value} (h : narrow ty v = v) : narrow ty (ix_v ad v) = ix_v ad v := by
  cases v with
  | ref a => cases ty <;> rfl
  | _ => exact h
theorem ix_v_fits {ad : Nat → Nat} {ty : FieldType} {v : Value} (h : fits ty v = true) : fits ty (ix_v ad v) = true := by
  cases v with
  | ref a => cases ty <;> first | exact h | rfl | (simp [fits] at h)
  | _ => exact h
/-- the locals, as the machine has them -/
noncomputable def ix_l (ad : Nat → Nat) (ls : ix_L) : List (Nat × Value) := ls.map (fun q => (q.1, ix_v ad q.2))
noncomputable def ix_ld (ls : ix_L) (i : Nat) : Option Value := match ls with
  | [] => none
  | q :: r => bif Nat.beq q.1 i then some q.2 else ix_ld r i
theorem ix_ld_mem : ∀ {ls : ix_L} {i : Nat} {v : Value}, ix_ld ls i = some v → (i, v) ∈ ls
  | [], _, _, h => by simp [ix_ld] at h
  | q :: r, i, v, h => by
    unfold ix_ld at h
    cases hb : Nat.beq q.1 i with
    | true =>
      rw [hb] at h
      have e : q.1 = i := Nat.eq_of_beq_eq_true hb
      have e2 : q.2 = v := Option.some.inj h
      rw [← e, ← e2]
      exact List.mem_cons_self
    | false =>
      rw [hb] at h
      exact List.mem_cons_of_mem _ (ix_ld_mem h)
theorem ix_ld_has {ad : Nat → Nat} {arr : Array Slot} {nL : Nat} {ls : ix_L} {i : Nat} {v : Value} (hl : lv_has arr nL (ix_l ad ls)) (h : ix_ld ls i = some v) : arr[i]? = some (.val (ix_v ad v)) :=
  hl.2.2 (i, ix_v ad v) (List.mem_map.mpr ⟨(i, v), ix_ld_mem h, rfl⟩)
noncomputable def ix_st1 (ls : ix_L) (i : Nat) (v : Value) : ix_L := (i, v) :: ls.filter (fun q => !(q.1 == i) && !(q.1 + 1 == i && q.2.category == 2))
noncomputable def ix_st2 (ls : ix_L) (i : Nat) (v : Value) : ix_L := (i, v) :: ls.filter (fun q => !(q.1 == i) && (!(q.1 == i + 1) && !(q.1 + 1 == i && q.2.category == 2)))
theorem ix_l_st1 (ad : Nat → Nat) (ls : ix_L) (i : Nat) (v : Value) : (i, ix_v ad v) :: (ix_l ad ls).filter (fun q => !(q.1 == i) && !(q.1 + 1 == i && q.2.category == 2)) = ix_l ad (ix_st1 ls i v) := by
  unfold ix_l ix_st1
  rw [List.map_cons, List.filter_map]
  congr 2
  apply List.filter_congr
  intro q _
  simp only [Function.comp, ix_v_cat]
theorem ix_l_st2 (ad : Nat → Nat) (ls : ix_L) (i : Nat) (v : Value) : (i, ix_v ad v) :: (ix_l ad ls).filter (fun q => !(q.1 == i) && (!(q.1 == i + 1) && !(q.1 + 1 == i && q.2.category == 2))) = ix_l ad (ix_st2 ls i v) := by
  unfold ix_l ix_st2
  rw [List.map_cons, List.filter_map]
  congr 2
  apply List.filter_congr
  intro q _
  simp only [Function.comp, ix_v_cat]
noncomputable def ix_tg (pc : Nat) (off : Int) : Option Nat := match (pc : Int) + off with
  | .ofNat t => some t
  | .negSucc _ => none
theorem ix_tg_ok {pc : Nat} {off : Int} {t : Nat} (h : ix_tg pc off = some t) : (pc : Int) + off = (t : Int) := by
  unfold ix_tg at h
  cases hz : (pc : Int) + off with
  | ofNat u => rw [hz] at h; cases h; rfl
  | negSucc u => rw [hz] at h; cases h
/-- lengths of the instructions; 0: the switches, whose lengths are told by the bytes -/
noncomputable def ix_len : Instr → Nat
  | .aload _ | .astore _ | .iload _ | .istore _ | .lload _ | .lstore _ | .bipush _ | .ldc _ | .newarray _ => 2
  | .sipush _ | .ldc_w _ | .ldc2_w _ | .iinc _ _ | .goto _ | .if_icmp _ _ | .ifCond _ _ | .if_acmp _ _ | .ifnull _ | .ifnonnull _ | .getfield _ | .putfield _ | .getstatic _ | .new _ | .anewarray _ | .invokevirtual _ | .invokespecial _ | .invokestatic _ => 3
  | .tableswitch _ _ _ _ | .lookupswitch _ _ => 0
  | _ => 1
/-- instructions that work on the operand stack alone -/
noncomputable def ix_alu : Instr → List Value → Option (List Value)
  | .aconst_null, st => some (.null :: st)
  | .iconst n, st => some (.int (Int32.ofInt n) :: st)
  | .bipush n, st => some (.int (Int8.ofInt n).toInt32 :: st)
  | .sipush n, st => some (.int (Int16.ofInt n).toInt32 :: st)
  | .lconst n, st => some (.long (Int64.ofNat (n : Nat)) :: st)
  | .iadd, .int y :: .int x :: st => some (.int (x + y) :: st)
  | .isub, .int y :: .int x :: st => some (.int (x - y) :: st)
  | .imul, .int y :: .int x :: st => some (.int (x * y) :: st)
  | .iand, .int y :: .int x :: st => some (.int (x &&& y) :: st)
  | .ior, .int y :: .int x :: st => some (.int (x ||| y) :: st)
  | .ixor, .int y :: .int x :: st => some (.int (x ^^^ y) :: st)
  | .idiv, .int y :: .int x :: st => if y = 0 then none else some (.int (x / y) :: st)
  | .irem, .int y :: .int x :: st => if y = 0 then none else some (.int (x - x / y * y) :: st)
  | .ineg, .int x :: st => some (.int (-x) :: st)
  | .ishl, .int y :: .int x :: st => some (.int (x <<< (y &&& 31)) :: st)
  | .ishr, .int y :: .int x :: st => some (.int (x >>> (y &&& 31)) :: st)
  | .iushr, .int y :: .int x :: st => some (.int (x.toUInt32 >>> (y.toUInt32 &&& Int32.toUInt32 31)).toInt32 :: st)
  | .ladd, .long y :: .long x :: st => some (.long (x + y) :: st)
  | .lsub, .long y :: .long x :: st => some (.long (x - y) :: st)
  | .lmul, .long y :: .long x :: st => some (.long (x * y) :: st)
  | .land, .long y :: .long x :: st => some (.long (x &&& y) :: st)
  | .lor, .long y :: .long x :: st => some (.long (x ||| y) :: st)
  | .lxor, .long y :: .long x :: st => some (.long (x ^^^ y) :: st)
  | .ldiv, .long y :: .long x :: st => if y = 0 then none else some (.long (x / y) :: st)
  | .lrem, .long y :: .long x :: st => if y = 0 then none else some (.long (x - x / y * y) :: st)
  | .lneg, .long x :: st => some (.long (-x) :: st)
  | .lshl, .int y :: .long x :: st => some (.long (x <<< (y.toInt64 &&& 63)) :: st)
  | .lshr, .int y :: .long x :: st => some (.long (x >>> (y.toInt64 &&& 63)) :: st)
  | .lushr, .int y :: .long x :: st => some (.long (x.toUInt64 >>> (y.toInt64.toUInt64 &&& Int64.toUInt64 63)).toInt64 :: st)
  | .lcmp, .long y :: .long x :: st => some (.int (lg_cmp x y) :: st)
  | .i2l, .int x :: st => some (.long x.toInt64 :: st)
  | .l2i, .long x :: st => some (.int x.toInt32 :: st)
  | .i2b, .int x :: st => some (.int x.toInt8.toInt32 :: st)
  | .i2s, .int x :: st => some (.int x.toInt16.toInt32 :: st)
  | .i2c, .int x :: st => some (.int (x.toUInt32 % 65536).toInt32 :: st)
  | .dup, a :: st => if a.category = 1 then some (a :: a :: st) else none
  | .pop, a :: st => if a.category = 1 then some st else none
  | .dup_x1, a :: b :: st => if a.category = 1 ∧ b.category = 1 then some (a :: b :: a :: st) else none
  | .dup_x2, a :: b :: d :: st => if a.category = 1 ∧ b.category = 1 ∧ d.category = 1 then some (a :: b :: d :: a :: st) else none
  | .dup2, a :: b :: st => if a.category = 1 ∧ b.category = 1 then some (a :: b :: a :: b :: st) else none
  | .dup2_x1, a :: b :: st => if a.category = 2 ∧ b.category = 1 then some (a :: b :: a :: st) else none
  | .dup2_x2, a :: b :: d :: st => if a.category = 2 ∧ b.category = 1 ∧ d.category = 1 then some (a :: b :: d :: a :: st) else none
  | .pop2, a :: st => if a.category = 2 then some st else none
  | _, _ => none
/-- instructions that work on the locals -/
noncomputable def ix_loc : Instr → Nat → ix_L → List Value → Option (ix_L × List Value)
  | .iload_n k, _, ls, st => match ix_ld ls (k : Nat) with
    | some (.int x) => some (ls, .int x :: st)
    | _ => none
  | .iload i, _, ls, st => match ix_ld ls i with
    | some (.int x) => some (ls, .int x :: st)
    | _ => none
  | .lload_n k, _, ls, st => match ix_ld ls (k : Nat) with
    | some (.long x) => some (ls, .long x :: st)
    | _ => none
  | .lload i, _, ls, st => match ix_ld ls i with
    | some (.long x) => some (ls, .long x :: st)
    | _ => none
  | .aload_n k, _, ls, st => match ix_ld ls (k : Nat) with
    | some (.ref x) => some (ls, .ref x :: st)
    | _ => none
  | .aload i, _, ls, st => match ix_ld ls i with
    | some (.ref x) => some (ls, .ref x :: st)
    | _ => none
  | .istore_n k, nL, ls, .int x :: st => if (k : Nat) < nL then some (ix_st1 ls (k : Nat) (.int x), st) else none
  | .istore i, nL, ls, .int x :: st => if i < nL then some (ix_st1 ls i (.int x), st) else none
  | .lstore_n k, nL, ls, .long x :: st => if (k : Nat) + 1 < nL then some (ix_st2 ls (k : Nat) (.long x), st) else none
  | .lstore i, nL, ls, .long x :: st => if i + 1 < nL then some (ix_st2 ls i (.long x), st) else none
  | .astore_n k, nL, ls, .ref x :: st => if (k : Nat) < nL then some (ix_st1 ls (k : Nat) (.ref x), st) else none
  | .astore i, nL, ls, .ref x :: st => if i < nL then some (ix_st1 ls i (.ref x), st) else none
  | .iinc i n, nL, ls, st => match ix_ld ls i with
    | some (.int x) => if i < nL then some (ix_st1 ls i (.int (x + Int32.ofInt n)), st) else none
    | _ => none
  | _, _, _, _ => none
noncomputable def ix_cb : Jvm.ClassFile.Cond → Int32 → Int32 → Bool
  | .eq, x, y => decide (x = y)
  | .ne, x, y => decide (¬ x = y)
  | .lt, x, y => decide (x < y)
  | .ge, x, y => decide (y ≤ x)
  | .gt, x, y => decide (y < x)
  | .le, x, y => decide (x ≤ y)
/-- instructions that go elsewhere: the new place -/
noncomputable def ix_br : Instr → Nat → List Value → Option (Nat × List Value)
  | .goto off, pc, st => match ix_tg pc off with
    | some t => some (t, st)
    | none => none
  | .ifCond cd off, pc, .int x :: st => match ix_tg pc off with
    | some t => bif ix_cb cd x 0 then some (t, st) else some (pc + 3, st)
    | none => none
  | .if_icmp cd off, pc, .int y :: .int x :: st => match ix_tg pc off with
    | some t => bif ix_cb cd x y then some (t, st) else some (pc + 3, st)
    | none => none
  | .if_acmp .ne off, pc, .ref y :: .ref x :: st => match ix_tg pc off with
    | some t => if x < 1000000 ∧ y < 1000000 then (bif Nat.beq x y then some (pc + 3, st) else some (t, st)) else none
    | none => none
  | .tableswitch dflt lo hi offs, pc, .int x :: st => if x.toInt < lo ∨ hi < x.toInt then (match ix_tg pc dflt with
    | some t => some (t, st)
    | none => none) else (match offs[(x.toInt - lo).toNat]? with
    | some off => (match ix_tg pc off with
      | some t => some (t, st)
      | none => none)
    | none => none)
  | .lookupswitch dflt ps, pc, .int x :: st => if (ps.toList.zip (ps.toList.drop 1)).all (fun (a, next) => a.1 < next.1) = true then (match ix_tg pc (Op.lookupswitch.offset ps.toList dflt x.toInt) with
    | some t => some (t, st)
    | none => none) else none
  | _, _, _ => none
noncomputable def ix_obj (hp : ix_H) (a : Nat) : Option (Nat × List Value) := bif Nat.blt a hp.1 then (match hp.2.2 a with
  | .inr x => some x
  | .inl _ => none) else none
noncomputable def ix_arr (hp : ix_H) (a : Nat) : Option (Nat × vp_A) := bif Nat.blt a hp.1 then (match hp.2.2 a with
  | .inl x => some x
  | .inr _ => none) else none
theorem ix_obj_ok {hp : ix_H} {a : Nat} {x : Nat × List Value} (h : ix_obj hp a = some x) : a < hp.1 ∧ hp.2.2 a = .inr x := by
  unfold ix_obj at h
  cases hb : Nat.blt a hp.1 with
  | false => rw [hb] at h; cases h
  | true =>
    rw [hb] at h
    refine ⟨Nat.blt_eq.mp hb, ?_⟩
    simp only [cond_true] at h
    split at h
    · rename_i y hy
      cases h
      exact hy
    · cases h
theorem ix_arr_ok {hp : ix_H} {a : Nat} {x : Nat × vp_A} (h : ix_arr hp a = some x) : a < hp.1 ∧ hp.2.2 a = .inl x := by
  unfold ix_arr at h
  cases hb : Nat.blt a hp.1 with
  | false => rw [hb] at h; cases h
  | true =>
    rw [hb] at h
    refine ⟨Nat.blt_eq.mp hb, ?_⟩
    simp only [cond_true] at h
    split at h
    · rename_i y hy
      cases h
      exact hy
    · cases h
/-- another content of a cell -/
noncomputable def ix_put (hp : ix_H) (a : Nat) (c : ix_C) : ix_H := (hp.1, hp.2.1, ix_up hp.2.2 a c)
/-- one cell more, of so many slots -/
noncomputable def ix_new (hp : ix_H) (z : Nat) (c : ix_C) : ix_H := (hp.1 + 1, hp.2.1 + z, ix_up hp.2.2 hp.1 c)
noncomputable def ix_zero : Nat → Nat → Option (Nat × vp_A)
  | 0, n => some (0, n, .inl (fun _ => 0))
  | 1, n => some (1, n, .inr (.inl (fun _ => 0)))
  | 2, n => some (2, n, .inl (fun _ => 0))
  | _, _ => none
noncomputable def ix_aty : ArrayType → Nat
  | .int => 0
  | .long => 1
  | .boolean => 2
  | _ => 9
/-- instructions on cells; oc: the number of the method's own class, ini: whether the method is a constructor -/
noncomputable def ix_hp (T : ix_T) (oc : Nat) (ini : Bool) : Instr → List Value → ix_H → Option (List Value × ix_H)
  | .getfield idx, .ref a :: st, hp => match ix_tF T oc idx, ix_obj hp a with
    | some (ci, j), some (c, fs) => if c = ci then (match fs[j]? with
      | some v => some (v :: st, hp)
      | none => none) else none
    | _, _ => match ix_tG T oc idx, ix_cno T a with
      | some true, some b => some (.ref (1000000 + b) :: st, hp)
      | some false, some _ => some (.int 0 :: st, hp)
      | _, _ => none
  | .putfield idx, v :: .ref a :: st, hp => match ix_tF T oc idx, ix_obj hp a with
    | some (ci, j), some (c, fs) => if c = ci ∧ j < fs.length ∧ narrow ((ix_tD T ci).2 j).1 v = v ∧ fits ((ix_tD T ci).2 j).1 v = true ∧ (((ix_tD T ci).2 j).2 = false ∨ (ini = true ∧ ci = oc)) then some (st, ix_put hp a (.inr (c, fs.set j v))) else none
    | _, _ => none
  | .arraylength, .ref a :: st, hp => match ix_arr hp a with
    | some (t, n, x) => if t < 3 ∨ (ix_tE T t).isSome = true then some (.int (Int32.ofNat n) :: st, hp) else none
    | none => match ix_cns T a with
      | some (n, _) => some (.int (Int32.ofNat n) :: st, hp)
      | none => match ix_cnb T a with
        | some (n, _) => some (.int (Int32.ofNat n) :: st, hp)
        | none => none
  | .iaload, .int i :: .ref a :: st, hp => match ix_arr hp a with
    | some (0, n, .inl f) => if i < 0 ∨ n ≤ i.toNatClampNeg then none else some (.int (f i.toNatClampNeg) :: st, hp)
    | some _ => none
    | none => match ix_cns T a with
      | some (n, f) => if i < 0 ∨ n ≤ i.toNatClampNeg then none else some (.int (f i.toNatClampNeg) :: st, hp)
      | none => none
  | .getstatic idx, st, hp => match ix_tS T oc idx with
    | some v => some (v :: st, hp)
    | none => none
  | .laload, .int i :: .ref a :: st, hp => match ix_arr hp a with
    | some (1, n, .inr (.inl f)) => if i < 0 ∨ n ≤ i.toNatClampNeg then none else some (.long (f i.toNatClampNeg) :: st, hp)
    | _ => none
  | .baload, .int i :: .ref a :: st, hp => match ix_arr hp a with
    | some (2, n, .inl f) => if i < 0 ∨ n ≤ i.toNatClampNeg then none else some (.int (f i.toNatClampNeg) :: st, hp)
    | some _ => none
    | none => match ix_cnb T a with
      | some (n, f) => if i < 0 ∨ n ≤ i.toNatClampNeg then none else some (.int (f i.toNatClampNeg) :: st, hp)
      | none => none
  | .aaload, .int i :: .ref a :: st, hp => match ix_arr hp a with
    | some (t, n, .inr (.inr (.inr (.inr f)))) => if (ix_tE T t).isSome = true ∧ ¬ (i < 0 ∨ n ≤ i.toNatClampNeg) then some (va_rf (f i.toNatClampNeg) :: st, hp) else none
    | _ => none
  | .iastore, .int x :: .int i :: .ref a :: st, hp => match ix_arr hp a with
    | some (0, n, .inl f) => if i < 0 ∨ n ≤ i.toNatClampNeg then none else some (st, ix_put hp a (.inl (0, n, .inl (upd f i.toNatClampNeg x))))
    | _ => none
  | .lastore, .long x :: .int i :: .ref a :: st, hp => match ix_arr hp a with
    | some (1, n, .inr (.inl f)) => if i < 0 ∨ n ≤ i.toNatClampNeg then none else some (st, ix_put hp a (.inl (1, n, .inr (.inl (vp_updL f i.toNatClampNeg x)))))
    | _ => none
  | .bastore, .int x :: .int i :: .ref a :: st, hp => match ix_arr hp a with
    | some (2, n, .inl f) => if i < 0 ∨ n ≤ i.toNatClampNeg then none else some (st, ix_put hp a (.inl (2, n, .inl (upd f i.toNatClampNeg (vp_nar .boolean x)))))
    | _ => none
  | .aastore, .ref v :: .int i :: .ref a :: st, hp => match ix_arr hp a, ix_obj hp v with
    | some (t, n, .inr (.inr (.inr (.inr f)))), some (c, _) => if ix_tE T t = some c ∧ ¬ (i < 0 ∨ n ≤ i.toNatClampNeg) then some (st, ix_put hp a (.inl (t, n, .inr (.inr (.inr (.inr (va_up f i.toNatClampNeg (some v)))))))) else none
    | _, _ => none
  | .new idx, st, hp => match ix_tC T oc idx with
    | some (ci, _) => if hp.1 < 1000000 then some (.ref hp.1 :: st, ix_new hp (ix_tD T ci).1 (.inr (ci, (List.range (ix_tD T ci).1).map (fun j => defaultValue ((ix_tD T ci).2 j).1)))) else none
    | _ => none
  | .newarray aty, .int n :: st, hp => match ix_zero (ix_aty aty) n.toNatClampNeg with
    | some x => if ¬ n < 0 ∧ n.toNatClampNeg ≤ 1000000 ∧ hp.1 < 1000000 then some (.ref hp.1 :: st, ix_new hp n.toNatClampNeg (.inl x)) else none
    | none => none
  | .anewarray idx, .int n :: st, hp => match ix_tC T oc idx with
    | some (_, t) => if ¬ n < 0 ∧ n.toNatClampNeg ≤ 1000000 ∧ hp.1 < 1000000 ∧ ¬ t = 0 then some (.ref hp.1 :: st, ix_new hp n.toNatClampNeg (.inl (t, n.toNatClampNeg, .inr (.inr (.inr (.inr (fun _ => none))))))) else none
    | _ => none
  | .ldc idx, st, hp => match ix_tK T oc idx with
    | some (.int v) => some (.int v :: st, hp)
    | some (.ref a) => some (.ref a :: st, hp)
    | _ => none
  | .ldc_w idx, st, hp => match ix_tK T oc idx with
    | some (.int v) => some (.int v :: st, hp)
    | _ => none
  | .ldc2_w idx, st, hp => match ix_tK T oc idx with
    | some (.long v) => some (.long v :: st, hp)
    | _ => none
  | _, _, _ => none
noncomputable def ix_cats (st : List Value) : Nat := (st.map fun v => v.category).sum
/-- System.arraycopy between two rows of whole numbers -/
noncomputable def ix_acp (hp : ix_H) : List Value → Option (List Value × ix_H)
  | .int n :: .int dp :: .ref d :: .int sp :: .ref a :: st => match ix_arr hp a, ix_arr hp d with
    | some (0, n0, .inl f), some (0, n1, .inl g) => if ¬ sp < 0 ∧ ¬ dp < 0 ∧ ¬ n < 0 ∧ sp.toNatClampNeg + n.toNatClampNeg ≤ n0 ∧ dp.toNatClampNeg + n.toNatClampNeg ≤ n1 ∧ ix_cats st ≤ 8 then some (st, ix_put hp d (.inl (0, n1, .inl (va_cpy f g sp.toNatClampNeg dp.toNatClampNeg n.toNatClampNeg)))) else none
    | some (1, n0, .inr (.inl f)), some (1, n1, .inr (.inl g)) => if ¬ sp < 0 ∧ ¬ dp < 0 ∧ ¬ n < 0 ∧ sp.toNatClampNeg + n.toNatClampNeg ≤ n0 ∧ dp.toNatClampNeg + n.toNatClampNeg ≤ n1 ∧ ix_cats st ≤ 8 then some (st, ix_put hp d (.inl (1, n1, .inr (.inl (va_cpy f g sp.toNatClampNeg dp.toNatClampNeg n.toNatClampNeg))))) else none
    | _, _ => none
  | _ => none
noncomputable abbrev ix_F : Type := Nat → List Value → ix_H → Option (Option Value × ix_H)
/-- Math.min, max of ints, min of longs -/
noncomputable def ix_mth : Nat → List Value → Option (List Value)
  | 9, .int y :: .int x :: r => if ix_cats r ≤ 8 then some (.int (if y < x then y else x) :: r) else none
  | 10, .int y :: .int x :: r => if ix_cats r ≤ 8 then some (.int (if x < y then y else x) :: r) else none
  | 11, .long y :: .long x :: r => if ix_cats r ≤ 8 then some (.long (if y < x then y else x) :: r) else none
  | _, _ => none
/-- calls: what stands on the stack behind one, and the cells -/
noncomputable def ix_cal (T : ix_T) (f : ix_F) (oc : Nat) : Instr → List Value → ix_H → Option (List Value × ix_H)
  | .invokespecial idx, st, hp => match ix_tI T oc idx with
    | some (0, _, _) => (match st with
      | .ref _ :: rest => if ix_cats rest ≤ 8 then some (rest, hp) else none
      | _ => none)
    | some (kd, mid, na) => if kd = 1 ∨ kd = 2 then (match st.drop na with
      | .ref a :: rest => if ix_cats rest ≤ 8 ∧ na ≤ st.length then (match f mid (.ref a :: (st.take na).reverse) hp with
        | some (none, hp') => some (rest, hp')
        | _ => none) else none
      | _ => none) else none
    | none => none
  | .invokevirtual idx, st, hp => match ix_tI T oc idx with
    | some (kd, mid, na) => if kd = 3 ∨ kd = 4 then (match st.drop na, ix_tM T mid with
      | .ref a :: rest, some M => (match ix_obj hp a with
        | some (c, _) => if c = M.1 ∧ ix_cats rest ≤ 8 ∧ na ≤ st.length then (match f mid (.ref a :: (st.take na).reverse) hp with
          | some (rv, hp') => some (rv.toList ++ rest, hp')
          | none => none) else none
        | none => none)
      | _, _ => none) else if kd = 8 then (match st.drop na with
      | .ref a :: rest => (match ix_cno T a with
        | some _ => if ix_cats rest ≤ 8 ∧ na ≤ st.length then (match f mid (.ref a :: (st.take na).reverse) hp with
          | some (rv, hp') => some (rv.toList ++ rest, hp')
          | none => none) else none
        | none => none)
      | _ => none) else none
    | none => none
  | .invokestatic idx, st, hp => match ix_tI T oc idx with
    | some (7, _, _) => ix_acp hp st
    | some (kd, mid, na) => if (kd = 5 ∨ kd = 6) ∧ ix_cats (st.drop na) ≤ 8 ∧ na ≤ st.length then (match f mid (st.take na).reverse hp with
      | some (rv, hp') => some (rv.toList ++ st.drop na, hp')
      | none => none) else match ix_mth kd st with
      | some st' => some (st', hp)
      | none => none
    | none => none
  | _, _, _ => none
/-- an answer -/
noncomputable def ix_ret (ret : Option FieldType) : Instr → List Value → Option (Option Value)
  | .return_, [] => match ret with
    | none => some none
    | some _ => none
  | .ireturn, [.int v] => match ret with
    | some ty => if narrow ty (.int v) = .int v then some (some (.int v)) else none
    | none => none
  | .lreturn, [.long v] => if ret = some .long then some (some (.long v)) else none
  | .areturn, [.ref a] => match ret with
    | some (.object _) => some (some (.ref a))
    | some (.array _) => some (some (.ref a))
    | _ => none
  | _, _ => none
noncomputable def ix_one (T : ix_T) (f : ix_F) (M : ix_M) : ix_S → Option (ix_S ⊕ (Option Value × ix_H))
  | (pc, ls, st, hp) => match M.2.2.2.2.2.2 pc with
    | none => none
    | some i => match ix_ret M.2.2.2.2.1 i st with
      | some rv => some (.inr (rv, hp))
      | none => match ix_alu i st with
        | some st' => some (.inl (pc + ix_len i, ls, st', hp))
        | none => match ix_loc i M.2.2.2.1 ls st with
          | some (ls', st') => some (.inl (pc + ix_len i, ls', st', hp))
          | none => match ix_hp T M.1 M.2.2.2.2.2.1 i st hp with
            | some (st', hp') => some (.inl (pc + ix_len i, ls, st', hp'))
            | none => match ix_br i pc st with
              | some (pc', st') => some (.inl (pc', ls, st', hp))
              | none => match ix_cal T f M.1 i st hp with
                | some (st', hp') => some (.inl (pc + ix_len i, ls, st', hp'))
                | none => none
noncomputable def ix_iter (T : ix_T) (f : ix_F) (M : ix_M) : Nat → ix_S → Option (ix_S ⊕ (Option Value × ix_H))
  | 0, σ => ix_one T f M σ
  | k + 1, σ => match ix_iter T f M k σ with
    | some (.inl σ') => ix_iter T f M k σ'
    | x => x
noncomputable def ix_run (T : ix_T) (k : Nat) : Nat → ix_F
  | 0, _, _, _ => none
  | d + 1, mid, args, hp => match ix_tM T mid with
    | none => none
    | some M => if (lg_sl args).length ≤ M.2.2.2.1 then (match ix_iter T (ix_run T k d) M k (0, lv_args 0 args, [], hp) with
      | some (.inr r) => some r
      | _ => none) else none
end
section
/-! ===== each instruction of the interpreter is the machine's: stack, locals, branches ===== -/
section IX2
variable {p : Program} {l : Launch} {e : Env} {R : Room} {s : State} {m : MethodId} {args : Array Value} {below : List Frame} {meth : Method} {c : Code} {H : Heap} {locs : List Loc} {cells slots : Nat} {Q : State → Prop}
variable {cc : ByteArray} {pc : Nat} {arr : Array Slot} {ad : Nat → Nat}
set_option maxHeartbeats 4000000 in
theorem ix_alu_ok (hx : p.tables.exec = Jvm.exec) (hb : c.code = cc) {i : Instr} {st st' : List Value} (hd : decode cc pc = .ok (i, ix_len i)) (h : ix_alu i st = some st') (k : W p l e R s m args below meth c H locs cells slots Q (F0 m (pc + ix_len i) arr (st'.map (ix_v ad)))) : W p l e R s m args below meth c H locs cells slots Q (F0 m pc arr (st.map (ix_v ad))) := by
  unfold ix_alu at h
  split at h
  · cases h
    exact lv_null hx hb hd k
  · cases h
    exact lv_iconst hx hb hd rfl k
  · cases h
    exact lv_bipush hx hb hd rfl k
  · cases h
    exact lv_sipush hx hb hd rfl k
  · cases h
    exact lv_lconst hx hb hd rfl k
  · cases h
    exact lv_iadd hx hb hd k
  · cases h
    exact lv_isub hx hb hd k
  · cases h
    exact lv_imul hx hb hd k
  · cases h
    exact lv_iand hx hb hd k
  · cases h
    exact lv_ior hx hb hd k
  · cases h
    exact lv_ixor hx hb hd k
  · split at h
    · cases h
    · rename_i hy
      cases h
      exact lv_idiv hx hb hd hy k
  · split at h
    · cases h
    · rename_i hy
      cases h
      exact lv_irem hx hb hd hy k
  · cases h
    exact lv_ineg hx hb hd k
  · cases h
    exact lv_ishl hx hb hd k
  · cases h
    exact lv_ishr hx hb hd k
  · cases h
    exact lv_iushr hx hb hd rfl k
  · cases h
    exact lv_ladd hx hb hd k
  · cases h
    exact lv_lsub hx hb hd k
  · cases h
    exact lv_lmul hx hb hd k
  · cases h
    exact lv_land hx hb hd k
  · cases h
    exact lv_lor hx hb hd k
  · cases h
    exact lv_lxor hx hb hd k
  · split at h
    · cases h
    · rename_i hy
      cases h
      exact lv_ldiv hx hb hd hy k
  · split at h
    · cases h
    · rename_i hy
      cases h
      exact lv_lrem hx hb hd hy k
  · cases h
    exact lv_lneg hx hb hd k
  · cases h
    exact lv_lshl hx hb hd rfl k
  · cases h
    exact lv_lshr hx hb hd rfl k
  · cases h
    exact lv_lushr hx hb hd rfl k
  · cases h
    exact W.lcmp hx hb hd k
  · cases h
    exact lv_i2l hx hb hd rfl k
  · cases h
    exact lv_l2i hx hb hd rfl k
  · cases h
    exact lv_i2b hx hb hd rfl k
  · cases h
    exact lv_i2s hx hb hd rfl k
  · cases h
    exact lv_i2c hx hb hd rfl k
  · split at h
    · rename_i ha
      cases h
      exact lv_dup hx hb hd ((ix_v_cat ad _).trans ha) k
    · cases h
  · split at h
    · rename_i ha
      cases h
      exact lv_pop hx hb hd ((ix_v_cat ad _).trans ha) k
    · cases h
  · split at h
    · rename_i ha
      cases h
      exact lv_dup_x1 hx hb hd ((ix_v_cat ad _).trans ha.1) ((ix_v_cat ad _).trans ha.2) k
    · cases h
  · split at h
    · rename_i ha
      cases h
      exact lv_dup_x2 hx hb hd ((ix_v_cat ad _).trans ha.1) ((ix_v_cat ad _).trans ha.2.1) ((ix_v_cat ad _).trans ha.2.2) k
    · cases h
  · split at h
    · rename_i ha
      cases h
      exact lv_dup2_11 hx hb hd ((ix_v_cat ad _).trans ha.1) ((ix_v_cat ad _).trans ha.2) k
    · cases h
  · split at h
    · rename_i ha
      cases h
      exact lv_dup2_x1_2 hx hb hd ((ix_v_cat ad _).trans ha.1) ((ix_v_cat ad _).trans ha.2) k
    · cases h
  · split at h
    · rename_i ha
      cases h
      exact lv_dup2_x2_2 hx hb hd ((ix_v_cat ad _).trans ha.1) ((ix_v_cat ad _).trans ha.2.1) ((ix_v_cat ad _).trans ha.2.2) k
    · cases h
  · split at h
    · rename_i ha
      cases h
      exact lv_pop2_2 hx hb hd ((ix_v_cat ad _).trans ha) k
    · cases h
  · cases h
set_option maxHeartbeats 4000000 in
theorem ix_loc_ok (hx : p.tables.exec = Jvm.exec) (hb : c.code = cc) {i : Instr} {st st' : List Value} {nL : Nat} {ls ls' : ix_L} (hl : lv_has arr nL (ix_l ad ls)) (hd : decode cc pc = .ok (i, ix_len i)) (h : ix_loc i nL ls st = some (ls', st')) (k : ∀ arr' : Array Slot, lv_has arr' nL (ix_l ad ls') → W p l e R s m args below meth c H locs cells slots Q (F0 m (pc + ix_len i) arr' (st'.map (ix_v ad)))) : W p l e R s m args below meth c H locs cells slots Q (F0 m pc arr (st.map (ix_v ad))) := by
  unfold ix_loc at h
  split at h
  · split at h
    · rename_i hx1
      cases h
      exact lv_iload_n hx hb hd rfl (ix_ld_has hl hx1) (k arr hl)
    · cases h
  · split at h
    · rename_i hx1
      cases h
      exact lv_iload hx hb hd (ix_ld_has hl hx1) (k arr hl)
    · cases h
  · split at h
    · rename_i hx1
      cases h
      exact lv_lload_n hx hb hd rfl (ix_ld_has hl hx1) (k arr hl)
    · cases h
  · split at h
    · rename_i hx1
      cases h
      exact lv_lload hx hb hd (ix_ld_has hl hx1) (k arr hl)
    · cases h
  · split at h
    · rename_i hx1
      cases h
      exact lv_aload_n hx hb hd rfl (ix_ld_has hl hx1) (k arr hl)
    · cases h
  · split at h
    · rename_i hx1
      cases h
      exact lv_aload hx hb hd (ix_ld_has hl hx1) (k arr hl)
    · cases h
  · split at h
    · rename_i hn
      cases h
      exact lv_istore_n hx hb hd rfl hl hn (ix_l_st1 ad ls _ (.int _)) k
    · cases h
  · split at h
    · rename_i hn
      cases h
      exact lv_istore hx hb hd hl hn (ix_l_st1 ad ls _ (.int _)) k
    · cases h
  · split at h
    · rename_i hn
      cases h
      exact lv_lstore_n hx hb hd rfl hl hn (ix_l_st2 ad ls _ (.long _)) k
    · cases h
  · split at h
    · rename_i hn
      cases h
      exact lv_lstore hx hb hd hl hn (ix_l_st2 ad ls _ (.long _)) k
    · cases h
  · split at h
    · rename_i hn
      cases h
      exact lv_astore_n hx hb hd rfl hl hn (ix_l_st1 ad ls _ (.ref _)) k
    · cases h
  · split at h
    · rename_i hn
      cases h
      exact lv_astore hx hb hd hl hn (ix_l_st1 ad ls _ (.ref _)) k
    · cases h
  · split at h
    · rename_i hx1
      split at h
      · rename_i hn
        cases h
        obtain ⟨k0, hk0⟩ := List.getElem?_of_mem (List.mem_map.mpr ⟨_, ix_ld_mem hx1, rfl⟩ : _ ∈ ix_l ad ls)
        exact lv_iinc hx hb hd hl hk0 rfl hn (ix_l_st1 ad ls _ (.int _)) k
      · cases h
    · cases h
  · cases h
theorem ix_if_ok (hx : p.tables.exec = Jvm.exec) (hb : c.code = cc) {cd : Jvm.ClassFile.Cond} {off : Int} {x : Int32} {t : Nat} {rest : List Value} (hd : decode cc pc = .ok (.ifCond cd off, 3)) (ht : ix_tg pc off = some t) (kt : ix_cb cd x 0 = true → W p l e R s m args below meth c H locs cells slots Q (F0 m t arr rest)) (kf : ix_cb cd x 0 = false → W p l e R s m args below meth c H locs cells slots Q (F0 m (pc + 3) arr rest)) : W p l e R s m args below meth c H locs cells slots Q (F0 m pc arr (.int x :: rest)) := by
  cases cd with
  | eq => exact lv_if_eq hx hb hd (ix_tg_ok ht) (fun q => kt (decide_eq_true q)) (fun q => kf (decide_eq_false q))
  | ne => exact lv_if_ne hx hb hd (ix_tg_ok ht) (fun q => kt (decide_eq_true q)) (fun q => kf (decide_eq_false (fun z => z q)))
  | lt => exact lv_if_lt hx hb hd (ix_tg_ok ht) (fun q => kt (decide_eq_true q)) (fun q => kf (decide_eq_false q))
  | ge => exact lv_if_ge hx hb hd (ix_tg_ok ht) (fun q => kt (decide_eq_true q)) (fun q => kf (decide_eq_false q))
  | gt => exact lv_if_gt hx hb hd (ix_tg_ok ht) (fun q => kt (decide_eq_true q)) (fun q => kf (decide_eq_false q))
  | le => exact lv_if_le hx hb hd (ix_tg_ok ht) (fun q => kt (decide_eq_true q)) (fun q => kf (decide_eq_false q))
theorem ix_icmp_ok (hx : p.tables.exec = Jvm.exec) (hb : c.code = cc) {cd : Jvm.ClassFile.Cond} {off : Int} {x y : Int32} {t : Nat} {rest : List Value} (hd : decode cc pc = .ok (.if_icmp cd off, 3)) (ht : ix_tg pc off = some t) (kt : ix_cb cd x y = true → W p l e R s m args below meth c H locs cells slots Q (F0 m t arr rest)) (kf : ix_cb cd x y = false → W p l e R s m args below meth c H locs cells slots Q (F0 m (pc + 3) arr rest)) : W p l e R s m args below meth c H locs cells slots Q (F0 m pc arr (.int y :: .int x :: rest)) := by
  cases cd with
  | eq => exact lv_icmp_eq hx hb hd (ix_tg_ok ht) (fun q => kt (decide_eq_true q)) (fun q => kf (decide_eq_false q))
  | ne => exact lv_icmp_ne hx hb hd (ix_tg_ok ht) (fun q => kt (decide_eq_true q)) (fun q => kf (decide_eq_false (fun z => z q)))
  | lt => exact lv_icmp_lt hx hb hd (ix_tg_ok ht) (fun q => kt (decide_eq_true q)) (fun q => kf (decide_eq_false q))
  | ge => exact lv_icmp_ge hx hb hd (ix_tg_ok ht) (fun q => kt (decide_eq_true q)) (fun q => kf (decide_eq_false q))
  | gt => exact lv_icmp_gt hx hb hd (ix_tg_ok ht) (fun q => kt (decide_eq_true q)) (fun q => kf (decide_eq_false q))
  | le => exact lv_icmp_le hx hb hd (ix_tg_ok ht) (fun q => kt (decide_eq_true q)) (fun q => kf (decide_eq_false q))
theorem ix_d3 {i : Instr} {len n : Nat} (hd : decode cc pc = .ok (i, len)) (hlen : ix_len i = 0 ∨ ix_len i = len) (hn : ix_len i = n + 1) : decode cc pc = .ok (i, n + 1) := by
  rcases hlen with h | h
  · omega
  · rw [hd, ← h, hn]
set_option maxHeartbeats 4000000 in
theorem ix_br_ok (hx : p.tables.exec = Jvm.exec) (hb : c.code = cc) {base : Nat} (had : ∀ a : Nat, a < 1000000 → ad a = base + a) {i : Instr} {len pc' : Nat} {st st' : List Value} (hd : decode cc pc = .ok (i, len)) (hlen : ix_len i = 0 ∨ ix_len i = len) (h : ix_br i pc st = some (pc', st')) (k : W p l e R s m args below meth c H locs cells slots Q (F0 m pc' arr (st'.map (ix_v ad)))) : W p l e R s m args below meth c H locs cells slots Q (F0 m pc arr (st.map (ix_v ad))) := by
  unfold ix_br at h
  split at h
  · have hd := ix_d3 hd hlen rfl
    split at h
    · rename_i ht
      cases h
      exact lv_goto hx hb hd (ix_tg_ok ht) k
    · cases h
  · have hd := ix_d3 hd hlen rfl
    split at h
    · rename_i ht
      refine ix_if_ok hx hb hd ht (fun hc => ?_) (fun hc => ?_)
      · rw [hc] at h
        cases h
        exact k
      · rw [hc] at h
        cases h
        exact k
    · cases h
  · have hd := ix_d3 hd hlen rfl
    split at h
    · rename_i ht
      refine ix_icmp_ok hx hb hd ht (fun hc => ?_) (fun hc => ?_)
      · rw [hc] at h
        cases h
        exact k
      · rw [hc] at h
        cases h
        exact k
    · cases h
  · have hd := ix_d3 hd hlen rfl
    split at h
    · rename_i y x st0 _ _ t ht
      split at h
      · rename_i hxy
        refine lv_acmp_ne (rx := some (ad x)) (ry := some (ad y)) hx hb hd (ix_tg_ok ht) (fun hn => ?_) (fun hn => ?_)
        · cases hc : Nat.beq x y with
          | true =>
            have e : x = y := Nat.eq_of_beq_eq_true hc
            exact absurd (by rw [e]) hn
          | false =>
            rw [hc] at h
            cases h
            exact k
        · have e : x = y := by
            have := Option.some.inj hn
            rw [had x hxy.1, had y hxy.2] at this
            exact Nat.add_left_cancel this
          subst e
          have hc : Nat.beq x x = true := by simp
          rw [hc] at h
          cases h
          exact k
      · cases h
    · cases h
  · split at h
    · rename_i ho
      split at h
      · rename_i ht
        cases h
        exact lv_tableOut hx hb hd ho (ix_tg_ok ht) k
      · cases h
    · rename_i ho
      split at h
      · rename_i off hoff
        split at h
        · rename_i ht
          cases h
          exact lv_tableIn hx hb hd (fun q => ho (Or.inl q)) (fun q => ho (Or.inr q)) hoff (ix_tg_ok ht) k
        · cases h
      · cases h
  · split at h
    · rename_i hs
      split at h
      · rename_i ht
        cases h
        exact lv_lookup hx hb hd hs rfl (ix_tg_ok ht) k
      · cases h
    · cases h
  · cases h
end IX2
end
section
/-! ===== each instruction of the interpreter is the machine's: cells ===== -/
noncomputable def ix_okF (T : ix_T) (cl : List vw_C) (on : Nat → String) (Ts : List Cond) : Prop := ∀ (oc idx ci j : Nat), ix_tF T oc idx = some (ci, j) → ∃ r : vw_C, cl[ci]? = some r ∧ j < r.2.2 ∧ Cond.fieldLink (on oc) idx r.1 (r.2.1 j).2.1 (r.2.1 j).2.2.1 ∈ Ts
noncomputable def ix_okD (T : ix_T) (cl : List vw_C) (on : Nat → String) (Ts : List Cond) : Prop := ∀ (ci : Nat) (r : vw_C), cl[ci]? = some r → (ix_tD T ci).1 = r.2.2 ∧ on ci = r.1 ∧ (∀ w ∈ u_ws r.1 r.2.1 r.2.2, w ∈ Ts) ∧ (∀ k, k < r.2.2 → parseFieldDescriptor (r.2.1 k).2.2.1 = some ((ix_tD T ci).2 k).1) ∧ (∀ k, k < r.2.2 → (r.2.1 k).2.2.2 = ((ix_tD T ci).2 k).2 ∧ (r.2.1 k).1 = r.1) ∧ (∀ a, a < r.2.2 → ∀ b, b < r.2.2 → a ≠ b → (r.2.1 a).2.1 ≠ (r.2.1 b).2.1) ∧ Cond.instantiable r.1 r.2.2 ∈ Ts ∧ Cond.initialized r.1 ∈ Ts
noncomputable def ix_okC (T : ix_T) (cl : List vw_C) (on : Nat → String) (Ts : List Cond) : Prop := ∀ (oc idx ci t : Nat), ix_tC T oc idx = some (ci, t) → ∃ r : vw_C, cl[ci]? = some r ∧ Cond.classLink (on oc) idx r.1 ∈ Ts ∧ (¬ t = 0 → ix_tE T t = some ci)
noncomputable def ix_okK (T : ix_T) (on : Nat → String) (Ts : List Cond) : Prop := (∀ (oc idx : Nat) (v : Int32), ix_tK T oc idx = some (.int v) → Jvm.Cond.constant (on oc) idx v ∈ Ts) ∧ ∀ (oc idx : Nat) (v : Int64), ix_tK T oc idx = some (.long v) → Jvm.Cond.constantLong (on oc) idx v ∈ Ts
/-- the array types: 0 int, 1 long, 2 boolean, then those of objects -/
noncomputable def ix_okY (T : ix_T) (cl : List vw_C) (aC : Nat → ClassId) (tys : List (ClassId × FieldType)) (Ts : List Cond) (s : State) : Prop := (tys[0]? = some (aC 0, .int) ∧ tys[1]? = some (aC 1, .long) ∧ tys[2]? = some (aC 2, .boolean)) ∧ (Cond.arrayClass .int ∈ Ts ∧ Cond.arrayClass .long ∈ Ts ∧ Cond.arrayClass .boolean ∈ Ts) ∧ ∀ (t ci : Nat), ix_tE T t = some ci → ∃ r : vw_C, cl[ci]? = some r ∧ tys[t]? = some (aC t, .object r.1) ∧ va_AO r.1 s
/-- the constant rows, and the statics that hold them -/
noncomputable def ix_okA (T : ix_T) (on : Nat → String) (Ts : List Cond) (ad : Nat → Nat) (base : Nat) (U : State) (H : Heap) : Prop := (∀ (k N : Nat) (f : Nat → Int32), ix_tA T k = some (N, f) → va_T .int (ad (1000000 + k)) N (fun j => .int (f j)) (fun q => base ≤ q) U H) ∧ (∀ (oc idx : Nat) (v : Value), ix_tS T oc idx = some v → ∃ C n d : String, Cond.fieldLink (on oc) idx C n d ∈ Ts ∧ va_Z C n d (ix_v ad v) (fun q => base ≤ q) U H) ∧ (∀ (k N : Nat) (f : Nat → Int32), ix_tB T k = some (N, f) → va_T .byte (ad (1000000 + k)) N (fun j => .int (f j)) (fun q => base ≤ q) U H) ∧ (∀ (k b : Nat), ix_tO T k = some b → va_O "java/lang/String" (ad (1000000 + k)) (fun q => base ≤ q) U H ∧ va_OF "java/lang/String" "coder" "B" (.int 0) (ad (1000000 + k)) (fun q => base ≤ q) U H ∧ va_OF "java/lang/String" "value" "[B" (.ref (ad (1000000 + b))) (ad (1000000 + k)) (fun q => base ≤ q) U H) ∧ (∀ (oc idx a : Nat), ix_tK T oc idx = some (.ref a) → ∃ tx : String, vk_R (on oc) idx tx (ad a) U) ∧ ∀ (oc idx : Nat) (g : Bool), ix_tG T oc idx = some g → Cond.fieldLink (on oc) idx "java/lang/String" (bif g then "value" else "coder") (bif g then "[B" else "B") ∈ Ts
/-- the heap holds the abstract cells from the address base on; nothing below it was touched -/
noncomputable def ix_W (D : va_G) (cl : List vw_C) (aC : Nat → ClassId) (ad : Nat → Nat) (base : Nat) (hp : ix_H) (s : State) (H : Heap) (locs : List Loc) : Prop := hp.1 ≤ 1000000 ∧ va_P D cl (ix_ws aC ad base hp.1 hp.2.2) H ∧ va_D (fun q => base ≤ q) (ix_ws aC ad base hp.1 hp.2.2) ∧ va_S (fun q => base ≤ q) s.heap H locs
section IX3
variable {p : Program} {l : Launch} {e : Env} {R : Room} {s : State} {m : MethodId} {args : Array Value} {below : List Frame} {meth : Method} {c : Code} {H : Heap} {locs : List Loc} {cells slots : Nat} {Q : State → Prop}
variable {cc : ByteArray} {pc : Nat} {arr : Array Slot} {ad : Nat → Nat} {rest : List Value}
variable {T : ix_T} {D : va_G} {cl : List vw_C} {aC : Nat → ClassId} {tys : List (ClassId × FieldType)} {on : Nat → String} {Ts : List Cond} {base : Nat} {hp : ix_H} {oc : Nat}
theorem ix_size {g : JFrame} (k : H.size ≤ s.heap.size + cells → W p l e R s m args below meth c H locs cells slots Q g) : W p l e R s m args below meth c H locs cells slots Q g := fun T hT X => k (by rw [← hT]; exact X.heapSize) T hT X
theorem ix_W.lo (hW : ix_W D cl aC ad base hp s H locs) {n0 : Nat} (h0 : s.heap.size = base + n0) : base + hp.1 ≤ H.size := by
  obtain ⟨hc, hP, hD, hS⟩ := hW
  by_cases hz : hp.1 = 0
  · have := hS.1
    omega
  · have h1 := (hP (hp.1 - 1) _ (ix_ws_get (by omega))).lt
    have h2 : base + (hp.1 - 1) < H.size := h1
    omega
theorem ix_W.eqs (hW : ix_W D cl aC ad base hp s H locs) {n0 : Nat} (h0 : s.heap.size = base + n0) (hn : n0 ≤ hp.1) (hu : H.size ≤ s.heap.size + (hp.1 - n0)) : H.size = base + hp.1 := by
  have := hW.lo h0
  omega
theorem ix_getf (hx : p.tables.exec = Jvm.exec) (hb : c.code = cc) (had : ∀ a : Nat, a < 1000000 → ad a = base + a) (hts : ∀ w ∈ Ts, w.before args s = true) (hown : s.vm.findClass (on oc) = some m.cls) (hK : va_K D cl tys s) (hF : ix_okF T cl on Ts) (hO : ix_okD T cl on Ts) (hW : ix_W D cl aC ad base hp s H locs)
    {idx ci j a : Nat} {fs : List Value} {v : Value} (h1 : ix_tF T oc idx = some (ci, j)) (h2 : ix_obj hp a = some (ci, fs)) (h3 : fs[j]? = some v) (hd : decode cc pc = .ok (.getfield idx, 3))
    (k : W p l e R s m args below meth c H locs cells slots Q (F0 m (pc + 3) arr (ix_v ad v :: rest))) : W p l e R s m args below meth c H locs cells slots Q (F0 m pc arr (.ref (ad a) :: rest)) := by
  obtain ⟨ha, he⟩ := ix_obj_ok h2
  obtain ⟨r, hr, hj, hl⟩ := hF _ _ _ _ h1
  obtain ⟨-, -, hin, -, hfd, -⟩ := hO _ _ hr
  obtain ⟨hcap, hP, hD, hS⟩ := hW
  rw [had a (by omega)]
  have hw := ix_ws_get (aC := aC) (ad := ad) (base := base) (h := hp.2.2) ha
  rw [he] at hw
  exact va_get (D := D) (ci := ci) (C := r.1) (T := r.2.1) (N := r.2.2) hx hb hts hin hown hK hP a hw hr j hj (hts _ hl) (fun x h9 => by rw [(hfd j hj).2] at h9; exact h9) (by rw [List.getElem?_map, h3]; rfl) hd k
theorem ix_putf (hx : p.tables.exec = Jvm.exec) (hb : c.code = cc) (had : ∀ a : Nat, a < 1000000 → ad a = base + a) (hts : ∀ w ∈ Ts, w.before args s = true) (hown : s.vm.findClass (on oc) = some m.cls) (hK : va_K D cl tys s) (hF : ix_okF T cl on Ts) (hO : ix_okD T cl on Ts) (hW : ix_W D cl aC ad base hp s H locs)
    {idx ci j a : Nat} {fs : List Value} {v : Value} (h1 : ix_tF T oc idx = some (ci, j)) (h2 : ix_obj hp a = some (ci, fs)) (h3 : j < fs.length) (hn : narrow ((ix_tD T ci).2 j).1 v = v) (hf : fits ((ix_tD T ci).2 j).1 v = true) (hfin : ((ix_tD T ci).2 j).2 = false ∨ (meth.name = "<init>" ∧ ci = oc)) (hd : decode cc pc = .ok (.putfield idx, 3))
    (k : ∀ (H1 : Heap) (locs1 : List Loc), ix_W D cl aC ad base (ix_put hp a (.inr (ci, fs.set j v))) s H1 locs1 → W p l e R s m args below meth c H1 locs1 cells slots Q (F0 m (pc + 3) arr rest)) : W p l e R s m args below meth c H locs cells slots Q (F0 m pc arr (ix_v ad v :: .ref (ad a) :: rest)) := by
  obtain ⟨ha, he⟩ := ix_obj_ok h2
  obtain ⟨r, hr, hj, hl⟩ := hF _ _ _ _ h1
  obtain ⟨-, hon, hin, hpd, hfd, hnm, -⟩ := hO _ _ hr
  obtain ⟨hcap, hP, hD, hS⟩ := hW
  rw [had a (by omega)]
  have hw := ix_ws_get (aC := aC) (ad := ad) (base := base) (h := hp.2.2) ha
  rw [he] at hw
  have hset : (ix_ws aC ad base hp.1 hp.2.2).set a (base + a, .inr (ci, (fs.map (ix_v ad)).set j (ix_v ad v))) = ix_ws aC ad base hp.1 (ix_up hp.2.2 a (.inr (ci, fs.set j v))) := by
    rw [← ix_ws_set]
    simp only [ix_e, List.map_set]
  cases hfb : ((ix_tD T ci).2 j).2 with
  | false =>
    refine va_put (D := D) (ci := ci) (C := r.1) (T := r.2.1) (N := r.2.2) hx hb hts hin (fun k => ((ix_tD T ci).2 k).1) hpd hnm hown hK hP hD hS a hw hr j hj (hts _ hl) (fun x h9 => by rw [(hfd j hj).2] at h9; exact h9) (by rw [(hfd j hj).1]; exact hfb) (hpd j hj) (ix_v_narrow hn) (ix_v_fits hf) (by rw [List.length_map]; exact h3) hd (fun H1 locs1 hP1 hD1 hS1 => ?_)
    rw [hset] at hP1 hD1
    exact k H1 locs1 ⟨hcap, hP1, hD1, hS1⟩
  | true =>
    have hfi : meth.name = "<init>" ∧ ci = oc := hfin.resolve_left (by rw [hfb]; decide)
    refine va_putF (D := D) (ci := ci) (C := r.1) (T := r.2.1) (N := r.2.2) hx hb hts hin (fun k => ((ix_tD T ci).2 k).1) hpd hnm hown hK hP hD hS a hw hr j hj (hts _ hl) (fun x h9 => by rw [(hfd j hj).2] at h9; exact h9) (by rw [(hfd j hj).1]; exact hfb) hfi.1 (by rw [(hfd j hj).2, ← hon, hfi.2]) (hpd j hj) (ix_v_narrow hn) (ix_v_fits hf) (by rw [List.length_map]; exact h3) hd (fun H1 locs1 hP1 hD1 hS1 => ?_)
    rw [hset] at hP1 hD1
    exact k H1 locs1 ⟨hcap, hP1, hD1, hS1⟩
theorem ix_alen (hx : p.tables.exec = Jvm.exec) (hb : c.code = cc) (had : ∀ a : Nat, a < 1000000 → ad a = base + a) (hK : va_K D cl tys s) (hY : ix_okY T cl aC tys Ts s) (hW : ix_W D cl aC ad base hp s H locs)
    {a t n : Nat} {x : (Nat → Int32) ⊕ (Nat → Int64) ⊕ (Nat → UInt32) ⊕ (Nat → UInt64) ⊕ (Nat → Option Nat)} (h2 : ix_arr hp a = some (t, n, x)) (ht : t < 3 ∨ (ix_tE T t).isSome = true) (hd : decode cc pc = .ok (.arraylength, 1))
    (k : W p l e R s m args below meth c H locs cells slots Q (F0 m (pc + 1) arr (.int (Int32.ofNat n) :: rest))) : W p l e R s m args below meth c H locs cells slots Q (F0 m pc arr (.ref (ad a) :: rest)) := by
  obtain ⟨ha, he⟩ := ix_arr_ok h2
  obtain ⟨hcap, hP, hD, hS⟩ := hW
  rw [had a (by omega)]
  have hw := ix_ws_get (aC := aC) (ad := ad) (base := base) (h := hp.2.2) ha
  rw [he] at hw
  have hn : (ix_a ad (n, x)).1 = n := by
    rcases x with f | f | f | f | f <;> rfl
  have hty : ∃ ty, tys[t]? = some (aC t, ty) := by
    rcases ht with h | h
    · obtain ⟨⟨y0, y1, y2⟩, -, -⟩ := hY
      rcases (show t = 0 ∨ t = 1 ∨ t = 2 by omega) with rfl | rfl | rfl
      · exact ⟨_, y0⟩
      · exact ⟨_, y1⟩
      · exact ⟨_, y2⟩
    · obtain ⟨ci, hci⟩ := Option.isSome_iff_exists.mp h
      obtain ⟨r, -, hr, -⟩ := hY.2.2 t ci hci
      exact ⟨_, hr⟩
  obtain ⟨ty, hty⟩ := hty
  exact va_alen hx hb hK hP a t hw hty (by rw [hn]) hd k
theorem ix_vin {i : Int32} {n : Nat} (h : ¬ (i < 0 ∨ n ≤ i.toNatClampNeg)) : vp_in i n := h
theorem ix_iald (hx : p.tables.exec = Jvm.exec) (hb : c.code = cc) (had : ∀ a : Nat, a < 1000000 → ad a = base + a) (hK : va_K D cl tys s) (hY : ix_okY T cl aC tys Ts s) (hW : ix_W D cl aC ad base hp s H locs)
    {a n : Nat} {i : Int32} {f : Nat → Int32} (h2 : ix_arr hp a = some (0, n, .inl f)) (hi : ¬ (i < 0 ∨ n ≤ i.toNatClampNeg)) (hd : decode cc pc = .ok (.iaload, 1))
    (k : W p l e R s m args below meth c H locs cells slots Q (F0 m (pc + 1) arr (.int (f i.toNatClampNeg) :: rest))) : W p l e R s m args below meth c H locs cells slots Q (F0 m pc arr (.int i :: .ref (ad a) :: rest)) := by
  obtain ⟨ha, he⟩ := ix_arr_ok h2
  obtain ⟨hcap, hP, hD, hS⟩ := hW
  rw [had a (by omega)]
  have hw := ix_ws_get (aC := aC) (ad := ad) (base := base) (h := hp.2.2) ha
  rw [he] at hw
  exact va_iald hx hb hK hP a 0 hw hY.1.1 hi hd k
theorem ix_lald (hx : p.tables.exec = Jvm.exec) (hb : c.code = cc) (had : ∀ a : Nat, a < 1000000 → ad a = base + a) (hK : va_K D cl tys s) (hY : ix_okY T cl aC tys Ts s) (hW : ix_W D cl aC ad base hp s H locs)
    {a n : Nat} {i : Int32} {f : Nat → Int64} (h2 : ix_arr hp a = some (1, n, .inr (.inl f))) (hi : ¬ (i < 0 ∨ n ≤ i.toNatClampNeg)) (hd : decode cc pc = .ok (.laload, 1))
    (k : W p l e R s m args below meth c H locs cells slots Q (F0 m (pc + 1) arr (.long (f i.toNatClampNeg) :: rest))) : W p l e R s m args below meth c H locs cells slots Q (F0 m pc arr (.int i :: .ref (ad a) :: rest)) := by
  obtain ⟨ha, he⟩ := ix_arr_ok h2
  obtain ⟨hcap, hP, hD, hS⟩ := hW
  rw [had a (by omega)]
  have hw := ix_ws_get (aC := aC) (ad := ad) (base := base) (h := hp.2.2) ha
  rw [he] at hw
  exact va_lald hx hb hK hP a 1 hw hY.1.2.1 hi hd k
theorem ix_zald (hx : p.tables.exec = Jvm.exec) (hb : c.code = cc) (had : ∀ a : Nat, a < 1000000 → ad a = base + a) (hK : va_K D cl tys s) (hY : ix_okY T cl aC tys Ts s) (hW : ix_W D cl aC ad base hp s H locs)
    {a n : Nat} {i : Int32} {f : Nat → Int32} (h2 : ix_arr hp a = some (2, n, .inl f)) (hi : ¬ (i < 0 ∨ n ≤ i.toNatClampNeg)) (hd : decode cc pc = .ok (.baload, 1))
    (k : W p l e R s m args below meth c H locs cells slots Q (F0 m (pc + 1) arr (.int (f i.toNatClampNeg) :: rest))) : W p l e R s m args below meth c H locs cells slots Q (F0 m pc arr (.int i :: .ref (ad a) :: rest)) := by
  obtain ⟨ha, he⟩ := ix_arr_ok h2
  obtain ⟨hcap, hP, hD, hS⟩ := hW
  rw [had a (by omega)]
  have hw := ix_ws_get (aC := aC) (ad := ad) (base := base) (h := hp.2.2) ha
  rw [he] at hw
  exact va_zald hx hb hK hP a 2 hw hY.1.2.2 hi hd k
theorem ix_v_rf (ad : Nat → Nat) (r : Option Nat) : ix_v ad (va_rf r) = va_rf (r.map ad) := by cases r <;> rfl
theorem ix_aald (hx : p.tables.exec = Jvm.exec) (hb : c.code = cc) (had : ∀ a : Nat, a < 1000000 → ad a = base + a) (hK : va_K D cl tys s) (hY : ix_okY T cl aC tys Ts s) (hW : ix_W D cl aC ad base hp s H locs)
    {a t n : Nat} {i : Int32} {f : Nat → Option Nat} (h2 : ix_arr hp a = some (t, n, .inr (.inr (.inr (.inr f))))) (ht : (ix_tE T t).isSome = true) (hi : ¬ (i < 0 ∨ n ≤ i.toNatClampNeg)) (hd : decode cc pc = .ok (.aaload, 1))
    (k : W p l e R s m args below meth c H locs cells slots Q (F0 m (pc + 1) arr (ix_v ad (va_rf (f i.toNatClampNeg)) :: rest))) : W p l e R s m args below meth c H locs cells slots Q (F0 m pc arr (.int i :: .ref (ad a) :: rest)) := by
  obtain ⟨ha, he⟩ := ix_arr_ok h2
  obtain ⟨hcap, hP, hD, hS⟩ := hW
  rw [had a (by omega)]
  have hw := ix_ws_get (aC := aC) (ad := ad) (base := base) (h := hp.2.2) ha
  rw [he] at hw
  obtain ⟨ci, hci⟩ := Option.isSome_iff_exists.mp ht
  obtain ⟨r, -, hr, -⟩ := hY.2.2 t ci hci
  rw [ix_v_rf] at k
  exact va_aldq hx hb hK hP a t hw hr hi hd k
theorem ix_iast (hx : p.tables.exec = Jvm.exec) (hb : c.code = cc) (had : ∀ a : Nat, a < 1000000 → ad a = base + a) (hK : va_K D cl tys s) (hY : ix_okY T cl aC tys Ts s) (hW : ix_W D cl aC ad base hp s H locs)
    {a n : Nat} {i x : Int32} {f : Nat → Int32} (h2 : ix_arr hp a = some (0, n, .inl f)) (hi : ¬ (i < 0 ∨ n ≤ i.toNatClampNeg)) (hd : decode cc pc = .ok (.iastore, 1))
    (k : ∀ (H1 : Heap) (locs1 : List Loc), ix_W D cl aC ad base (ix_put hp a (.inl (0, n, .inl (upd f i.toNatClampNeg x)))) s H1 locs1 → W p l e R s m args below meth c H1 locs1 cells slots Q (F0 m (pc + 1) arr rest)) : W p l e R s m args below meth c H locs cells slots Q (F0 m pc arr (.int x :: .int i :: .ref (ad a) :: rest)) := by
  obtain ⟨ha, he⟩ := ix_arr_ok h2
  obtain ⟨hcap, hP, hD, hS⟩ := hW
  rw [had a (by omega)]
  have hw := ix_ws_get (aC := aC) (ad := ad) (base := base) (h := hp.2.2) ha
  rw [he] at hw
  refine va_iast hx hb hK hP hD hS a 0 hw hY.1.1 hi hd (fun H1 locs1 hP1 hD1 hS1 => ?_)
  have hset := ix_ws_set (aC := aC) (ad := ad) (base := base) (n := hp.1) (h := hp.2.2) (i := a) (.inl (0, n, .inl (upd f i.toNatClampNeg x)))
  exact k H1 locs1 ⟨hcap, by show va_P D cl (ix_ws aC ad base hp.1 (ix_up hp.2.2 a _)) H1; rw [← hset]; exact hP1, by show va_D _ (ix_ws aC ad base hp.1 (ix_up hp.2.2 a _)); rw [← hset]; exact hD1, hS1⟩
theorem ix_last (hx : p.tables.exec = Jvm.exec) (hb : c.code = cc) (had : ∀ a : Nat, a < 1000000 → ad a = base + a) (hK : va_K D cl tys s) (hY : ix_okY T cl aC tys Ts s) (hW : ix_W D cl aC ad base hp s H locs)
    {a n : Nat} {i : Int32} {x : Int64} {f : Nat → Int64} (h2 : ix_arr hp a = some (1, n, .inr (.inl f))) (hi : ¬ (i < 0 ∨ n ≤ i.toNatClampNeg)) (hd : decode cc pc = .ok (.lastore, 1))
    (k : ∀ (H1 : Heap) (locs1 : List Loc), ix_W D cl aC ad base (ix_put hp a (.inl (1, n, .inr (.inl (vp_updL f i.toNatClampNeg x))))) s H1 locs1 → W p l e R s m args below meth c H1 locs1 cells slots Q (F0 m (pc + 1) arr rest)) : W p l e R s m args below meth c H locs cells slots Q (F0 m pc arr (.long x :: .int i :: .ref (ad a) :: rest)) := by
  obtain ⟨ha, he⟩ := ix_arr_ok h2
  obtain ⟨hcap, hP, hD, hS⟩ := hW
  rw [had a (by omega)]
  have hw := ix_ws_get (aC := aC) (ad := ad) (base := base) (h := hp.2.2) ha
  rw [he] at hw
  refine va_last hx hb hK hP hD hS a 1 hw hY.1.2.1 hi hd (fun H1 locs1 hP1 hD1 hS1 => ?_)
  have hset := ix_ws_set (aC := aC) (ad := ad) (base := base) (n := hp.1) (h := hp.2.2) (i := a) (.inl (1, n, .inr (.inl (vp_updL f i.toNatClampNeg x))))
  exact k H1 locs1 ⟨hcap, by show va_P D cl (ix_ws aC ad base hp.1 (ix_up hp.2.2 a _)) H1; rw [← hset]; exact hP1, by show va_D _ (ix_ws aC ad base hp.1 (ix_up hp.2.2 a _)); rw [← hset]; exact hD1, hS1⟩
theorem ix_zast (hx : p.tables.exec = Jvm.exec) (hb : c.code = cc) (had : ∀ a : Nat, a < 1000000 → ad a = base + a) (hK : va_K D cl tys s) (hY : ix_okY T cl aC tys Ts s) (hW : ix_W D cl aC ad base hp s H locs)
    {a n : Nat} {i x : Int32} {f : Nat → Int32} (h2 : ix_arr hp a = some (2, n, .inl f)) (hi : ¬ (i < 0 ∨ n ≤ i.toNatClampNeg)) (hd : decode cc pc = .ok (.bastore, 1))
    (k : ∀ (H1 : Heap) (locs1 : List Loc), ix_W D cl aC ad base (ix_put hp a (.inl (2, n, .inl (upd f i.toNatClampNeg (vp_nar .boolean x))))) s H1 locs1 → W p l e R s m args below meth c H1 locs1 cells slots Q (F0 m (pc + 1) arr rest)) : W p l e R s m args below meth c H locs cells slots Q (F0 m pc arr (.int x :: .int i :: .ref (ad a) :: rest)) := by
  obtain ⟨ha, he⟩ := ix_arr_ok h2
  obtain ⟨hcap, hP, hD, hS⟩ := hW
  rw [had a (by omega)]
  have hw := ix_ws_get (aC := aC) (ad := ad) (base := base) (h := hp.2.2) ha
  rw [he] at hw
  refine va_zast hx hb hK hP hD hS a 2 hw hY.1.2.2 hi hd (fun H1 locs1 hP1 hD1 hS1 => ?_)
  have hset := ix_ws_set (aC := aC) (ad := ad) (base := base) (n := hp.1) (h := hp.2.2) (i := a) (.inl (2, n, .inl (upd f i.toNatClampNeg (vp_nar .boolean x))))
  exact k H1 locs1 ⟨hcap, by show va_P D cl (ix_ws aC ad base hp.1 (ix_up hp.2.2 a _)) H1; rw [← hset]; exact hP1, by show va_D _ (ix_ws aC ad base hp.1 (ix_up hp.2.2 a _)); rw [← hset]; exact hD1, hS1⟩
theorem ix_aup (ad : Nat → Nat) (f : Nat → Option Nat) (j v : Nat) : (fun q => (va_up f j (some v) q).map ad) = va_up (fun q => (f q).map ad) j (some (ad v)) := by
  funext q
  by_cases h : q = j
  · subst h
    rw [va_up_self, va_up_self]
    rfl
  · rw [va_up_ne _ _ h, va_up_ne _ _ h]
theorem ix_aast (hx : p.tables.exec = Jvm.exec) (hb : c.code = cc) (had : ∀ a : Nat, a < 1000000 → ad a = base + a) (hK : va_K D cl tys s) (hY : ix_okY T cl aC tys Ts s) (hW : ix_W D cl aC ad base hp s H locs)
    {a t n v ci : Nat} {i : Int32} {f : Nat → Option Nat} {vs : List Value} (h2 : ix_arr hp a = some (t, n, .inr (.inr (.inr (.inr f))))) (h3 : ix_obj hp v = some (ci, vs)) (ht : ix_tE T t = some ci) (hi : ¬ (i < 0 ∨ n ≤ i.toNatClampNeg)) (hd : decode cc pc = .ok (.aastore, 1))
    (k : ∀ (H1 : Heap) (locs1 : List Loc), ix_W D cl aC ad base (ix_put hp a (.inl (t, n, .inr (.inr (.inr (.inr (va_up f i.toNatClampNeg (some v)))))))) s H1 locs1 → W p l e R s m args below meth c H1 locs1 cells slots Q (F0 m (pc + 1) arr rest)) : W p l e R s m args below meth c H locs cells slots Q (F0 m pc arr (.ref (ad v) :: .int i :: .ref (ad a) :: rest)) := by
  obtain ⟨ha, he⟩ := ix_arr_ok h2
  obtain ⟨hv, hve⟩ := ix_obj_ok h3
  obtain ⟨hcap, hP, hD, hS⟩ := hW
  have hw := ix_ws_get (aC := aC) (ad := ad) (base := base) (h := hp.2.2) ha
  rw [he] at hw
  have hwv := ix_ws_get (aC := aC) (ad := ad) (base := base) (h := hp.2.2) hv
  rw [hve] at hwv
  obtain ⟨r, hr, hty, -⟩ := hY.2.2 t ci ht
  have hset := ix_ws_set (aC := aC) (ad := ad) (base := base) (n := hp.1) (h := hp.2.2) (i := a) (.inl (t, n, .inr (.inr (.inr (.inr (va_up f i.toNatClampNeg (some v)))))))
  simp only [ix_e, ix_a, ix_aup] at hset
  rw [had v (by omega)] at hset ⊢
  rw [had a (by omega)]
  refine va_astq (r := r) hx hb hK hP hD hS a t v ci hw hty hwv hr hi hd (fun H1 locs1 hP1 hD1 hS1 => ?_)
  exact k H1 locs1 ⟨hcap, by show va_P D cl (ix_ws aC ad base hp.1 (ix_up hp.2.2 a _)) H1; rw [← hset]; exact hP1, by show va_D _ (ix_ws aC ad base hp.1 (ix_up hp.2.2 a _)); rw [← hset]; exact hD1, hS1⟩
theorem ix_clen (hx : p.tables.exec = Jvm.exec) (hb : c.code = cc) (hA : ix_okA T on Ts ad base s s.heap) (hW : ix_W D cl aC ad base hp s H locs) {a n : Nat} {f : Nat → Int32} (h2 : ix_cns T a = some (n, f)) (hd : decode cc pc = .ok (.arraylength, 1))
    (k : W p l e R s m args below meth c H locs cells slots Q (F0 m (pc + 1) arr (.int (Int32.ofNat n) :: rest))) : W p l e R s m args below meth c H locs cells slots Q (F0 m pc arr (.ref (ad a) :: rest)) := by
  obtain ⟨j, rfl, hj⟩ := ix_cns_ok h2
  exact va_tlen hx hb (hA.1 _ _ _ hj) hW.2.2.2 rfl hd k
theorem ix_cald (hx : p.tables.exec = Jvm.exec) (hb : c.code = cc) (hA : ix_okA T on Ts ad base s s.heap) (hW : ix_W D cl aC ad base hp s H locs) {a n : Nat} {i : Int32} {f : Nat → Int32} (h2 : ix_cns T a = some (n, f)) (hi : ¬ (i < 0 ∨ n ≤ i.toNatClampNeg)) (hd : decode cc pc = .ok (.iaload, 1))
    (k : W p l e R s m args below meth c H locs cells slots Q (F0 m (pc + 1) arr (.int (f i.toNatClampNeg) :: rest))) : W p l e R s m args below meth c H locs cells slots Q (F0 m pc arr (.int i :: .ref (ad a) :: rest)) := by
  obtain ⟨j, rfl, hj⟩ := ix_cns_ok h2
  exact va_ti hx hb (hA.1 _ _ _ hj) hW.2.2.2 hi rfl hd k
theorem ix_gets (hx : p.tables.exec = Jvm.exec) (hb : c.code = cc) (hts : ∀ w ∈ Ts, w.before args s = true) (hown : s.vm.findClass (on oc) = some m.cls) (hA : ix_okA T on Ts ad base s s.heap) (hW : ix_W D cl aC ad base hp s H locs) {idx : Nat} {v : Value} (h2 : ix_tS T oc idx = some v) (hd : decode cc pc = .ok (.getstatic idx, 3))
    (k : W p l e R s m args below meth c H locs cells slots Q (F0 m (pc + 3) arr (ix_v ad v :: rest))) : W p l e R s m args below meth c H locs cells slots Q (F0 m pc arr rest) := by
  obtain ⟨C, n, d, h1, hZ⟩ := hA.2.1 _ _ _ h2
  exact va_gets hx hb hZ hW.2.2.2 hown (hts _ h1) (fun _ h9 => h9) hd k
theorem ix_blen (hx : p.tables.exec = Jvm.exec) (hb : c.code = cc) (hA : ix_okA T on Ts ad base s s.heap) (hW : ix_W D cl aC ad base hp s H locs) {a n : Nat} {f : Nat → Int32} (h2 : ix_cnb T a = some (n, f)) (hd : decode cc pc = .ok (.arraylength, 1))
    (k : W p l e R s m args below meth c H locs cells slots Q (F0 m (pc + 1) arr (.int (Int32.ofNat n) :: rest))) : W p l e R s m args below meth c H locs cells slots Q (F0 m pc arr (.ref (ad a) :: rest)) := by
  obtain ⟨j, rfl, hj⟩ := ix_cnb_ok h2
  exact va_tlen hx hb (hA.2.2.1 _ _ _ hj) hW.2.2.2 rfl hd k
theorem ix_bald (hx : p.tables.exec = Jvm.exec) (hb : c.code = cc) (hA : ix_okA T on Ts ad base s s.heap) (hW : ix_W D cl aC ad base hp s H locs) {a n : Nat} {i : Int32} {f : Nat → Int32} (h2 : ix_cnb T a = some (n, f)) (hi : ¬ (i < 0 ∨ n ≤ i.toNatClampNeg)) (hd : decode cc pc = .ok (.baload, 1))
    (k : W p l e R s m args below meth c H locs cells slots Q (F0 m (pc + 1) arr (.int (f i.toNatClampNeg) :: rest))) : W p l e R s m args below meth c H locs cells slots Q (F0 m pc arr (.int i :: .ref (ad a) :: rest)) := by
  obtain ⟨j, rfl, hj⟩ := ix_cnb_ok h2
  exact va_tb hx hb (hA.2.2.1 _ _ _ hj) hW.2.2.2 hi rfl hd k
theorem ix_sget (hx : p.tables.exec = Jvm.exec) (hb : c.code = cc) (hts : ∀ w ∈ Ts, w.before args s = true) (hown : s.vm.findClass (on oc) = some m.cls) (hA : ix_okA T on Ts ad base s s.heap) (hW : ix_W D cl aC ad base hp s H locs) {idx a b : Nat} {g : Bool} (h1 : ix_tG T oc idx = some g) (h2 : ix_cno T a = some b) (hd : decode cc pc = .ok (.getfield idx, 3))
    (k : W p l e R s m args below meth c H locs cells slots Q (F0 m (pc + 3) arr ((bif g then .ref (ad (1000000 + b)) else .int 0) :: rest))) : W p l e R s m args below meth c H locs cells slots Q (F0 m pc arr (.ref (ad a) :: rest)) := by
  obtain ⟨j, rfl, hj⟩ := ix_cno_ok h2
  obtain ⟨-, q2, q3⟩ := hA.2.2.2.1 _ _ hj
  have hl := hA.2.2.2.2.2 _ _ _ h1
  cases g with
  | true => exact vk_getf hx hb q3 hW.2.2.2 hown (hts _ hl) (fun _ h9 => h9) hd k
  | false => exact vk_getf hx hb q2 hW.2.2.2 hown (hts _ hl) (fun _ h9 => h9) hd k
theorem ix_ldcs (hx : p.tables.exec = Jvm.exec) (hb : c.code = cc) (hown : s.vm.findClass (on oc) = some m.cls) (hA : ix_okA T on Ts ad base s s.heap) {idx a : Nat} (h1 : ix_tK T oc idx = some (.ref a)) (hd : decode cc pc = .ok (.ldc idx, 2))
    (k : W p l e R s m args below meth c H locs cells slots Q (F0 m (pc + 2) arr (.ref (ad a) :: rest))) : W p l e R s m args below meth c H locs cells slots Q (F0 m pc arr rest) := by
  obtain ⟨tx, h2⟩ := hA.2.2.2.2.1 _ _ _ h1
  exact va_ldcS hx hb hown h2 hd k
end IX3
end
section
/-! ===== each instruction of the interpreter is the machine's: new cells, constants ===== -/
section IX4
variable {p : Program} {l : Launch} {e : Env} {R : Room} {s : State} {m : MethodId} {args : Array Value} {below : List Frame} {meth : Method} {c : Code} {H : Heap} {locs : List Loc} {Q : State → Prop}
variable {cc : ByteArray} {pc : Nat} {arr : Array Slot} {ad : Nat → Nat} {rest : List Value}
variable {T : ix_T} {D : va_G} {cl : List vw_C} {aC : Nat → ClassId} {tys : List (ClassId × FieldType)} {on : Nat → String} {Ts : List Cond} {base : Nat} {hp : ix_H} {oc : Nat}
theorem ix_fresh {n q : Nat} {h : Nat → ix_C} {x : va_E} {H1 : Heap} (hP1 : va_P D cl (ix_ws aC ad base n h ++ [(q, x)]) H1) (hD1 : va_D (fun q => base ≤ q) (ix_ws aC ad base n h ++ [(q, x)])) (hu : H1.size ≤ base + n + 1) : q = base + n := by
  have hg : (ix_ws aC ad base n h ++ [(q, x)])[n]? = some (q, x) := by
    rw [List.getElem?_append_right (by rw [ix_ws_len]; omega), ix_ws_len, Nat.sub_self]
    rfl
  have h1 : q < H1.size := (hP1 n _ hg).lt
  have h2 : base ≤ q := hD1.2 n _ hg
  by_cases hq : q < base + n
  · have hi : q - base < n := by omega
    have hg2 : (ix_ws aC ad base n h ++ [(q, x)])[q - base]? = some (base + (q - base), ix_e aC ad (h (q - base))) := by
      rw [List.getElem?_append_left (by rw [ix_ws_len]; exact hi), ix_ws_get hi]
    have he := hD1.1 n (q - base) _ _ hg hg2 (by show q = base + (q - base); omega)
    omega
  · omega
theorem ix_v_def (ad : Nat → Nat) (ty : FieldType) : ix_v ad (defaultValue ty) = defaultValue ty := by cases ty <;> rfl
theorem ix_newo (hx : p.tables.exec = Jvm.exec) (hb : c.code = cc) (had : ∀ a : Nat, a < 1000000 → ad a = base + a) (hts : ∀ w ∈ Ts, w.before args s = true) (hown : s.vm.findClass (on oc) = some m.cls) (hK : va_K D cl tys s) (hC : ix_okC T cl on Ts) (hO : ix_okD T cl on Ts) (hW : ix_W D cl aC ad base hp s H locs)
    {n0 k0 : Nat} (h0 : s.heap.size = base + n0) (hn0 : n0 ≤ hp.1) (hk0 : k0 ≤ hp.2.1) {idx ci t0 : Nat} (h1 : ix_tC T oc idx = some (ci, t0)) (h2 : hp.1 < 1000000) (hR : hp.1 + 1 - n0 ≤ R.cells) (hR2 : hp.2.1 + (ix_tD T ci).1 - k0 ≤ R.slots) (hd : decode cc pc = .ok (.new idx, 3))
    (k : ∀ H1 : Heap, ix_W D cl aC ad base (ix_new hp (ix_tD T ci).1 (.inr (ci, (List.range (ix_tD T ci).1).map (fun j => defaultValue ((ix_tD T ci).2 j).1)))) s H1 locs → W p l e R s m args below meth c H1 locs (hp.1 + 1 - n0) (hp.2.1 + (ix_tD T ci).1 - k0) Q (F0 m (pc + 3) arr (.ref (ad hp.1) :: rest))) : W p l e R s m args below meth c H locs (hp.1 - n0) (hp.2.1 - k0) Q (F0 m pc arr rest) := by
  obtain ⟨r, hr, hl, -⟩ := hC _ _ _ _ h1
  obtain ⟨hN, -, hin, hpd, -, -, hins, hini⟩ := hO _ _ hr
  obtain ⟨hcap, hP, hD, hS⟩ := hW
  rw [hN] at k hR2
  refine va_new (ci := ci) (fs := ((List.range r.2.2).map (fun j => defaultValue ((ix_tD T ci).2 j).1)).map (ix_v ad)) (C := r.1) (T := r.2.1) (N := r.2.2) hx hb hts hin (fun j => ((ix_tD T ci).2 j).1) hpd hown (hts _ hl) (hts _ hins) (hts _ hini) hK hP hD hS (fun q hq => by show base ≤ q; omega) hr (fun j hj => ?_) (by omega) (by omega) hd (fun q H1 hP1 hD1 hS1 => ?_)
  · simp [vp_V, hj, ix_v_def]
  · refine ix_size (fun hu => ?_)
    have hq : q = base + hp.1 := ix_fresh hP1 hD1 (by omega)
    subst hq
    have hpush := ix_ws_push (aC := aC) (ad := ad) (base := base) (n := hp.1) (h := hp.2.2) (.inr (ci, (List.range r.2.2).map (fun j => defaultValue ((ix_tD T ci).2 j).1)))
    have k1 := k H1 ⟨by show hp.1 + 1 ≤ 1000000; omega, by show va_P D cl (ix_ws aC ad base (hp.1 + 1) (ix_up hp.2.2 hp.1 _)) H1; rw [← hpush]; exact hP1, by show va_D _ (ix_ws aC ad base (hp.1 + 1) (ix_up hp.2.2 hp.1 _)); rw [← hpush]; exact hD1, hS1⟩
    rw [show hp.1 - n0 + 1 = hp.1 + 1 - n0 by omega, show hp.2.1 - k0 + r.2.2 = hp.2.1 + r.2.2 - k0 by omega, ← had hp.1 h2]
    exact k1
theorem ix_newa (hx : p.tables.exec = Jvm.exec) (hb : c.code = cc) (had : ∀ a : Nat, a < 1000000 → ad a = base + a) (hts : ∀ w ∈ Ts, w.before args s = true) (hK : va_K D cl tys s) (hY : ix_okY T cl aC tys Ts s) (hW : ix_W D cl aC ad base hp s H locs)
    {n0 k0 : Nat} (h0 : s.heap.size = base + n0) (hn0 : n0 ≤ hp.1) (hk0 : k0 ≤ hp.2.1) {aty : ArrayType} {n : Int32} {x : Nat × vp_A} (h1 : ix_zero (ix_aty aty) n.toNatClampNeg = some x) (hn : ¬ n < 0) (hN : n.toNatClampNeg ≤ 1000000) (h2 : hp.1 < 1000000) (hR : hp.1 + 1 - n0 ≤ R.cells) (hR2 : hp.2.1 + n.toNatClampNeg - k0 ≤ R.slots) (hd : decode cc pc = .ok (.newarray aty, 2))
    (k : ∀ H1 : Heap, ix_W D cl aC ad base (ix_new hp n.toNatClampNeg (.inl x)) s H1 locs → W p l e R s m args below meth c H1 locs (hp.1 + 1 - n0) (hp.2.1 + n.toNatClampNeg - k0) Q (F0 m (pc + 2) arr (.ref (ad hp.1) :: rest))) : W p l e R s m args below meth c H locs (hp.1 - n0) (hp.2.1 - k0) Q (F0 m pc arr (.int n :: rest)) := by
  obtain ⟨hcap, hP, hD, hS⟩ := hW
  have key : ∀ (ty : FieldType) (t : Nat) (a0 : vp_A) (cA : ClassId), newarray.typeOf aty = ty → x = (t, a0) → ix_a ad a0 = a0 → cA = aC t → ∀ (q : Nat) (H1 : Heap), va_P D cl (ix_ws aC ad base hp.1 hp.2.2 ++ [(q, .inl (cA, a0))]) H1 → va_D (fun q => base ≤ q) (ix_ws aC ad base hp.1 hp.2.2 ++ [(q, .inl (cA, a0))]) → va_S (fun q => base ≤ q) s.heap H1 locs → W p l e R s m args below meth c H1 locs (hp.1 - n0 + 1) (hp.2.1 - k0 + n.toNatClampNeg) Q (F0 m (pc + 2) arr (.ref q :: rest)) := by
    intro ty t a0 cA hty hx0 ha0 hcA q H1 hP1 hD1 hS1
    refine ix_size (fun hu => ?_)
    have hq : q = base + hp.1 := ix_fresh hP1 hD1 (by omega)
    subst hq
    subst hcA
    subst hx0
    have hpush := ix_ws_push (aC := aC) (ad := ad) (base := base) (n := hp.1) (h := hp.2.2) (.inl (t, a0))
    simp only [ix_e, ha0] at hpush
    have k1 := k H1 ⟨by show hp.1 + 1 ≤ 1000000; omega, by show va_P D cl (ix_ws aC ad base (hp.1 + 1) (ix_up hp.2.2 hp.1 _)) H1; rw [← hpush]; exact hP1, by show va_D _ (ix_ws aC ad base (hp.1 + 1) (ix_up hp.2.2 hp.1 _)); rw [← hpush]; exact hD1, hS1⟩
    rw [show hp.1 - n0 + 1 = hp.1 + 1 - n0 by omega, show hp.2.1 - k0 + n.toNatClampNeg = hp.2.1 + n.toNatClampNeg - k0 by omega, ← had hp.1 h2]
    exact k1
  have hlast : ∀ (cA : ClassId) (ty : FieldType), va_K D cl (tys ++ [(cA, ty)]) s → va_RA s cA ty := fun cA ty h => (h.2 tys.length (cA, ty) (by simp)).2
  cases aty with
  | int =>
    cases h1
    refine va_newa (a0 := (n.toNatClampNeg, .inl (fun _ => 0))) (atype := .int) (ty := .int) hx hb (hts (.arrayClass .int) hY.2.1.1) rfl hK hP hD hS (fun q hq => by show base ≤ q; omega) (fun _ => rfl) hn rfl (by simp only [componentBytes]; omega) (by omega) (by omega) hd (fun q cA H1 hK1 hP1 hD1 hS1 => ?_)
    exact key .int 0 _ cA rfl rfl rfl (Option.some.inj ((show s.vm.findClass _ = some cA from hlast cA .int hK1).symm.trans (show s.vm.findClass _ = some (aC 0) from (hK.2 0 _ hY.1.1).2))) q H1 hP1 hD1 hS1
  | long =>
    cases h1
    refine va_newa (a0 := (n.toNatClampNeg, .inr (.inl (fun _ => 0)))) (atype := .long) (ty := .long) hx hb (hts (.arrayClass .long) hY.2.1.2.1) rfl hK hP hD hS (fun q hq => by show base ≤ q; omega) (fun _ => rfl) hn rfl (by simp only [componentBytes]; omega) (by omega) (by omega) hd (fun q cA H1 hK1 hP1 hD1 hS1 => ?_)
    exact key .long 1 _ cA rfl rfl rfl (Option.some.inj ((show s.vm.findClass _ = some cA from hlast cA .long hK1).symm.trans (show s.vm.findClass _ = some (aC 1) from (hK.2 1 _ hY.1.2.1).2))) q H1 hP1 hD1 hS1
  | boolean =>
    cases h1
    refine va_newa (a0 := (n.toNatClampNeg, .inl (fun _ => 0))) (atype := .boolean) (ty := .boolean) hx hb (hts (.arrayClass .boolean) hY.2.1.2.2) rfl hK hP hD hS (fun q hq => by show base ≤ q; omega) (fun _ => rfl) hn rfl (by simp only [componentBytes]; omega) (by omega) (by omega) hd (fun q cA H1 hK1 hP1 hD1 hS1 => ?_)
    exact key .boolean 2 _ cA rfl rfl rfl (Option.some.inj ((show s.vm.findClass _ = some cA from hlast cA .boolean hK1).symm.trans (show s.vm.findClass _ = some (aC 2) from (hK.2 2 _ hY.1.2.2).2))) q H1 hP1 hD1 hS1
  | _ => cases h1
theorem ix_anew (hx : p.tables.exec = Jvm.exec) (hb : c.code = cc) (had : ∀ a : Nat, a < 1000000 → ad a = base + a) (hts : ∀ w ∈ Ts, w.before args s = true) (hown : s.vm.findClass (on oc) = some m.cls) (hK : va_K D cl tys s) (hC : ix_okC T cl on Ts) (hY : ix_okY T cl aC tys Ts s) (hW : ix_W D cl aC ad base hp s H locs)
    {n0 k0 : Nat} (h0 : s.heap.size = base + n0) (hn0 : n0 ≤ hp.1) (hk0 : k0 ≤ hp.2.1) {idx ci t : Nat} {n : Int32} (h1 : ix_tC T oc idx = some (ci, t)) (ht0 : ¬ t = 0) (hn : ¬ n < 0) (hN : n.toNatClampNeg ≤ 1000000) (h2 : hp.1 < 1000000) (hR : hp.1 + 1 - n0 ≤ R.cells) (hR2 : hp.2.1 + n.toNatClampNeg - k0 ≤ R.slots) (hd : decode cc pc = .ok (.anewarray idx, 3))
    (k : ∀ H1 : Heap, ix_W D cl aC ad base (ix_new hp n.toNatClampNeg (.inl (t, n.toNatClampNeg, .inr (.inr (.inr (.inr (fun _ => none))))))) s H1 locs → W p l e R s m args below meth c H1 locs (hp.1 + 1 - n0) (hp.2.1 + n.toNatClampNeg - k0) Q (F0 m (pc + 3) arr (.ref (ad hp.1) :: rest))) : W p l e R s m args below meth c H locs (hp.1 - n0) (hp.2.1 - k0) Q (F0 m pc arr (.int n :: rest)) := by
  obtain ⟨r, hr, hl, hE⟩ := hC _ _ _ _ h1
  have hE := hE ht0
  obtain ⟨r', hr', hty, hao⟩ := hY.2.2 t ci hE
  cases hr.symm.trans hr'
  obtain ⟨hcap, hP, hD, hS⟩ := hW
  refine va_newq (C := r.1) hx hb hown (hts _ hl) hao hK hP hD hS (fun q hq => by show base ≤ q; omega) hn rfl (by omega) (by omega) (by omega) hd (fun q cA H1 hK1 hP1 hD1 hS1 => ?_)
  refine ix_size (fun hu => ?_)
  have hq : q = base + hp.1 := ix_fresh hP1 hD1 (by omega)
  subst hq
  obtain ⟨_, _, -, -, -, hf1⟩ := (hK1.2 tys.length (cA, .object r.1) (by simp)).2
  obtain ⟨_, _, -, -, -, hf2⟩ := (hK.2 t _ hty).2
  cases hf1.symm.trans hf2
  have hpush := ix_ws_push (aC := aC) (ad := ad) (base := base) (n := hp.1) (h := hp.2.2) (.inl (t, n.toNatClampNeg, .inr (.inr (.inr (.inr (fun _ => none))))))
  have k1 := k H1 ⟨by show hp.1 + 1 ≤ 1000000; omega, by show va_P D cl (ix_ws aC ad base (hp.1 + 1) (ix_up hp.2.2 hp.1 _)) H1; rw [← hpush]; exact hP1, by show va_D _ (ix_ws aC ad base (hp.1 + 1) (ix_up hp.2.2 hp.1 _)); rw [← hpush]; exact hD1, hS1⟩
  rw [show hp.1 - n0 + 1 = hp.1 + 1 - n0 by omega, show hp.2.1 - k0 + n.toNatClampNeg = hp.2.1 + n.toNatClampNeg - k0 by omega, ← had hp.1 h2]
  exact k1
end IX4
end
section
/-! ===== the interpreter's steps on cells in one; calls ===== -/
section IX5
variable {p : Program} {l : Launch} {e : Env} {R : Room} {s : State} {m : MethodId} {args : Array Value} {below : List Frame} {meth : Method} {c : Code} {H : Heap} {locs : List Loc} {Q : State → Prop}
variable {cc : ByteArray} {pc : Nat} {arr : Array Slot} {ad : Nat → Nat} {rest : List Value}
variable {T : ix_T} {D : va_G} {cl : List vw_C} {aC : Nat → ClassId} {tys : List (ClassId × FieldType)} {on : Nat → String} {Ts : List Cond} {base : Nat} {hp : ix_H} {oc : Nat}
set_option maxHeartbeats 4000000 in
theorem ix_hp_ok (hx : p.tables.exec = Jvm.exec) (hb : c.code = cc) (had : ∀ a : Nat, a < 1000000 → ad a = base + a) (hts : ∀ w ∈ Ts, w.before args s = true) (hown : s.vm.findClass (on oc) = some m.cls) (hK : va_K D cl tys s) (hF : ix_okF T cl on Ts) (hO : ix_okD T cl on Ts) (hC : ix_okC T cl on Ts) (hKK : ix_okK T on Ts) (hY : ix_okY T cl aC tys Ts s) (hA : ix_okA T on Ts ad base s s.heap) (hW : ix_W D cl aC ad base hp s H locs)
    {n0 k0 : Nat} (h0 : s.heap.size = base + n0) (hn0 : n0 ≤ hp.1) (hk0 : k0 ≤ hp.2.1) {ini : Bool} (hini : ini = true → meth.name = "<init>") {i : Instr} {st st' : List Value} {hp' : ix_H} (hd : decode cc pc = .ok (i, ix_len i)) (h : ix_hp T oc ini i st hp = some (st', hp')) (hR : hp'.1 - n0 ≤ R.cells) (hR2 : hp'.2.1 - k0 ≤ R.slots)
    (k : ∀ (H1 : Heap) (locs1 : List Loc), ix_W D cl aC ad base hp' s H1 locs1 → W p l e R s m args below meth c H1 locs1 (hp'.1 - n0) (hp'.2.1 - k0) Q (F0 m (pc + ix_len i) arr (st'.map (ix_v ad)))) : W p l e R s m args below meth c H locs (hp.1 - n0) (hp.2.1 - k0) Q (F0 m pc arr (st.map (ix_v ad))) := by
  unfold ix_hp at h
  split at h
  · split at h
    · rename_i ci j cx fs h1 h2
      split at h
      · rename_i hc
        subst hc
        split at h
        · rename_i h3
          cases h
          exact ix_getf hx hb had hts hown hK hF hO hW h1 h2 h3 hd (k _ _ hW)
        · cases h
      · cases h
    · split at h
      · rename_i h1 h2
        cases h
        exact ix_sget hx hb hts hown hA hW h1 h2 hd (k _ _ hW)
      · rename_i h1 h2
        cases h
        exact ix_sget hx hb hts hown hA hW h1 h2 hd (k _ _ hW)
      · cases h
  · split at h
    · rename_i ci j cx fs h1 h2
      split at h
      · rename_i hc
        obtain ⟨hc, hj, hn, hf, hfin⟩ := hc
        subst hc
        cases h
        exact ix_putf hx hb had hts hown hK hF hO hW h1 h2 hj hn hf (hfin.imp id (fun q => ⟨hini q.1, q.2⟩)) hd k
      · cases h
    · cases h
  · split at h
    · rename_i h2
      split at h
      · rename_i ht
        cases h
        exact ix_alen hx hb had hK hY hW h2 ht hd (k _ _ hW)
      · cases h
    · split at h
      · rename_i h3
        cases h
        exact ix_clen hx hb hA hW h3 hd (k _ _ hW)
      · split at h
        · rename_i h4
          cases h
          exact ix_blen hx hb hA hW h4 hd (k _ _ hW)
        · cases h
  · split at h
    · rename_i h2
      split at h
      · cases h
      · rename_i hi
        cases h
        exact ix_iald hx hb had hK hY hW h2 hi hd (k _ _ hW)
    · cases h
    · split at h
      · rename_i h3
        split at h
        · cases h
        · rename_i hi
          cases h
          exact ix_cald hx hb hA hW h3 hi hd (k _ _ hW)
      · cases h
  · split at h
    · rename_i h2
      cases h
      exact ix_gets hx hb hts hown hA hW h2 hd (k _ _ hW)
    · cases h
  · split at h
    · rename_i h2
      split at h
      · cases h
      · rename_i hi
        cases h
        exact ix_lald hx hb had hK hY hW h2 hi hd (k _ _ hW)
    · cases h
  · split at h
    · rename_i h2
      split at h
      · cases h
      · rename_i hi
        cases h
        exact ix_zald hx hb had hK hY hW h2 hi hd (k _ _ hW)
    · cases h
    · split at h
      · rename_i h3
        split at h
        · cases h
        · rename_i hi
          cases h
          exact ix_bald hx hb hA hW h3 hi hd (k _ _ hW)
      · cases h
  · split at h
    · rename_i h2
      split at h
      · rename_i hi
        cases h
        exact ix_aald hx hb had hK hY hW h2 hi.1 hi.2 hd (k _ _ hW)
      · cases h
    · cases h
  · split at h
    · rename_i h2
      split at h
      · cases h
      · rename_i hi
        cases h
        exact ix_iast hx hb had hK hY hW h2 hi hd k
    · cases h
  · split at h
    · rename_i h2
      split at h
      · cases h
      · rename_i hi
        cases h
        exact ix_last hx hb had hK hY hW h2 hi hd k
    · cases h
  · split at h
    · rename_i h2
      split at h
      · cases h
      · rename_i hi
        cases h
        exact ix_zast hx hb had hK hY hW h2 hi hd k
    · cases h
  · split at h
    · rename_i h2 h3
      split at h
      · rename_i hi
        cases h
        exact ix_aast hx hb had hK hY hW h2 h3 hi.1 hi.2 hd k
      · cases h
    · cases h
  · split at h
    · rename_i h1
      split at h
      · rename_i h2
        cases h
        exact ix_newo hx hb had hts hown hK hC hO hW h0 hn0 hk0 h1 h2 hR hR2 hd (fun H1 => k H1 locs)
      · cases h
    · cases h
  · split at h
    · rename_i h1
      split at h
      · rename_i h2
        cases h
        exact ix_newa hx hb had hts hK hY hW h0 hn0 hk0 h1 h2.1 h2.2.1 h2.2.2 hR hR2 hd (fun H1 => k H1 locs)
      · cases h
    · cases h
  · split at h
    · rename_i h1
      split at h
      · rename_i h2
        cases h
        exact ix_anew hx hb had hts hown hK hC hY hW h0 hn0 hk0 h1 h2.2.2.2 h2.1 h2.2.1 h2.2.2.1 hR hR2 hd (fun H1 => k H1 locs)
      · cases h
    · cases h
  · split at h
    · rename_i h1
      cases h
      exact lv_ldc hx hb hown (hts _ (hKK.1 _ _ _ h1)) hd (k _ _ hW)
    · rename_i h1
      cases h
      exact ix_ldcs hx hb hown hA h1 hd (k _ _ hW)
    · cases h
  · split at h
    · rename_i h1
      cases h
      exact lv_ldcw hx hb hown (hts _ (hKK.1 _ _ _ h1)) hd (k _ _ hW)
    · cases h
  · split at h
    · rename_i h1
      cases h
      exact lv_ldc2 hx hb hown (hts _ (hKK.2 _ _ _ h1)) hd (k _ _ hW)
    · cases h
  · cases h
theorem ix_hp_mono {ini : Bool} {i : Instr} {st st' : List Value} {hp' : ix_H} (h : ix_hp T oc ini i st hp = some (st', hp')) : hp.1 ≤ hp'.1 ∧ hp.2.1 ≤ hp'.2.1 := by
  unfold ix_hp at h
  split at h <;> (repeat' (split at h)) <;> first | (cases h; done) | (cases h; exact ⟨Nat.le_refl _, Nat.le_refl _⟩) | (cases h; exact ⟨Nat.le_succ _, Nat.le_add_right _ _⟩)
/-- System.arraycopy -/
theorem ix_acp_ok (hx : p.tables.exec = Jvm.exec) (hb : c.code = cc) (hml : c.maxLocals = arr.size) (had : ∀ a : Nat, a < 1000000 → ad a = base + a) (hown : s.vm.findClass (on oc) = some m.cls) (hK : va_K D cl tys s) (hY : ix_okY T cl aC tys Ts s) (hW : ix_W D cl aC ad base hp s H locs)
    {idx : Nat} (hlink : (Cond.methodLink (on oc) idx arraycopyName).before args s = true) (hnat : (Cond.native arraycopyName).before args s = true) (hstat : (Cond.static arraycopyName).before args s = true) (hini : (Cond.initialized "java/lang/System").before args s = true) (hfr : 1 ≤ R.frames) (hlo : 64 ≤ R.locals)
    {st st' : List Value} {hp' : ix_H} {cells slots : Nat} (hd : decode cc pc = .ok (.invokestatic idx, 3)) (h : ix_acp hp st = some (st', hp')) (k : ∀ (H1 : Heap) (locs1 : List Loc), ix_W D cl aC ad base hp' s H1 locs1 → W p l e R s m args below meth c H1 locs1 cells slots Q (F0 m (pc + 3) arr (st'.map (ix_v ad)))) : W p l e R s m args below meth c H locs cells slots Q (F0 m pc arr (st.map (ix_v ad))) := by
  have hnw : nativeFrameWords "java/lang/System" "arraycopy" 5 + 11 ≤ 56 := by decide +kernel
  unfold ix_acp at h
  split at h
  · split at h
    · rename_i n dp d sp a st0 _ _ n0 f n1 g h1 h2
      split at h
      · rename_i hc
        obtain ⟨c1, c2, c3, c4, c5, c6⟩ := hc
        cases h
        obtain ⟨ha, hae⟩ := ix_arr_ok h1
        obtain ⟨hd2, hde⟩ := ix_arr_ok h2
        obtain ⟨hcap, hP, hD, hS⟩ := hW
        have hwa := ix_ws_get (aC := aC) (ad := ad) (base := base) (h := hp.2.2) ha
        rw [hae] at hwa
        have hwd := ix_ws_get (aC := aC) (ad := ad) (base := base) (h := hp.2.2) hd2
        rw [hde] at hwd
        have hset := ix_ws_set (aC := aC) (ad := ad) (base := base) (n := hp.1) (h := hp.2.2) (i := d) (.inl (0, n1, .inl (va_cpy f g sp.toNatClampNeg dp.toNatClampNeg n.toNatClampNeg)))
        show W p l e R s m args below meth c H locs cells slots Q (F0 m pc arr (.int n :: .int dp :: .ref (ad d) :: .int sp :: .ref (ad a) :: st'.map (ix_v ad)))
        rw [had a (by omega), had d (by omega)]
        refine va_copyi hx hb hml hown hlink hnat hstat hini hK hP hD hS a d 0 0 hwa hwd hY.1.1 hY.1.1 rfl c1 c2 c3 c4 c5 (fun _ _ => rfl) hfr (by rw [ix_v_cats]; have : (st'.map fun v => v.category).sum ≤ 8 := c6; omega) hd (fun H1 locs1 hP1 hD1 hS1 => ?_)
        exact k H1 locs1 ⟨hcap, by show va_P D cl (ix_ws aC ad base hp.1 (ix_up hp.2.2 d _)) H1; rw [← hset]; exact hP1, by show va_D _ (ix_ws aC ad base hp.1 (ix_up hp.2.2 d _)); rw [← hset]; exact hD1, hS1⟩
      · cases h
    · rename_i n dp d sp a st0 _ _ n0 f n1 g h1 h2
      split at h
      · rename_i hc
        obtain ⟨c1, c2, c3, c4, c5, c6⟩ := hc
        cases h
        obtain ⟨ha, hae⟩ := ix_arr_ok h1
        obtain ⟨hd2, hde⟩ := ix_arr_ok h2
        obtain ⟨hcap, hP, hD, hS⟩ := hW
        have hwa := ix_ws_get (aC := aC) (ad := ad) (base := base) (h := hp.2.2) ha
        rw [hae] at hwa
        have hwd := ix_ws_get (aC := aC) (ad := ad) (base := base) (h := hp.2.2) hd2
        rw [hde] at hwd
        have hset := ix_ws_set (aC := aC) (ad := ad) (base := base) (n := hp.1) (h := hp.2.2) (i := d) (.inl (1, n1, .inr (.inl (va_cpy f g sp.toNatClampNeg dp.toNatClampNeg n.toNatClampNeg))))
        show W p l e R s m args below meth c H locs cells slots Q (F0 m pc arr (.int n :: .int dp :: .ref (ad d) :: .int sp :: .ref (ad a) :: st'.map (ix_v ad)))
        rw [had a (by omega), had d (by omega)]
        refine va_copyl hx hb hml hown hlink hnat hstat hini hK hP hD hS a d 1 1 hwa hwd hY.1.2.1 hY.1.2.1 rfl c1 c2 c3 c4 c5 (fun _ _ => rfl) hfr (by rw [ix_v_cats]; have : (st'.map fun v => v.category).sum ≤ 8 := c6; omega) hd (fun H1 locs1 hP1 hD1 hS1 => ?_)
        exact k H1 locs1 ⟨hcap, by show va_P D cl (ix_ws aC ad base hp.1 (ix_up hp.2.2 d _)) H1; rw [← hset]; exact hP1, by show va_D _ (ix_ws aC ad base hp.1 (ix_up hp.2.2 d _)); rw [← hset]; exact hD1, hS1⟩
      · cases h
    · cases h
  · cases h
theorem ix_acp_mono {st st' : List Value} {hp' : ix_H} (h : ix_acp hp st = some (st', hp')) : hp.1 ≤ hp'.1 ∧ hp.2.1 ≤ hp'.2.1 := by
  unfold ix_acp at h
  split at h <;> (repeat' (split at h)) <;> first | (cases h; done) | (cases h; exact ⟨Nat.le_refl _, Nat.le_refl _⟩)
end IX5
end
section
/-! ===== methods: a run of the interpreter is a contract met ===== -/
noncomputable def ix_host : String := "PacketWall"
/-- links to private members of nest mates: class, place, member -/
noncomputable abbrev ix_Ns : Type := List (String × Nat × MethodName)
noncomputable def ix_okI (T : ix_T) (cl : List vw_C) (on : Nat → String) (Ts : List Cond) (Ns : ix_Ns) : Prop := ∀ (oc idx kd mid na : Nat), ix_tI T oc idx = some (kd, mid, na) →
  (kd = 0 → Cond.methodLink (on oc) idx objectInit ∈ Ts ∧ Cond.instanceMethod objectInit ∈ Ts ∧ Cond.code objectInit ⟨#[0xb1]⟩ 1 none ∈ Ts) ∧
  (kd = 7 → Cond.methodLink (on oc) idx arraycopyName ∈ Ts ∧ Cond.native arraycopyName ∈ Ts ∧ Cond.static arraycopyName ∈ Ts ∧ Cond.initialized "java/lang/System" ∈ Ts) ∧
  (kd = 8 → ∃ M : ix_M, ix_tM T mid = some M ∧ (parseMethodDescriptor M.2.1.desc).map (fun d => d.parameters.length) = some na ∧ Cond.methodLink (on oc) idx M.2.1 ∈ Ts ∧ Cond.instanceMethod M.2.1 ∈ Ts ∧ Cond.selects M.2.1.cls M.2.1 M.2.1 ∈ Ts ∧ M.2.1.cls = "java/lang/String") ∧
  (kd = 9 → Cond.methodLink (on oc) idx Lib.Math.min.name ∈ Ts ∧ Cond.static Lib.Math.min.name ∈ Ts ∧ Cond.initialized "java/lang/Math" ∈ Ts ∧ Cond.code Lib.Math.min.name Lib.Math.min.code 2 (some .int) ∈ Ts) ∧
  (kd = 10 → Cond.methodLink (on oc) idx Lib.Math.max.name ∈ Ts ∧ Cond.static Lib.Math.max.name ∈ Ts ∧ Cond.initialized "java/lang/Math" ∈ Ts ∧ Cond.code Lib.Math.max.name Lib.Math.max.code 2 (some .int) ∈ Ts) ∧
  (kd = 11 → Cond.methodLink (on oc) idx Lib.MathLoose.min_long.x ∈ Ts ∧ Cond.static Lib.MathLoose.min_long.x ∈ Ts ∧ Cond.initialized "java/lang/Math" ∈ Ts ∧ Cond.code Lib.MathLoose.min_long.x Lib.MathLoose.min_long.code 4 (some .long) ∈ Ts) ∧
  (1 ≤ kd → kd ≤ 6 → ∃ M : ix_M, ix_tM T mid = some M ∧ (parseMethodDescriptor M.2.1.desc).map (fun d => d.parameters.length) = some na ∧
    (kd = 1 ∨ kd = 3 ∨ kd = 5 → Cond.methodLink (on oc) idx M.2.1 ∈ Ts) ∧ (kd = 2 ∨ kd = 4 ∨ kd = 6 → (on oc, idx, M.2.1) ∈ Ns) ∧
    (kd = 1 ∨ kd = 2 → M.2.1.name = "<init>" ∧ Cond.instanceMethod M.2.1 ∈ Ts ∧ M.2.2.2.2.1 = none) ∧ (kd = 3 ∨ kd = 4 → Cond.instanceMethod M.2.1 ∈ Ts ∧ Cond.selects M.2.1.cls M.2.1 M.2.1 ∈ Ts ∧ ∃ r : vw_C, cl[M.1]? = some r ∧ r.1 = M.2.1.cls) ∧ (kd = 5 ∨ kd = 6 → Cond.static M.2.1 ∈ Ts))
noncomputable def ix_okM (T : ix_T) (on : Nat → String) (Ts : List Cond) : Prop := ∀ (mid : Nat) (M : ix_M), ix_tM T mid = some M → on M.1 = M.2.1.cls ∧ plainName M.2.1.cls = true ∧ (M.2.1.cls ≠ "java/lang/invoke/MethodHandle" ∧ M.2.1.cls ≠ "java/lang/invoke/VarHandle") ∧ Cond.code M.2.1 M.2.2.1 M.2.2.2.1 M.2.2.2.2.1 ∈ Ts ∧ Cond.initialized M.2.1.cls ∈ Ts ∧ M.2.2.2.1 ≤ 40 ∧ (M.2.2.2.2.2.1 = true → M.2.1.name = "<init>") ∧ ∀ (pc : Nat) (i : Instr), M.2.2.2.2.2.2 pc = some i → ∃ len : Nat, decode M.2.2.1 pc = .ok (i, len) ∧ (ix_len i = 0 ∨ ix_len i = len)
noncomputable def ix_okT (T : ix_T) (cl : List vw_C) (on : Nat → String) (Ts : List Cond) (Ns : ix_Ns) : Prop := ix_okF T cl on Ts ∧ ix_okD T cl on Ts ∧ ix_okC T cl on Ts ∧ ix_okK T on Ts ∧ ix_okI T cl on Ts Ns ∧ ix_okM T on Ts ∧ ∀ w ∈ Ts, goodWord w = true
/-- what a state's tables say beside the words -/
noncomputable def ix_St (T : ix_T) (D : va_G) (cl : List vw_C) (aC : Nat → ClassId) (tys : List (ClassId × FieldType)) (on : Nat → String) (Ts : List Cond) (Ns : ix_Ns) (ad : Nat → Nat) (base : Nat) (U : State) : Prop := va_K D cl tys U ∧ ix_okY T cl aC tys Ts U ∧ ix_okA T on Ts ad base U U.heap ∧ ∀ q ∈ Ns, va_Nw (.methodLinkNest q.1 q.2.1 q.2.2 ix_host) U
theorem ix_okY.moved {T : ix_T} {cl : List vw_C} {aC : Nat → ClassId} {tys : List (ClassId × FieldType)} {Ts : List Cond} {u U : State} (hvm : u.vm.Alike U.vm) (h : ix_okY T cl aC tys Ts u) : ix_okY T cl aC tys Ts U :=
  ⟨h.1, h.2.1, fun t ci ht => by
    obtain ⟨r, h1, h2, h3⟩ := h.2.2 t ci ht
    exact ⟨r, h1, h2, va_AO.moved hvm h3⟩⟩
theorem ix_okA.moved {T : ix_T} {on : Nat → String} {Ts : List Cond} {ad : Nat → Nat} {base : Nat} {u U : State} {H H1 : Heap} (hvm : u.vm.Alike U.vm) (hR : ∀ (o : String) (k : Nat) (tx : String) (a : Nat), vk_R o k tx a u → vk_R o k tx a U) (hq : ∀ a : Nat, a < H.size → ¬ base ≤ a → H1[a]? = H[a]?) (h : ix_okA T on Ts ad base u H) : ix_okA T on Ts ad base U H1 :=
  ⟨fun k N f hk => (va_T.moved hvm (h.1 k N f hk)).kept hq, fun oc idx v hk => by
    obtain ⟨C, n, d, h1, h2⟩ := h.2.1 oc idx v hk
    exact ⟨C, n, d, h1, (va_Z.moved hvm h2).kept hq⟩, fun k N f hk => (va_T.moved hvm (h.2.2.1 k N f hk)).kept hq, fun k b hk => by
    obtain ⟨q1, q2, q3⟩ := h.2.2.2.1 k b hk
    exact ⟨(va_O.moved hvm q1).kept hq, (va_OF.moved hvm q2).kept hq, (va_OF.moved hvm q3).kept hq⟩, fun oc idx a hk => by
    obtain ⟨tx, h1⟩ := h.2.2.2.2.1 oc idx a hk
    exact ⟨tx, hR _ _ _ _ h1⟩, h.2.2.2.2.2⟩
theorem ix_St.warm {T : ix_T} {D : va_G} {cl : List vw_C} {aC : Nat → ClassId} {tys : List (ClassId × FieldType)} {on : Nat → String} {Ts : List Cond} {Ns : ix_Ns} {ad : Nat → Nat} {base : Nat} {u U : State} (hW : u.WarmedH U.vm) (hq : ∀ a : Nat, a < u.heap.size → ¬ base ≤ a → U.heap[a]? = u.heap[a]?) (h : ix_St T D cl aC tys on Ts Ns ad base u) : ix_St T D cl aC tys on Ts Ns ad base U :=
  ⟨va_K.moved hW.alike h.1, ix_okY.moved hW.alike h.2.1, ix_okA.moved hW.alike (fun _ _ _ _ hr => vk_R.warm hW hr) hq h.2.2.1, fun q hq => va_Nw.warmM hW (h.2.2.2 q hq)⟩
theorem ix_St.calling {T : ix_T} {D : va_G} {cl : List vw_C} {aC : Nat → ClassId} {tys : List (ClassId × FieldType)} {on : Nat → String} {Ts : List Cond} {Ns : ix_Ns} {ad : Nat → Nat} {base : Nat} {U : State} (g : JFrame) (mk : MethodId) (a : Array Value) (h : ix_St T D cl aC tys on Ts Ns ad base U) : ix_St T D cl aC tys on Ts Ns ad base (U.calling g mk a) :=
  ⟨va_K.moved (u := U) (U := U.calling g mk a) (Vm.Alike.refl U.vm) h.1, ix_okY.moved (u := U) (U := U.calling g mk a) (Vm.Alike.refl U.vm) h.2.1, ix_okA.moved (u := U) (U := U.calling g mk a) (Vm.Alike.refl U.vm) (fun _ _ _ _ hr => vk_R.same (u := U) (U := U.calling g mk a) rfl hr) (fun _ _ _ => rfl) h.2.2.1, fun q hq => va_Nw.same (u := U) (U := U.calling g mk a) rfl rfl (h.2.2.2 q hq)⟩
noncomputable def ix_P (D : va_G) (cl : List vw_C) (aC : Nat → ClassId) (ad : Nat → Nat) (base : Nat) (hp : ix_H) (H : Heap) : Prop := hp.1 ≤ 1000000 ∧ va_P D cl (ix_ws aC ad base hp.1 hp.2.2) H ∧ va_D (fun q => base ≤ q) (ix_ws aC ad base hp.1 hp.2.2)
noncomputable def ix_Pc (T : ix_T) (D : va_G) (cl : List vw_C) (aC : Nat → ClassId) (tys : List (ClassId × FieldType)) (on : Nat → String) (Ts : List Cond) (Ns : ix_Ns) (ad : Nat → Nat) (base : Nat) (av : List Value) (hp : ix_H) : Array Value → State → Prop := va_Pc (av.map (ix_v ad)) (fun U => U.heap.size = base + hp.1 ∧ ix_P D cl aC ad base hp U.heap ∧ ix_St T D cl aC tys on Ts Ns ad base U)
noncomputable def ix_Qc (D : va_G) (cl : List vw_C) (aC : Nat → ClassId) (ad : Nat → Nat) (base : Nat) (rv : Option Value) (hp : ix_H) : Array Value → State → Outcome → State → Prop := fun _ st oc t => oc = .returned (rv.map (ix_v ad)) ∧ ix_P D cl aC ad base hp t.heap ∧ va_F (fun q => base ≤ q) st t
noncomputable def ix_rm (d cells slots : Nat) : Room := { frames := d, cells := cells, slots := slots, locals := 64 * d }
noncomputable def ix_wsM (M : ix_M) (Ts : List Cond) : List Cond := Cond.code M.2.1 M.2.2.1 M.2.2.2.1 M.2.2.2.2.1 :: Ts
noncomputable def ix_Snd (l : Launch) (T : ix_T) (D : va_G) (cl : List vw_C) (aC : Nat → ClassId) (tys : List (ClassId × FieldType)) (on : Nat → String) (Ts : List Cond) (Ns : ix_Ns) (ad : Nat → Nat) (base d : Nat) (f : ix_F) : Prop := ∀ (mid : Nat) (M : ix_M) (av : List Value) (hp hp' : ix_H) (rv : Option Value), ix_tM T mid = some M → f mid av hp = some (rv, hp') → hp.1 ≤ hp'.1 ∧ hp.2.1 ≤ hp'.2.1 ∧
  Met l M.2.1 (ix_wsM M Ts) (ix_rm d (hp'.1 - hp.1) (hp'.2.1 - hp.2.1)) (ix_Pc T D cl aC tys on Ts Ns ad base av hp) (ix_Qc D cl aC ad base rv hp') (hp'.1 - hp.1) (hp'.2.1 - hp.2.1) (fun q => base ≤ q)
theorem ix_good {M : ix_M} {Ts : List Cond} (hg : ∀ w ∈ Ts, goodWord w = true) (hm : Cond.code M.2.1 M.2.2.1 M.2.2.2.1 M.2.2.2.2.1 ∈ Ts) : GoodIn Ts (ix_wsM M Ts) := by
  intro w hw
  rcases List.mem_cons.mp hw with rfl | hw
  · exact ⟨hm, good_of_word (hg _ hm)⟩
  · exact ⟨hw, good_of_word (hg _ hw)⟩
theorem ix_blind {T : ix_T} {D : va_G} {cl : List vw_C} {aC : Nat → ClassId} {tys : List (ClassId × FieldType)} {on : Nat → String} {Ts : List Cond} {Ns : ix_Ns} {ad : Nat → Nat} {base : Nat} {av : List Value} {hp : ix_H} : FrameBlind (ix_Pc T D cl aC tys on Ts Ns ad base av hp) := fun a U g mk h => ⟨h.1, h.2.1, h.2.2.1, h.2.2.2.calling g mk a⟩
section IX6
variable {p : Program} {l : Launch} {e : Env} {R : Room} {s : State} {m : MethodId} {args : Array Value} {below : List Frame} {meth : Method} {c : Code} {H : Heap} {locs : List Loc} {Q : State → Prop}
variable {cc : ByteArray} {pc : Nat} {arr : Array Slot} {ad : Nat → Nat}
variable {T : ix_T} {D : va_G} {cl : List vw_C} {aC : Nat → ClassId} {tys : List (ClassId × FieldType)} {on : Nat → String} {Ts : List Cond} {Ns : ix_Ns} {base : Nat} {hp : ix_H} {oc : Nat}
theorem ix_call {cells slots mc ms : Nat} {st0 rest : List Value} {rv : Option Value} {hp' : ix_H} {a : Array Value} (hr : va_Run p l e R s m args below meth c H locs cells slots mc ms (F0 m pc arr st0) rest (ix_Qc D cl aC ad base rv hp' a) (fun q => base ≤ q)) (hS : va_S (fun q => base ≤ q) s.heap H locs)
    (k : ∀ (H1 : Heap) (locs1 : List Loc), ix_W D cl aC ad base hp' s H1 locs1 → W p l e R s m args below meth c H1 locs1 (cells + mc) (slots + ms) Q (F0 m (pc + 3) arr ((rv.map (ix_v ad)).toList ++ rest))) : W p l e R s m args below meth c H locs cells slots Q (F0 m pc arr st0) := by
  intro T0 hT X
  obtain ⟨v, st₀, t, T', L, e0, X', hL, e1, e2, ⟨hv, ⟨hc, hP, hD⟩, hF1, hF2⟩, st⟩ := hr T0 hT X
  cases hv
  rw [e0] at hF1 hF2
  obtain ⟨t2, a1, b1⟩ := k T'.heap (locs ++ L) ⟨hc, by rw [e1]; exact hP, hD, by rw [e1]; exact Nat.le_trans hS.1 hF1, fun q h1 h2 => by rw [e1, hF2 q (Nat.lt_of_lt_of_le h1 hS.1) h2]; exact hS.2.1 q h1 h2, fun q hq => by
    rcases List.mem_append.mp hq with h | h
    · exact hS.2.2 q h
    · exact hL q h⟩ T' rfl X'
  exact ⟨t2, st t2 a1, b1⟩
theorem ix_split {na : Nat} {st : List Value} (hna : na ≤ st.length) : st.map (ix_v ad) = (((st.take na).reverse).map (ix_v ad)).reverse ++ (st.drop na).map (ix_v ad) := by
  rw [← List.map_reverse, List.reverse_reverse, ← List.map_append, List.take_append_drop]
theorem ix_take {na : Nat} {st : List Value} (hna : na ≤ st.length) : (((st.take na).reverse).map (ix_v ad)).length = na := by
  rw [List.length_map, List.length_reverse, List.length_take]; omega
set_option maxHeartbeats 4000000 in
/-- a call, over the soundness of what is called -/
theorem ix_cal_ok (hx : p.tables.exec = Jvm.exec) (hb : c.code = cc) {nL : Nat} (hml : c.maxLocals = nL) (hsz : arr.size = nL) (had : ∀ a : Nat, a < 1000000 → ad a = base + a) (hts : ∀ w ∈ Ts, w.before args s = true) (hown : s.vm.findClass (on oc) = some m.cls) (hT : ix_okT T cl on Ts Ns) (hSt : ix_St T D cl aC tys on Ts Ns ad base s) (hW : ix_W D cl aC ad base hp s H locs)
    {n0 k0 : Nat} (h0 : s.heap.size = base + n0) (hn0 : n0 ≤ hp.1) (hk0 : k0 ≤ hp.2.1) {d : Nat} {f : ix_F} (hf : ix_Snd l T D cl aC tys on Ts Ns ad base d f) (hfr : d + 1 ≤ R.frames) (hlo : 64 * (d + 1) ≤ R.locals)
    {i : Instr} {st st' : List Value} {hp' : ix_H} (hd : decode cc pc = .ok (i, ix_len i)) (h : ix_cal T f oc i st hp = some (st', hp')) (hR : hp'.1 - n0 ≤ R.cells) (hR2 : hp'.2.1 - k0 ≤ R.slots)
    (k : ∀ (H1 : Heap) (locs1 : List Loc), ix_W D cl aC ad base hp' s H1 locs1 → W p l e R s m args below meth c H1 locs1 (hp'.1 - n0) (hp'.2.1 - k0) Q (F0 m (pc + ix_len i) arr (st'.map (ix_v ad)))) : W p l e R s m args below meth c H locs (hp.1 - n0) (hp.2.1 - k0) Q (F0 m pc arr (st.map (ix_v ad))) := by
  obtain ⟨hF, hO, hC, hKK, hI, hM, hgood⟩ := hT
  refine ix_size (fun hu => ?_)
  have hsize : H.size = base + hp.1 := hW.eqs h0 hn0 hu
  have pre : ∀ (av : List Value) (U : State), U.heap = H → s.WarmedH U.vm → ix_Pc T D cl aC tys on Ts Ns ad base av hp (av.map (ix_v ad)).toArray U := fun av U hU hWU => ⟨rfl, by rw [hU]; exact hsize, by rw [hU]; exact ⟨hW.1, hW.2.1, hW.2.2.1⟩, hSt.warm hWU (by rw [hU]; exact hW.2.2.2.2.1)⟩
  have room : ∀ L : Nat, L ≤ 40 → d + 1 ≤ R.frames ∧ 8 + (L + 11) + 64 * d ≤ R.locals := fun L hL => ⟨hfr, by omega⟩
  unfold ix_cal at h
  split at h
  · -- invokespecial
    split at h
    · -- Object.<init>
      rename_i h1
      obtain ⟨q1, q2, q3⟩ := (hI _ _ _ _ _ h1).1 rfl
      split at h
      · split at h
        · rename_i hcat
          cases h
          exact W.objInit hx hb hown (hts _ q1) (hts _ q2) (hts _ q3) rfl (by rw [hml]; exact hsz) rfl hd (by omega) (by have := lv_room (m := m) (pc := pc) (ls := arr) (rest := []) (st := st'.map (ix_v ad)) (by rw [ix_v_cats]; exact hcat); show 2 * 0 + _ + 12 ≤ _; have h9 : 2 * 0 + ((st'.map (ix_v ad)).map fun v => v.category).sum ≤ 8 := this; omega) (k _ _ hW)
        · cases h
      · cases h
    · rename_i kd mid na hne h1
      split at h
      · rename_i hkd
        split at h
        · rename_i a rest hdrop
          split at h
          · rename_i hcat
            split at h
            · rename_i hp1 hrun
              cases h
              obtain ⟨M, hM1, hpar, hl1, hl2, hini, -⟩ := (hI _ _ _ _ _ h1).2.2.2.2.2.2 (by omega) (by omega)
              obtain ⟨hin1, hin2, hin3⟩ := hini hkd
              obtain ⟨g1, -, g3, g4, g5, g6, -⟩ := hM _ _ hM1
              obtain ⟨m1, m2, hMet⟩ := hf mid M _ hp hp' none hM1 hrun
              have hstk : st.map (ix_v ad) = (((st.take na).reverse).map (ix_v ad)).reverse ++ .ref (ad a) :: st'.map (ix_v ad) := by rw [ix_split hcat.2, hdrop]; rfl
              have hk : ∀ (H1 : Heap) (locs1 : List Loc), ix_W D cl aC ad base hp' s H1 locs1 → W p l e R s m args below meth c H1 locs1 (hp.1 - n0 + (hp'.1 - hp.1)) (hp.2.1 - k0 + (hp'.2.1 - hp.2.1)) Q (F0 m (pc + 3) arr (((none : Option Value).map (ix_v ad)).toList ++ st'.map (ix_v ad))) := by
                intro H1 locs1 hw
                rw [show hp.1 - n0 + (hp'.1 - hp.1) = hp'.1 - n0 by omega, show hp.2.1 - k0 + (hp'.2.1 - hp.2.1) = hp'.2.1 - k0 by omega]
                exact k H1 locs1 hw
              rw [hin3] at g4
              have hwsM : ix_wsM M Ts = Cond.code M.2.1 M.2.2.1 M.2.2.2.1 none :: Ts := by unfold ix_wsM; rw [hin3]
              have hgi : GoodIn Ts (ix_wsM M Ts) := ix_good hgood (by rw [hin3]; exact g4)
              rw [hstk]
              rcases hkd with rfl | rfl
              · refine ix_call (va_runI (As := ((st.take na).reverse).map (ix_v ad)) (rest := st'.map (ix_v ad)) (b := ad a) (nL := nL) (Ts := Ts) (own := on oc) (index := _) (bytes := M.2.2.1) (maxL := M.2.2.2.1) (n := na) ⟨hx, hb, hml, hown, hts⟩ hMet ⟨callB_of na hts hgi hwsM rfl rfl (hts _ g5) (hts _ (hl1 (Or.inl rfl))) ⟨g3.1, g3.2, hpar⟩ (room _ g6), hin1, hts _ hin2⟩ ⟨ix_blind, fun U hU hWU => pre (.ref a :: (st.take na).reverse) U hU hWU⟩ rfl (ix_take hcat.2) hsz rfl (lv_room (by rw [ix_v_cats]; exact hcat.1)) hd ⟨by omega, by omega⟩) hW.2.2.2 hk
              · have hN := hSt.2.2.2 _ (hl2 (Or.inl rfl))
                refine ix_call (va_runIN (As := ((st.take na).reverse).map (ix_v ad)) (rest := st'.map (ix_v ad)) (b := ad a) (nL := nL) (Ts := Ts) (own := on oc) (index := _) (host := ix_host) (bytes := M.2.2.1) (maxL := M.2.2.2.1) (n := na) ⟨hx, hb, hml, hown, hts⟩ hMet ⟨va_cnB na hts hgi hwsM rfl rfl hN (hts _ g5) ⟨g3.1, g3.2, hpar⟩ (room _ g6), hin1, hts _ hin2⟩ ⟨ix_blind, fun U hU hWU => pre (.ref a :: (st.take na).reverse) U hU hWU⟩ rfl (ix_take hcat.2) hsz rfl (lv_room (by rw [ix_v_cats]; exact hcat.1)) hd ⟨by omega, by omega⟩) hW.2.2.2 hk
            · cases h
          · cases h
        · cases h
      · cases h
    · cases h
  · -- invokevirtual
    split at h
    · rename_i kd mid na h1
      split at h
      · rename_i hkd
        split at h
        · rename_i a rest M hdrop hM1
          split at h
          · rename_i c1 fs1 hob
            split at h
            · rename_i hcat
              split at h
              · rename_i rv hp1 hrun
                cases h
                obtain ⟨M', hM1', hpar, hl1, hl2, -, hvir, -⟩ := (hI _ _ _ _ _ h1).2.2.2.2.2.2 (by omega) (by omega)
                cases hM1.symm.trans hM1'
                obtain ⟨hin2, hsel, r, hr, hr1⟩ := hvir hkd
                obtain ⟨g1, -, g3, g4, g5, g6, -⟩ := hM _ _ hM1
                obtain ⟨m1, m2, hMet⟩ := hf mid M _ hp hp' rv hM1 hrun
                obtain ⟨ha, hae⟩ := ix_obj_ok hob
                have hstk : st.map (ix_v ad) = (((st.take na).reverse).map (ix_v ad)).reverse ++ .ref (ad a) :: rest.map (ix_v ad) := by rw [ix_split hcat.2.2, hdrop]; rfl
                have hk : ∀ (H1 : Heap) (locs1 : List Loc), ix_W D cl aC ad base hp' s H1 locs1 → W p l e R s m args below meth c H1 locs1 (hp.1 - n0 + (hp'.1 - hp.1)) (hp.2.1 - k0 + (hp'.2.1 - hp.2.1)) Q (F0 m (pc + 3) arr ((rv.map (ix_v ad)).toList ++ rest.map (ix_v ad))) := by
                  intro H1 locs1 hw
                  rw [show hp.1 - n0 + (hp'.1 - hp.1) = hp'.1 - n0 by omega, show hp.2.1 - k0 + (hp'.2.1 - hp.2.1) = hp'.2.1 - k0 by omega]
                  have k1 := k H1 locs1 hw
                  rw [List.map_append] at k1
                  cases rv <;> exact k1
                have hwv := ix_ws_get (aC := aC) (ad := ad) (base := base) (h := hp.2.2) ha
                rw [hae] at hwv
                have hrec : ∃ cell : Cell, H[ad a]? = some cell ∧ cell.vm.isStatics = false ∧ s.vm.findClass M.2.1.cls = some cell.cls := by
                  rw [had a (Nat.lt_of_lt_of_le ha hW.1), ← hr1]
                  exact va_recv hSt.1 hW.2.1 (ci := M.1) hr (hcat.1 ▸ hwv)
                have hgi : GoodIn Ts (ix_wsM M Ts) := ix_good hgood g4
                rw [hstk]
                rcases hkd with rfl | rfl
                · refine ix_call (va_runV (C := M.2.1.cls) (As := ((st.take na).reverse).map (ix_v ad)) (rest := rest.map (ix_v ad)) (b := ad a) (nL := nL) (Ts := Ts) (own := on oc) (index := _) (bytes := M.2.2.1) (maxL := M.2.2.2.1) (ret := M.2.2.2.2.1) (n := na) ⟨hx, hb, hml, hown, hts⟩ hMet ⟨callB_of na hts hgi rfl rfl rfl (hts _ g5) (hts _ (hl1 (Or.inr (Or.inl rfl)))) ⟨g3.1, g3.2, hpar⟩ (room _ g6), hts _ hin2, hts _ hsel⟩ ⟨ix_blind, hrec, fun U hU hWU => pre (.ref a :: (st.take na).reverse) U hU hWU⟩ rfl (ix_take hcat.2.2) hsz rfl (lv_room (by rw [ix_v_cats]; exact hcat.2.1)) hd ⟨by omega, by omega⟩) hW.2.2.2 hk
                · have hN := hSt.2.2.2 _ (hl2 (Or.inr (Or.inl rfl)))
                  refine ix_call (va_runVN (C := M.2.1.cls) (As := ((st.take na).reverse).map (ix_v ad)) (rest := rest.map (ix_v ad)) (b := ad a) (nL := nL) (Ts := Ts) (own := on oc) (index := _) (host := ix_host) (bytes := M.2.2.1) (maxL := M.2.2.2.1) (ret := M.2.2.2.2.1) (n := na) ⟨hx, hb, hml, hown, hts⟩ hMet ⟨va_cnB na hts hgi rfl rfl rfl hN (hts _ g5) ⟨g3.1, g3.2, hpar⟩ (room _ g6), hts _ hin2, hts _ hsel⟩ ⟨ix_blind, hrec, fun U hU hWU => pre (.ref a :: (st.take na).reverse) U hU hWU⟩ rfl (ix_take hcat.2.2) hsz rfl (lv_room (by rw [ix_v_cats]; exact hcat.2.1)) hd ⟨by omega, by omega⟩) hW.2.2.2 hk
              · cases h
            · cases h
          · cases h
        · cases h
      · split at h
        · rename_i hk8
          subst hk8
          split at h
          · rename_i a rest hdrop
            split at h
            · rename_i b8 hob
              split at h
              · rename_i hcat
                split at h
                · rename_i rv hp1 hrun
                  cases h
                  obtain ⟨M, hM1, hpar, hl1, hin2, hsel, hcls⟩ := (hI _ _ _ _ _ h1).2.2.1 rfl
                  obtain ⟨g1, -, g3, g4, g5, g6, -⟩ := hM _ _ hM1
                  obtain ⟨m1, m2, hMet⟩ := hf mid M _ hp hp' rv hM1 hrun
                  have hstk : st.map (ix_v ad) = (((st.take na).reverse).map (ix_v ad)).reverse ++ .ref (ad a) :: rest.map (ix_v ad) := by rw [ix_split hcat.2, hdrop]; rfl
                  have hk : ∀ (H1 : Heap) (locs1 : List Loc), ix_W D cl aC ad base hp' s H1 locs1 → W p l e R s m args below meth c H1 locs1 (hp.1 - n0 + (hp'.1 - hp.1)) (hp.2.1 - k0 + (hp'.2.1 - hp.2.1)) Q (F0 m (pc + 3) arr ((rv.map (ix_v ad)).toList ++ rest.map (ix_v ad))) := by
                    intro H1 locs1 hw
                    rw [show hp.1 - n0 + (hp'.1 - hp.1) = hp'.1 - n0 by omega, show hp.2.1 - k0 + (hp'.2.1 - hp.2.1) = hp'.2.1 - k0 by omega]
                    have k1 := k H1 locs1 hw
                    rw [List.map_append] at k1
                    cases rv <;> exact k1
                  have hrec : ∃ cell : Cell, H[ad a]? = some cell ∧ cell.vm.isStatics = false ∧ s.vm.findClass M.2.1.cls = some cell.cls := by
                    obtain ⟨j8, rfl, hj8⟩ := ix_cno_ok hob
                    obtain ⟨cell, q1, q2, q3, -⟩ := (hSt.2.2.1.2.2.2.1 _ _ hj8).1.kept hW.2.2.2.2.1
                    rw [hcls]
                    exact ⟨cell, q1, q2, q3⟩
                  have hgi : GoodIn Ts (ix_wsM M Ts) := ix_good hgood g4
                  rw [hstk]
                  refine ix_call (va_runV (C := M.2.1.cls) (As := ((st.take na).reverse).map (ix_v ad)) (rest := rest.map (ix_v ad)) (b := ad a) (nL := nL) (Ts := Ts) (own := on oc) (index := _) (bytes := M.2.2.1) (maxL := M.2.2.2.1) (ret := M.2.2.2.2.1) (n := na) ⟨hx, hb, hml, hown, hts⟩ hMet ⟨callB_of na hts hgi rfl rfl rfl (hts _ g5) (hts _ hl1) ⟨g3.1, g3.2, hpar⟩ (room _ g6), hts _ hin2, hts _ hsel⟩ ⟨ix_blind, hrec, fun U hU hWU => pre (.ref a :: (st.take na).reverse) U hU hWU⟩ rfl (ix_take hcat.2) hsz rfl (lv_room (by rw [ix_v_cats]; exact hcat.1)) hd ⟨by omega, by omega⟩) hW.2.2.2 hk
                · cases h
              · cases h
            · cases h
          · cases h
        · cases h
    · cases h
  · -- invokestatic
    split at h
    · rename_i h1
      obtain ⟨q1, q2, q3, q4⟩ := (hI _ _ _ _ _ h1).2.1 rfl
      have hm := ix_acp_mono h
      refine ix_acp_ok hx hb (hml.trans hsz.symm) had hown hSt.1 hSt.2.1 hW (hts _ q1) (hts _ q2) (hts _ q3) (hts _ q4) (by omega) (by omega) hd h (fun H1 locs1 hw => ?_)
      have e1 : hp'.1 = hp.1 ∧ hp'.2.1 = hp.2.1 := by
        unfold ix_acp at h
        split at h <;> (repeat' (split at h)) <;> first | (cases h; done) | (cases h; exact ⟨rfl, rfl⟩)
      have k1 := k H1 locs1 hw
      rw [e1.1, e1.2] at k1
      exact k1
    · rename_i kd mid na hne h1
      split at h
      · rename_i hkd
        obtain ⟨hkd, hcat, hna⟩ := hkd
        split at h
        · rename_i rv hp1 hrun
          cases h
          obtain ⟨M, hM1, hpar, hl1, hl2, -, -, hsta⟩ := (hI _ _ _ _ _ h1).2.2.2.2.2.2 (by omega) (by omega)
          have hst := hsta hkd
          obtain ⟨g1, -, g3, g4, g5, g6, -⟩ := hM _ _ hM1
          obtain ⟨m1, m2, hMet⟩ := hf mid M _ hp hp' rv hM1 hrun
          have hstk : st.map (ix_v ad) = (((st.take na).reverse).map (ix_v ad)).reverse ++ (st.drop na).map (ix_v ad) := ix_split hna
          have hk : ∀ (H1 : Heap) (locs1 : List Loc), ix_W D cl aC ad base hp' s H1 locs1 → W p l e R s m args below meth c H1 locs1 (hp.1 - n0 + (hp'.1 - hp.1)) (hp.2.1 - k0 + (hp'.2.1 - hp.2.1)) Q (F0 m (pc + 3) arr ((rv.map (ix_v ad)).toList ++ (st.drop na).map (ix_v ad))) := by
            intro H1 locs1 hw
            rw [show hp.1 - n0 + (hp'.1 - hp.1) = hp'.1 - n0 by omega, show hp.2.1 - k0 + (hp'.2.1 - hp.2.1) = hp'.2.1 - k0 by omega]
            have k1 := k H1 locs1 hw
            rw [List.map_append] at k1
            cases rv <;> exact k1
          have hgi : GoodIn Ts (ix_wsM M Ts) := ix_good hgood g4
          rw [hstk]
          rcases hkd with rfl | rfl
          · refine ix_call (va_runS (As := ((st.take na).reverse).map (ix_v ad)) (rest := (st.drop na).map (ix_v ad)) (nL := nL) (Ts := Ts) (own := on oc) (index := _) (bytes := M.2.2.1) (maxL := M.2.2.2.1) (ret := M.2.2.2.2.1) (n := na) ⟨hx, hb, hml, hown, hts⟩ hMet ⟨callB_of na hts hgi rfl rfl rfl (hts _ g5) (hts _ (hl1 (Or.inr (Or.inr rfl)))) ⟨g3.1, g3.2, hpar⟩ (room _ g6), hts _ hst⟩ ⟨ix_blind, fun U hU hWU => pre (st.take na).reverse U hU hWU⟩ rfl (ix_take hna) hsz rfl (lv_room (by rw [ix_v_cats]; exact hcat)) hd ⟨by omega, by omega⟩) hW.2.2.2 hk
          · have hN := hSt.2.2.2 _ (hl2 (Or.inr (Or.inr rfl)))
            refine ix_call (va_runSN (As := ((st.take na).reverse).map (ix_v ad)) (rest := (st.drop na).map (ix_v ad)) (nL := nL) (Ts := Ts) (own := on oc) (index := _) (host := ix_host) (bytes := M.2.2.1) (maxL := M.2.2.2.1) (ret := M.2.2.2.2.1) (n := na) ⟨hx, hb, hml, hown, hts⟩ hMet ⟨va_cnB na hts hgi rfl rfl rfl hN (hts _ g5) ⟨g3.1, g3.2, hpar⟩ (room _ g6), hts _ hst, trivial⟩ ⟨ix_blind, fun U hU hWU => pre (st.take na).reverse U hU hWU⟩ rfl (ix_take hna) hsz rfl (lv_room (by rw [ix_v_cats]; exact hcat)) hd ⟨by omega, by omega⟩) hW.2.2.2 hk
        · cases h
      · split at h
        · rename_i st1 hm
          cases h
          have hcell : hp.1 - n0 ≤ R.cells := hR
          have hslot : hp.2.1 - k0 ≤ R.slots := hR2
          unfold ix_mth at hm
          split at hm
          · split at hm
            · rename_i hc8
              cases hm
              obtain ⟨q1, q2, q3, q4⟩ := (hI _ _ _ _ _ h1).2.2.2.1 rfl
              exact va_mmin hx hb (hml.trans hsz.symm) hown (hts _ q1) (hts _ q2) (hts _ q3) (hts _ q4) (by omega) (by rw [ix_v_cats]; unfold ix_cats at hc8; omega) hcell hslot hd (k _ _ hW)
            · cases hm
          · split at hm
            · rename_i hc8
              cases hm
              obtain ⟨q1, q2, q3, q4⟩ := (hI _ _ _ _ _ h1).2.2.2.2.1 rfl
              exact va_mmax hx hb (hml.trans hsz.symm) hown (hts _ q1) (hts _ q2) (hts _ q3) (hts _ q4) (by omega) (by rw [ix_v_cats]; unfold ix_cats at hc8; omega) hcell hslot hd (k _ _ hW)
            · cases hm
          · split at hm
            · rename_i hc8
              cases hm
              obtain ⟨q1, q2, q3, q4⟩ := (hI _ _ _ _ _ h1).2.2.2.2.2.1 rfl
              exact va_mmin_long hx hb (hml.trans hsz.symm) hown (hts _ q1) (hts _ q2) (hts _ q3) (hts _ q4) (by omega) (by rw [ix_v_cats]; unfold ix_cats at hc8; omega) hcell hslot hd (k _ _ hW)
            · cases hm
          · cases hm
        · cases h
    · cases h
  · cases h
end IX6
end
section
/-! ===== a run of the interpreter is a run of the machine ===== -/
noncomputable def ix_rh : ix_S ⊕ (Option Value × ix_H) → ix_H
  | .inl σ => σ.2.2.2
  | .inr r => r.2
section IX7
variable {p : Program} {l : Launch} {e : Env} {R : Room} {s : State} {m : MethodId} {args : Array Value} {below : List Frame} {meth : Method} {c : Code} {H : Heap} {locs : List Loc} {Q : State → Prop}
variable {pc : Nat} {arr : Array Slot} {ad : Nat → Nat}
variable {T : ix_T} {D : va_G} {cl : List vw_C} {aC : Nat → ClassId} {tys : List (ClassId × FieldType)} {on : Nat → String} {Ts : List Cond} {Ns : ix_Ns} {base : Nat}
theorem ix_ret_ok {cc : ByteArray} {Qc : Array Value → State → Outcome → State → Prop} {free : Addr → Prop} {cells slots : Nat} {ret : Option FieldType} (hx : p.tables.exec = Jvm.exec) (hb : c.code = cc) (hr : meth.sig.returnType = ret) (hlocks : meth.locks = false) {i : Instr} {st : List Value} {rv : Option Value} (hd : decode cc pc = .ok (i, ix_len i)) (h : ix_ret ret i st = some rv)
    (hq : ∀ t : State, t.heap = H → s.WarmedH t.vm → Qc args s (.returned (rv.map (ix_v ad))) t) (hf : ∀ q ∈ locs, free q.base) : W p l e R s m args below meth c H locs cells slots (MQ below Qc args s cells slots free) (F0 m pc arr (st.map (ix_v ad))) := by
  unfold ix_ret at h
  split at h
  · split at h
    · cases h
      exact W.vret hx hb hr hq hf hd
    · cases h
  · split at h
    · split at h
      · rename_i hn
        cases h
        exact W.zret hx hb hr hn hq hf hd
      · cases h
    · cases h
  · split at h
    · rename_i hn
      cases h
      exact W.lret hx hb (hr.trans hn) hq hf hd
    · cases h
  · split at h
    · cases h
      exact W.aret hx hb hr (Or.inl ⟨_, rfl⟩) (Or.inr ⟨_, rfl⟩) hq hf hd
    · cases h
      exact W.aret hx hb hr (Or.inr ⟨_, rfl⟩) (Or.inr ⟨_, rfl⟩) hq hf hd
    · cases h
  · cases h
/-- what is wanted behind a piece of a run -/
noncomputable def ix_End (p : Program) (l : Launch) (e : Env) (R : Room) (s : State) (m : MethodId) (args : Array Value) (below : List Frame) (meth : Method) (c : Code) (Q : State → Prop) (D : va_G) (cl : List vw_C) (aC : Nat → ClassId) (ad : Nat → Nat) (base n0 k0 : Nat) (M : ix_M) : ix_S ⊕ (Option Value × ix_H) → Prop
  | .inl (pc', ls', st', hp') => ∀ (H1 : Heap) (locs1 : List Loc) (arr1 : Array Slot), ix_W D cl aC ad base hp' s H1 locs1 → lv_has arr1 M.2.2.2.1 (ix_l ad ls') → W p l e R s m args below meth c H1 locs1 (hp'.1 - n0) (hp'.2.1 - k0) Q (F0 m pc' arr1 (st'.map (ix_v ad)))
  | .inr (rv, hp') => ∀ (H1 : Heap) (locs1 : List Loc) (arr1 : Array Slot) (pc' : Nat) (i : Instr) (st' : List Value), ix_W D cl aC ad base hp' s H1 locs1 → M.2.2.2.2.2.2 pc' = some i → ix_ret M.2.2.2.2.1 i st' = some rv → W p l e R s m args below meth c H1 locs1 (hp'.1 - n0) (hp'.2.1 - k0) Q (F0 m pc' arr1 (st'.map (ix_v ad)))
theorem ix_cal_mono {f : ix_F} (hf : ∀ (mid : Nat) (av : List Value) (hp hp' : ix_H) (rv : Option Value), f mid av hp = some (rv, hp') → hp.1 ≤ hp'.1 ∧ hp.2.1 ≤ hp'.2.1) {oc : Nat} {i : Instr} {st st' : List Value} {hp hp' : ix_H} (h : ix_cal T f oc i st hp = some (st', hp')) : hp.1 ≤ hp'.1 ∧ hp.2.1 ≤ hp'.2.1 := by
  unfold ix_cal at h
  split at h <;> (repeat' (split at h)) <;> first | (cases h; done) | (cases h; exact ⟨Nat.le_refl _, Nat.le_refl _⟩) | (exact ix_acp_mono h) | (rename_i hr; cases h; exact hf _ _ _ _ _ hr)
set_option maxHeartbeats 4000000 in
theorem ix_one_ok {M : ix_M} {f : ix_F} {d n0 k0 : Nat} (hmono : ∀ (mid : Nat) (av : List Value) (hp hp' : ix_H) (rv : Option Value), f mid av hp = some (rv, hp') → hp.1 ≤ hp'.1 ∧ hp.2.1 ≤ hp'.2.1) (hx : p.tables.exec = Jvm.exec) (hb : c.code = M.2.2.1) (hml : c.maxLocals = M.2.2.2.1) (had : ∀ a : Nat, a < 1000000 → ad a = base + a) (hts : ∀ w ∈ Ts, w.before args s = true) (hown : s.vm.findClass (on M.1) = some m.cls) (hT : ix_okT T cl on Ts Ns) (hSt : ix_St T D cl aC tys on Ts Ns ad base s)
    (h0 : s.heap.size = base + n0) (hf : ix_Snd l T D cl aC tys on Ts Ns ad base d f) (hfr : d + 1 ≤ R.frames) (hlo : 64 * (d + 1) ≤ R.locals) (hini : M.2.2.2.2.2.1 = true → meth.name = "<init>") (hcode : ∀ (pc : Nat) (i : Instr), M.2.2.2.2.2.2 pc = some i → ∃ len : Nat, decode M.2.2.1 pc = .ok (i, len) ∧ (ix_len i = 0 ∨ ix_len i = len))
    {ls : ix_L} {st : List Value} {hp : ix_H} {res : ix_S ⊕ (Option Value × ix_H)} (h : ix_one T f M (pc, ls, st, hp) = some res) : (hp.1 ≤ (ix_rh res).1 ∧ hp.2.1 ≤ (ix_rh res).2.1) ∧ (n0 ≤ hp.1 → k0 ≤ hp.2.1 → (ix_rh res).1 - n0 ≤ R.cells → (ix_rh res).2.1 - k0 ≤ R.slots → ix_End p l e R s m args below meth c Q D cl aC ad base n0 k0 M res → ix_End p l e R s m args below meth c Q D cl aC ad base n0 k0 M (.inl (pc, ls, st, hp))) := by
  unfold ix_one at h
  simp only at h
  split at h
  · cases h
  · rename_i i hi
    obtain ⟨len, hd, hlen⟩ := hcode pc i hi
    split at h
    · rename_i rv hr
      cases h
      exact ⟨⟨Nat.le_refl _, Nat.le_refl _⟩, fun _ _ _ _ k H1 locs1 arr1 hW _ => k H1 locs1 arr1 pc i st hW hi hr⟩
    · split at h
      · rename_i hr st' ha
        cases h
        refine ⟨⟨Nat.le_refl _, Nat.le_refl _⟩, fun _ _ _ _ k H1 locs1 arr1 hW hl => ?_⟩
        have hd' : decode M.2.2.1 pc = .ok (i, ix_len i) := by
          rcases hlen with hz | hz
          · exfalso
            cases i <;> first | (simp [ix_len] at hz; done) | (simp [ix_alu] at ha; done)
          · rw [hz]; exact hd
        exact ix_alu_ok hx hb hd' ha (k H1 locs1 arr1 hW hl)
      · split at h
        · rename_i ha ls' st' hb1
          cases h
          refine ⟨⟨Nat.le_refl _, Nat.le_refl _⟩, fun _ _ _ _ k H1 locs1 arr1 hW hl => ?_⟩
          have hd' : decode M.2.2.1 pc = .ok (i, ix_len i) := by
            rcases hlen with hz | hz
            · exfalso
              cases i <;> first | (simp [ix_len] at hz; done) | (simp [ix_loc] at hb1; done)
            · rw [hz]; exact hd
          exact ix_loc_ok hx hb hl hd' hb1 (fun arr2 hl2 => k H1 locs1 arr2 hW hl2)
        · split at h
          · rename_i st' hp' hh
            cases h
            refine ⟨ix_hp_mono hh, fun hn0 hk0 hR hR2 k H1 locs1 arr1 hW hl => ?_⟩
            have hd' : decode M.2.2.1 pc = .ok (i, ix_len i) := by
              rcases hlen with hz | hz
              · exfalso
                cases i <;> first | (simp [ix_len] at hz; done) | (simp [ix_hp] at hh; done)
              · rw [hz]; exact hd
            exact ix_hp_ok hx hb had hts hown hSt.1 hT.1 hT.2.1 hT.2.2.1 hT.2.2.2.1 hSt.2.1 hSt.2.2.1 hW h0 hn0 hk0 hini hd' hh hR hR2 (fun H2 locs2 hW2 => k H2 locs2 arr1 hW2 hl)
          · split at h
            · rename_i pc' st' hbr
              cases h
              refine ⟨⟨Nat.le_refl _, Nat.le_refl _⟩, fun _ _ _ _ k H1 locs1 arr1 hW hl => ?_⟩
              exact ix_br_ok hx hb had hd hlen hbr (k H1 locs1 arr1 hW hl)
            · split at h
              · rename_i st' hp' hc
                cases h
                refine ⟨ix_cal_mono hmono hc, fun hn0 hk0 hR hR2 k H1 locs1 arr1 hW hl => ?_⟩
                have hd' : decode M.2.2.1 pc = .ok (i, ix_len i) := by
                  rcases hlen with hz | hz
                  · exfalso
                    cases i <;> first | (simp [ix_len] at hz; done) | (simp [ix_cal] at hc; done)
                  · rw [hz]; exact hd
                exact ix_cal_ok hx hb hml hl.1 had hts hown hT hSt hW h0 hn0 hk0 hf hfr hlo hd' hc hR hR2 (fun H2 locs2 hW2 => k H2 locs2 arr1 hW2 hl)
              · cases h
theorem ix_iter_ok {M : ix_M} {f : ix_F} {d n0 k0 : Nat} (hmono : ∀ (mid : Nat) (av : List Value) (hp hp' : ix_H) (rv : Option Value), f mid av hp = some (rv, hp') → hp.1 ≤ hp'.1 ∧ hp.2.1 ≤ hp'.2.1) (hx : p.tables.exec = Jvm.exec) (hb : c.code = M.2.2.1) (hml : c.maxLocals = M.2.2.2.1) (had : ∀ a : Nat, a < 1000000 → ad a = base + a) (hts : ∀ w ∈ Ts, w.before args s = true) (hown : s.vm.findClass (on M.1) = some m.cls) (hT : ix_okT T cl on Ts Ns) (hSt : ix_St T D cl aC tys on Ts Ns ad base s)
    (h0 : s.heap.size = base + n0) (hf : ix_Snd l T D cl aC tys on Ts Ns ad base d f) (hfr : d + 1 ≤ R.frames) (hlo : 64 * (d + 1) ≤ R.locals) (hini : M.2.2.2.2.2.1 = true → meth.name = "<init>") (hcode : ∀ (pc : Nat) (i : Instr), M.2.2.2.2.2.2 pc = some i → ∃ len : Nat, decode M.2.2.1 pc = .ok (i, len) ∧ (ix_len i = 0 ∨ ix_len i = len)) :
    ∀ (k : Nat) (σ : ix_S) (res : ix_S ⊕ (Option Value × ix_H)), ix_iter T f M k σ = some res → (σ.2.2.2.1 ≤ (ix_rh res).1 ∧ σ.2.2.2.2.1 ≤ (ix_rh res).2.1) ∧ (n0 ≤ σ.2.2.2.1 → k0 ≤ σ.2.2.2.2.1 → (ix_rh res).1 - n0 ≤ R.cells → (ix_rh res).2.1 - k0 ≤ R.slots → ix_End p l e R s m args below meth c Q D cl aC ad base n0 k0 M res → ix_End p l e R s m args below meth c Q D cl aC ad base n0 k0 M (.inl σ)) := by
  intro k
  induction k with
  | zero =>
    intro σ res h
    obtain ⟨pc, ls, st, hp⟩ := σ
    exact ix_one_ok hmono hx hb hml had hts hown hT hSt h0 hf hfr hlo hini hcode h
  | succ k ih =>
    intro σ res h
    unfold ix_iter at h
    split at h
    · rename_i σ' h1
      obtain ⟨m1, c1⟩ := ih σ _ h1
      obtain ⟨m2, c2⟩ := ih σ' _ h
      have m1' : σ.2.2.2.1 ≤ σ'.2.2.2.1 ∧ σ.2.2.2.2.1 ≤ σ'.2.2.2.2.1 := m1
      refine ⟨⟨Nat.le_trans m1'.1 m2.1, Nat.le_trans m1'.2 m2.2⟩, fun hn0 hk0 hR hR2 hE => c1 hn0 hk0 ?_ ?_ (c2 (by omega) (by omega) hR hR2 hE)⟩
      · show σ'.2.2.2.1 - n0 ≤ R.cells
        omega
      · show σ'.2.2.2.2.1 - k0 ≤ R.slots
        omega
    · rename_i x hne
      exact ih σ res h
end IX7
theorem ix_lg (ad : Nat → Nat) (av : List Value) : (lg_sl (av.map (ix_v ad))).length = (lg_sl av).length := by
  induction av with
  | nil => rfl
  | cons v r ih =>
    simp only [lg_sl, List.map_cons, List.flatMap_cons, List.length_append, ix_v_cat] at ih ⊢
    rw [ih]
    congr 1
    split <;> rfl
theorem ix_largs (ad : Nat → Nat) : ∀ (av : List Value) (i : Nat), lv_args i (av.map (ix_v ad)) = ix_l ad (lv_args i av)
  | [], _ => rfl
  | v :: r, i => by
    simp only [List.map_cons, lv_args, ix_l, ix_v_cat]
    rw [ix_largs ad r]
    rfl
theorem ix_run_mono (T : ix_T) (k : Nat) : ∀ (d mid : Nat) (av : List Value) (hp hp' : ix_H) (rv : Option Value), ix_run T k d mid av hp = some (rv, hp') → hp.1 ≤ hp'.1 ∧ hp.2.1 ≤ hp'.2.1 := by
  intro d
  induction d with
  | zero =>
    intro mid av hp hp' rv h
    cases h
  | succ d ih =>
    intro mid av hp hp' rv h
    have one : ∀ (M : ix_M) (σ : ix_S) (res : ix_S ⊕ (Option Value × ix_H)), ix_one T (ix_run T k d) M σ = some res → σ.2.2.2.1 ≤ (ix_rh res).1 ∧ σ.2.2.2.2.1 ≤ (ix_rh res).2.1 := by
      intro M σ res h
      obtain ⟨pc, ls, st, hq⟩ := σ
      unfold ix_one at h
      simp only at h
      split at h
      · cases h
      · split at h
        · cases h; exact ⟨Nat.le_refl _, Nat.le_refl _⟩
        · split at h
          · cases h; exact ⟨Nat.le_refl _, Nat.le_refl _⟩
          · split at h
            · cases h; exact ⟨Nat.le_refl _, Nat.le_refl _⟩
            · split at h
              · rename_i hh
                cases h; exact ix_hp_mono hh
              · split at h
                · cases h; exact ⟨Nat.le_refl _, Nat.le_refl _⟩
                · split at h
                  · rename_i hh
                    cases h; exact ix_cal_mono ih hh
                  · cases h
    have iter : ∀ (M : ix_M) (j : Nat) (σ : ix_S) (res : ix_S ⊕ (Option Value × ix_H)), ix_iter T (ix_run T k d) M j σ = some res → σ.2.2.2.1 ≤ (ix_rh res).1 ∧ σ.2.2.2.2.1 ≤ (ix_rh res).2.1 := by
      intro M j
      induction j with
      | zero => intro σ res h; exact one M σ res h
      | succ j ihj =>
        intro σ res h
        unfold ix_iter at h
        split at h
        · rename_i σ' h1
          have a1 := ihj σ _ h1
          have a2 := ihj σ' _ h
          exact ⟨Nat.le_trans a1.1 a2.1, Nat.le_trans a1.2 a2.2⟩
        · exact ihj σ res h
    unfold ix_run at h
    split at h
    · cases h
    · split at h
      · split at h
        · rename_i hr
          cases h
          exact iter _ _ _ _ hr
        · cases h
      · cases h
set_option maxHeartbeats 4000000 in
theorem ix_run_ok (l : Launch) {T : ix_T} {D : va_G} {cl : List vw_C} {aC : Nat → ClassId} {tys : List (ClassId × FieldType)} {on : Nat → String} {Ts : List Cond} {Ns : ix_Ns} {ad : Nat → Nat} {base : Nat} (had : ∀ a : Nat, a < 1000000 → ad a = base + a) (hT : ix_okT T cl on Ts Ns) (k : Nat) : ∀ d : Nat, ix_Snd l T D cl aC tys on Ts Ns ad base d (ix_run T k d) := by
  intro d
  induction d with
  | zero =>
    intro mid M av hp hp' rv hM h
    cases h
  | succ d ih =>
    intro mid M av hp hp' rv hM h
    have hmono := ix_run_mono T k (d + 1) mid av hp hp' rv h
    refine ⟨hmono.1, hmono.2, ?_⟩
    obtain ⟨g1, g2, g3, g4, g5, g6, g7, g8⟩ := hT.2.2.2.2.2.1 mid M hM
    unfold ix_run at h
    rw [hM] at h
    simp only at h
    split at h
    · rename_i hlen
      split at h
      · rename_i r hr
        cases h
        refine Met.ofW (cc := M.2.2.1) (maxL := M.2.2.2.1) (ret := M.2.2.2.2.1) g2 rfl ?_
        intro p e s m args below meth c s₁ B hml hv
        obtain ⟨rfl, hsize, hP, hSt⟩ := hv
        have hts0 := atoms_spec (ws := ix_wsM M Ts) B.pre
        have hts : ∀ w ∈ Ts, w.before (av.map (ix_v ad)).toArray s = true := fun w hw => hts0 w (List.mem_cons_of_mem _ hw)
        have hown : s.vm.findClass (on M.1) = some m.cls := by rw [g1]; exact findClass_of_methodNamed B.named
        have hname : meth.name = M.2.1.name := (name_of_methodNamed B.named B.method).1
        rw [lg_entry_eq]
        have hl := lv_entry (av.map (ix_v ad)) (n := M.2.2.2.1) (by rw [ix_lg]; exact hlen)
        rw [ix_largs] at hl
        have key := (ix_iter_ok (p := p) (e := e) (R := ix_rm (d + 1) (hp'.1 - hp.1) (hp'.2.1 - hp.2.1)) (s := s) (m := m) (args := (av.map (ix_v ad)).toArray) (below := below) (meth := meth) (c := c) (Q := MQ below (ix_Qc D cl aC ad base rv hp') (av.map (ix_v ad)).toArray s (hp'.1 - hp.1) (hp'.2.1 - hp.2.1) (fun q => base ≤ q)) (n0 := hp.1) (k0 := hp.2.1) (ix_run_mono T k d) B.exec B.bytes hml had hts hown hT hSt hsize ih (Nat.le_refl _) (Nat.le_refl _) (fun q => by rw [hname]; exact g7 q) g8 k _ _ hr).2 (Nat.le_refl _) (Nat.le_refl _) (Nat.le_refl _) (Nat.le_refl _) ?_
        · have k1 := key s.heap [] _ ⟨hP.1, hP.2.1, hP.2.2, va_S.rf⟩ hl
          rw [show hp.1 - hp.1 = 0 by omega, show hp.2.1 - hp.2.1 = 0 by omega] at k1
          exact k1
        · intro H1 locs1 arr1 pc' i st' hW hi hret
          obtain ⟨len, hd, hlen2⟩ := g8 pc' i hi
          have hd' : decode M.2.2.1 pc' = .ok (i, ix_len i) := by
            rcases hlen2 with hz | hz
            · exfalso
              cases i <;> first | (simp [ix_len] at hz; done) | (simp [ix_ret] at hret; done)
            · rw [hz]; exact hd
          exact ix_ret_ok B.exec B.bytes B.returns B.notSynchronized hd' hret (fun t ht _ => ⟨rfl, by rw [ht]; exact ⟨hW.1, hW.2.1, hW.2.2.1⟩, hW.2.2.2.F ht⟩) hW.2.2.2.2.2
      · cases h
    · cases h
end
section
/-! ===== the tables' words, and the words of the private methods out of them, by one walk ===== -/
noncomputable def lw_okq (q : MethodName × Nat) : Prop := (q.1.cls ≠ "java/lang/invoke/MethodHandle" ∧ q.1.cls ≠ "java/lang/invoke/VarHandle") ∧ Cond.instantiable q.1.cls q.2 ∈ tables_1 ∧ Cond.privateMethod q.1 ∈ tables_1 ∧ Cond.instanceMethod q.1 ∈ tables_1
noncomputable def lw_privs_1 : List (MethodName × Nat) := [(⟨"PacketWall", "feedFour", "(I)V"⟩, 15), (⟨"PacketWall", "isPacket", "(I)Z"⟩, 15), (⟨"PacketWall$Headers", "sizeIfRight", "(II)I"⟩, 8), (⟨"PacketWall$Headers", "find", "(III)V"⟩, 8), (⟨"PacketWall$Headers", "isMisplaced", "(I)Z"⟩, 8), (⟨"PacketWall$Headers", "isOtherVersion", "(II)Z"⟩, 8), (⟨"PacketWall$Headers", "isCut", "(II)Z"⟩, 8), (⟨"PacketWall$Headers", "fullSize", "(II)I"⟩, 8), (⟨"PacketWall$Headers", "checkTold", "(II)V"⟩, 8), (⟨"PacketWall$Headers", "kindBehind", "(III)I"⟩, 8), (⟨"PacketWall$Headers", "toldKind", "(III)I"⟩, 8), (⟨"PacketWall$Headers", "quotedKind", "(II)I"⟩, 8), (⟨"PacketWall$Headers", "nearestNet", "(I)I"⟩, 8), (⟨"PacketWall$Headers", "addressTwos", "(I)J"⟩, 8), (⟨"PacketWall", "soughtGathering", "()I"⟩, 15), (⟨"PacketWall", "isRefusedPiece", "(IZ)Z"⟩, 15)]
noncomputable def lw_privs_2 : List (MethodName × Nat) := [(⟨"PacketWall", "freeGathering", "()I"⟩, 15), (⟨"PacketWall$Gathering", "keepHeaders", "(LPacketWall$Headers;I)V"⟩, 14), (⟨"PacketWall$Gathering", "lastPlace", "()I"⟩, 14), (⟨"PacketWall$Gathering", "rowBytes", "()I"⟩, 14), (⟨"PacketWall", "putTogether", "(LPacketWall$Gathering;)I"⟩, 15), (⟨"PacketWall$Gathering", "headersLength", "()I"⟩, 14), (⟨"PacketWall", "fillBucket", "(II)V"⟩, 15), (⟨"PacketWall$Flows", "findEnds", "(LPacketWall$Headers;)Z"⟩, 9), (⟨"PacketWall$Flows", "isQuoting", "(LPacketWall$Headers;)Z"⟩, 9), (⟨"PacketWall$Flows", "flowOfEnds", "()I"⟩, 9), (⟨"PacketWall$Flows", "begin", "(LPacketWall$Headers;I)I"⟩, 9), (⟨"PacketWall$Flow", "takeStream", "(LPacketWall$Headers;II)I"⟩, 16), (⟨"PacketWall$Flow", "isOut", "(III)Z"⟩, 16), (⟨"PacketWall$Flow", "lifeNow", "()I"⟩, 16), (⟨"PacketWall$Flows", "isPortTaken", "(JI)Z"⟩, 9), (⟨"PacketWall$Parser", "advance", "()V"⟩, 12)]
noncomputable def lw_privs_3 : List (MethodName × Nat) := [(⟨"PacketWall$Parser", "letterAt", "(I)I"⟩, 12), (⟨"PacketWall$Parser", "wordIn", "(Ljava/lang/String;)I"⟩, 12), (⟨"PacketWall$Parser", "isDigitAt", "(I)Z"⟩, 12), (⟨"PacketWall$Parser", "takeNumber", "()V"⟩, 12), (⟨"PacketWall$Parser", "isWord", "(I)Z"⟩, 12), (⟨"PacketWall$Parser", "refuse", "()V"⟩, 12), (⟨"PacketWall$Parser", "fail", "(I)V"⟩, 12), (⟨"PacketWall$Parser", "isName", "()Z"⟩, 12), (⟨"PacketWall$Parser", "chainNamed", "(I)I"⟩, 12), (⟨"PacketWall$Parser", "isSameWord", "(II)Z"⟩, 12), (⟨"PacketWall$Parser", "block", "(IZ)V"⟩, 12), (⟨"PacketWall$Parser", "open", "(CI)V"⟩, 12), (⟨"PacketWall$Parser", "isSign", "(C)Z"⟩, 12), (⟨"PacketWall$Parser", "deed", "(IZ)V"⟩, 12), (⟨"PacketWall$Parser", "countNode", "()V"⟩, 12), (⟨"PacketWall$Parser", "choice", "(IZ)V"⟩, 12)]
noncomputable def lw_privs_4 : List (MethodName × Nat) := [(⟨"PacketWall$Parser", "exp", "(II)V"⟩, 12), (⟨"PacketWall$Parser", "one", "(I)V"⟩, 12), (⟨"PacketWall$Parser", "expect", "(C)V"⟩, 12), (⟨"PacketWall$Parser", "kindField", "()V"⟩, 12), (⟨"PacketWall$Parser", "askingWord", "(I)V"⟩, 12), (⟨"PacketWall$Parser", "exps", "(II)V"⟩, 12), (⟨"PacketWall$Parser", "rankOfSign", "()I"⟩, 12), (⟨"PacketWall$Parser", "expectName", "()V"⟩, 12), (⟨"PacketWall$Machine", "clearReport", "()V"⟩, 20), (⟨"PacketWall$Machine", "clearFailure", "()V"⟩, 20), (⟨"PacketWall$Machine", "enter", "(IZ)Z"⟩, 20), (⟨"PacketWall$Machine", "fail", "(I)V"⟩, 20), (⟨"PacketWall$Machine", "perform", "()V"⟩, 20), (⟨"PacketWall$Machine", "workSign", "(II)V"⟩, 20), (⟨"PacketWall$Machine", "pop", "()J"⟩, 20), (⟨"PacketWall$Machine", "push", "(J)V"⟩, 20)]
noncomputable def lw_privs_5 : List (MethodName × Nat) := [(⟨"PacketWall$Machine", "pushTruth", "(Z)V"⟩, 20), (⟨"PacketWall$Machine", "skip", "(ZI)V"⟩, 20), (⟨"PacketWall$Machine", "workBetween", "(CJJ)V"⟩, 20), (⟨"PacketWall$Machine", "divide", "(CJJ)V"⟩, 20), (⟨"PacketWall$Machine", "goOn", "(II)V"⟩, 20), (⟨"PacketWall$Machine", "takeStep", "()V"⟩, 20), (⟨"PacketWall$Machine", "leaveBody", "(I)V"⟩, 20), (⟨"PacketWall$Machine", "chainNow", "()I"⟩, 20), (⟨"PacketWall$Machine", "leaveChain", "()V"⟩, 20), (⟨"PacketWall$Machine", "goInto", "(II)V"⟩, 20), (⟨"PacketWall$Machine", "note", "(I)V"⟩, 20), (⟨"PacketWall$Machine", "tell", "(II)V"⟩, 20), (⟨"PacketWall$Machine", "tellField", "(II)V"⟩, 20), (⟨"PacketWall$Machine", "ask", "(I)V"⟩, 20), (⟨"PacketWall$Machine", "askByte", "(J)V"⟩, 20), (⟨"PacketWall$Machine", "spend", "(J)V"⟩, 20)]
noncomputable def lw_privs_6 : List (MethodName × Nat) := [(⟨"PacketWall$Machine", "askLong", "(J)V"⟩, 20), (⟨"PacketWall$Machine", "isRow", "(J)Z"⟩, 20), (⟨"PacketWall$Machine", "askSet", "(JJ)V"⟩, 20), (⟨"PacketWall$Machine", "askRow", "(JJ)V"⟩, 20), (⟨"PacketWall$Machine", "isItemOfNumbers", "(JJ)Z"⟩, 20), (⟨"PacketWall$Machine", "askHead", "(JJJ)V"⟩, 20), (⟨"PacketWall$Machine", "doDeed", "(I)V"⟩, 20), (⟨"PacketWall$Machine", "setLabel", "()V"⟩, 20), (⟨"PacketWall$Machine", "count", "()V"⟩, 20), (⟨"PacketWall$Machine", "learn", "()V"⟩, 20), (⟨"PacketWall$Machine", "putItem", "()V"⟩, 20), (⟨"PacketWall$Machine", "copyItems", "()V"⟩, 20), (⟨"PacketWall$Row", "copyItem", "(LPacketWall$Row;II)V"⟩, 4), (⟨"PacketWall$Machine", "makeFresh", "()V"⟩, 20), (⟨"PacketWall$Machine", "makeList", "()V"⟩, 20), (⟨"PacketWall$Machine", "unwind", "()V"⟩, 20)]
noncomputable def lw_privs_7 : List (MethodName × Nat) := [(⟨"PacketWall$Flow", "hasRightState", "()Z"⟩, 16), (⟨"PacketWall$Flow", "hasRightAddresses", "()Z"⟩, 16), (⟨"PacketWall$Flows", "isTold", "(I)Z"⟩, 9), (⟨"PacketWall", "countPackets", "()I"⟩, 15), (⟨"PacketWall", "countGatherings", "()I"⟩, 15), (⟨"PacketWallModel", "layWords", "()V"⟩, 148), (⟨"PacketWallModel", "putWord", "(I)V"⟩, 148), (⟨"PacketWallModel", "isThere", "(I)Z"⟩, 148), (⟨"PacketWallModel", "finds", "(III)V"⟩, 148), (⟨"PacketWallModel", "look", "(I)V"⟩, 148), (⟨"PacketWallModel", "against", "(I)I"⟩, 148), (⟨"PacketWallModel", "measure", "(III)I"⟩, 148), (⟨"PacketWallModel", "one", "(II)I"⟩, 148), (⟨"PacketWallModel", "two", "(II)I"⟩, 148), (⟨"PacketWallModel", "behind", "(III)I"⟩, 148), (⟨"PacketWallModel", "valueOf", "(IIIII)J"⟩, 148)]
noncomputable def lw_privs_8 : List (MethodName × Nat) := [(⟨"PacketWallModel", "ofFour", "(III)J"⟩, 148), (⟨"PacketWallModel", "four", "(II)J"⟩, 148), (⟨"PacketWallModel", "ofSix", "(III)J"⟩, 148), (⟨"PacketWallModel", "eight", "(II)J"⟩, 148), (⟨"PacketWallModel", "ofStream", "(III)J"⟩, 148), (⟨"PacketWallModel", "sumOf", "(II)I"⟩, 148), (⟨"PacketWallModel", "sumAt", "(I)I"⟩, 148), (⟨"PacketWallModel", "added", "(IIII)J"⟩, 148), (⟨"PacketWallModel", "right", "(II)Z"⟩, 148), (⟨"PacketWallModel", "layTwo", "(III)V"⟩, 148), (⟨"PacketWallModel", "piece", "(I)I"⟩, 148), (⟨"PacketWallModel", "net", "()I"⟩, 148), (⟨"PacketWallModel", "gathering", "(IJJJI)I"⟩, 148), (⟨"PacketWallModel", "freeGathering", "()I"⟩, 148), (⟨"PacketWallModel", "beginGathering", "(IIJJJI)V"⟩, 148), (⟨"PacketWallModel", "tellWhole", "(II)V"⟩, 148)]
noncomputable def lw_privs_9 : List (MethodName × Nat) := [(⟨"PacketWallModel", "growRow", "(II)V"⟩, 148), (⟨"PacketWallModel", "layData", "(IIIII)V"⟩, 148), (⟨"PacketWallModel", "keepHeaders", "(IIII)V"⟩, 148), (⟨"PacketWallModel", "finish", "(I)I"⟩, 148), (⟨"PacketWallModel", "hasEnds", "(I)Z"⟩, 148), (⟨"PacketWallModel", "takeEnds", "(III)V"⟩, 148), (⟨"PacketWallModel", "isRelated", "(I)Z"⟩, 148), (⟨"PacketWallModel", "flowByEnds", "()I"⟩, 148), (⟨"PacketWallModel", "sideOf", "(I)I"⟩, 148), (⟨"PacketWallModel", "beginFlow", "()I"⟩, 148), (⟨"PacketWallModel", "forget", "(I)V"⟩, 148), (⟨"PacketWallModel", "after", "(III)I"⟩, 148), (⟨"PacketWallModel", "isOut", "(III)Z"⟩, 148), (⟨"PacketWallModel", "longOf", "(I)I"⟩, 148), (⟨"PacketWallModel", "counts", "(II)V"⟩, 148), (⟨"PacketWallModel", "isFlow", "(I)Z"⟩, 148)]
noncomputable def lw_privs_10 : List (MethodName × Nat) := [(⟨"PacketWallModel", "isTaken", "(JI)Z"⟩, 148), (⟨"PacketWallModel", "layFour", "(IIJ)V"⟩, 148), (⟨"PacketWallModel", "tapeTwo", "(II)V"⟩, 148), (⟨"PacketWallModel", "tapeFour", "(IJ)V"⟩, 148), (⟨"PacketWallModel", "sumOfTape", "(II)I"⟩, 148), (⟨"PacketWallModel", "isRow", "(II)Z"⟩, 148), (⟨"PacketWallModel", "takenTwo", "(I)I"⟩, 148), (⟨"PacketWallModel", "takenEight", "(I)J"⟩, 148), (⟨"PacketWallModel", "takenFour", "(I)J"⟩, 148), (⟨"PacketWallModel", "haveLikeEnds", "(II)Z"⟩, 148), (⟨"PacketWallModel", "takeRow", "(I)V"⟩, 148), (⟨"PacketWallModel", "next", "()V"⟩, 148), (⟨"PacketWallModel", "isWord", "(I)Z"⟩, 148), (⟨"PacketWallModel", "chain", "()V"⟩, 148), (⟨"PacketWallModel", "fails", "(II)V"⟩, 148), (⟨"PacketWallModel", "isName", "()Z"⟩, 148)]
noncomputable def lw_privs_11 : List (MethodName × Nat) := [(⟨"PacketWallModel", "wrongToken", "()V"⟩, 148), (⟨"PacketWallModel", "good", "()Z"⟩, 148), (⟨"PacketWallModel", "beginBlock", "(II)V"⟩, 148), (⟨"PacketWallModel", "wantDeeper", "(I)V"⟩, 148), (⟨"PacketWallModel", "isSign", "(I)Z"⟩, 148), (⟨"PacketWallModel", "deeper", "()V"⟩, 148), (⟨"PacketWallModel", "closeBlock", "()V"⟩, 148), (⟨"PacketWallModel", "emit", "(IJ)V"⟩, 148), (⟨"PacketWallModel", "deed", "()V"⟩, 148), (⟨"PacketWallModel", "isWordIn", "(II)Z"⟩, 148), (⟨"PacketWallModel", "node", "()V"⟩, 148), (⟨"PacketWallModel", "exp", "()V"⟩, 148), (⟨"PacketWallModel", "takeOperand", "()Z"⟩, 148), (⟨"PacketWallModel", "push", "(II)V"⟩, 148), (⟨"PacketWallModel", "hasKind", "()V"⟩, 148), (⟨"PacketWallModel", "want", "(I)V"⟩, 148)]
noncomputable def lw_privs_12 : List (MethodName × Nat) := [(⟨"PacketWallModel", "kindAndField", "()V"⟩, 148), (⟨"PacketWallModel", "reduce", "(I)V"⟩, 148), (⟨"PacketWallModel", "takeSign", "()Z"⟩, 148), (⟨"PacketWallModel", "isCompareOnTop", "()Z"⟩, 148), (⟨"PacketWallModel", "open", "(I)V"⟩, 148), (⟨"PacketWallModel", "resolve", "()V"⟩, 148), (⟨"PacketWallModel", "enter", "(IZ)V"⟩, 148), (⟨"PacketWallModel", "layAside", "(I)V"⟩, 148), (⟨"PacketWallModel", "act", "(IJ)V"⟩, 148), (⟨"PacketWallModel", "endBehind", "(I)V"⟩, 148), (⟨"PacketWallModel", "leave", "(II)V"⟩, 148), (⟨"PacketWallModel", "giveBack", "(I)V"⟩, 148), (⟨"PacketWallModel", "fieldOf", "(II)J"⟩, 148), (⟨"PacketWallModel", "first", "(I)I"⟩, 148), (⟨"PacketWallModel", "word", "(I)V"⟩, 148), (⟨"PacketWallModel", "flowOfPacket", "()I"⟩, 148)]
noncomputable def lw_privs_13 : List (MethodName × Nat) := [(⟨"PacketWallModel", "needed", "(J)J"⟩, 148), (⟨"PacketWallModel", "byteAt", "(J)J"⟩, 148), (⟨"PacketWallModel", "spend", "(J)J"⟩, 148), (⟨"PacketWallModel", "rowFor", "(J)I"⟩, 148), (⟨"PacketWallModel", "isIn", "(JJ)Z"⟩, 148), (⟨"PacketWallModel", "itemOf", "(JJ)J"⟩, 148), (⟨"PacketWallModel", "headOf", "(JJJ)J"⟩, 148), (⟨"PacketWallModel", "bySign", "(I)V"⟩, 148), (⟨"PacketWallModel", "doDeed", "(IJ)V"⟩, 148), (⟨"PacketWallModel", "noteWhy", "(I)V"⟩, 148), (⟨"PacketWallModel", "learn", "(JJ)V"⟩, 148), (⟨"PacketWallModel", "put", "(JJJ)V"⟩, 148), (⟨"PacketWallModel", "copy", "(JJJJJ)V"⟩, 148), (⟨"PacketWallModel", "layHead", "(II)V"⟩, 148), (⟨"PacketWallModel", "fresh", "(JJJ)V"⟩, 148), (⟨"PacketWallModel", "list", "(J)V"⟩, 148)]
noncomputable def lw_privs_14 : List (MethodName × Nat) := [(⟨"PacketWallModel", "raise", "(I)V"⟩, 148)]
noncomputable def lw_privs : List (MethodName × Nat) := lw_privs_1 ++ (lw_privs_2 ++ (lw_privs_3 ++ (lw_privs_4 ++ (lw_privs_5 ++ (lw_privs_6 ++ (lw_privs_7 ++ (lw_privs_8 ++ (lw_privs_9 ++ (lw_privs_10 ++ (lw_privs_11 ++ (lw_privs_12 ++ (lw_privs_13 ++ (lw_privs_14)))))))))))))
noncomputable def lw_tbl : List Cond := k2_sels lw_privs ++ tables_1
noncomputable def lw_hd (x : MethodName) : List Cond → Bool
  | [] => false
  | t :: _ => decide (Cond.instanceMethod x = t)
theorem lw_hd_ok {x : MethodName} {l : List Cond} (h : lw_hd x l = true) : Cond.instanceMethod x ∈ l := by
  cases l with
  | nil =>
    have h2 : false = true := h
    exact absurd h2 (by decide)
  | cons t r =>
    have e : Cond.instanceMethod x = t := of_decide_eq_true h
    rw [e]
    exact List.mem_cons_self
/-- the words of the methods qs stand at the places ks -/
noncomputable def lw_go : List Cond → List Nat → List (MethodName × Nat) → Nat → Bool
  | [], _, qs, _ => qs.isEmpty
  | t :: ts, ks, qs, n =>
    match qs, ks with
    | [], _ => true
    | _ :: _, [] => false
    | q :: qs', k :: ks' => bif Nat.beq n k then (decide (Cond.privateMethod q.1 = t) && lw_hd q.1 ts && lw_go ts ks' qs' (n + 1)) else lw_go ts (k :: ks') (q :: qs') (n + 1)
theorem lw_go_ok : ∀ (T : List Cond) (ks : List Nat) (qs : List (MethodName × Nat)) (n : Nat), lw_go T ks qs n = true → ∀ q ∈ qs, Cond.privateMethod q.1 ∈ T ∧ Cond.instanceMethod q.1 ∈ T := by
  intro T
  induction T with
  | nil =>
    intro ks qs n h q hq
    cases qs with
    | nil => exact absurd hq List.not_mem_nil
    | cons a as =>
      have h2 : false = true := h
      exact absurd h2 (by decide)
  | cons t ts ih =>
    intro ks qs n h q hq
    cases qs with
    | nil => exact absurd hq List.not_mem_nil
    | cons a as =>
      cases ks with
      | nil =>
        have h2 : false = true := h
        exact absurd h2 (by decide)
      | cons k ks =>
        have h2 : (bif Nat.beq n k then (decide (Cond.privateMethod a.1 = t) && lw_hd a.1 ts && lw_go ts ks as (n + 1)) else lw_go ts (k :: ks) (a :: as) (n + 1)) = true := h
        cases hb : Nat.beq n k with
        | true =>
          rw [hb] at h2
          have h3 : (decide (Cond.privateMethod a.1 = t) && lw_hd a.1 ts && lw_go ts ks as (n + 1)) = true := h2
          rw [Bool.and_eq_true, Bool.and_eq_true] at h3
          rcases List.mem_cons.mp hq with e | e
          · have e1 : Cond.privateMethod a.1 = t := of_decide_eq_true h3.1.1
            rw [e]
            exact ⟨by rw [e1]; exact List.mem_cons_self, List.mem_cons_of_mem _ (lw_hd_ok h3.1.2)⟩
          · have r := ih ks as (n + 1) h3.2 q e
            exact ⟨List.mem_cons_of_mem _ r.1, List.mem_cons_of_mem _ r.2⟩
        | false =>
          rw [hb] at h2
          have h3 : lw_go ts (k :: ks) (a :: as) (n + 1) = true := h2
          have r := ih (k :: ks) (a :: as) (n + 1) h3 q hq
          exact ⟨List.mem_cons_of_mem _ r.1, List.mem_cons_of_mem _ r.2⟩
noncomputable def lw_ks : List Nat := [552, 582, 603, 607, 611, 622, 626, 633, 637, 648, 652, 663, 735, 739, 806, 814, 824, 842, 849, 857, 865, 873, 897, 910, 919, 934, 945, 965, 973, 978, 1027, 1054, 1058, 1063, 1115, 1119, 1188, 1192, 1196, 1200, 1204, 1208, 1212, 1216, 1220, 1224, 1228, 1236, 1240, 1244, 1248, 1253, 1274, 1281, 1285, 1293, 1331, 1335, 1339, 1343, 1353, 1362, 1366, 1370, 1374, 1378, 1382, 1386, 1390, 1394, 1398, 1402, 1406, 1410, 1414, 1418, 1424, 1437, 1441, 1447, 1454, 1458, 1462, 1470, 1474, 1486, 1492, 1496, 1500, 1508, 1517, 1526, 1542, 1549, 1558, 1569, 1652, 1656, 1660, 1672, 1676, 1690, 2143, 2170, 2189, 2193, 2197, 2201, 2205, 2212, 2216, 2247, 2251, 2255, 2259, 2263, 2267, 2282, 2286, 2290, 2303, 2307, 2315, 2319, 2323, 2327, 2331, 2335, 2339, 2343, 2347, 2351, 2378, 2382, 2386, 2390, 2394, 2401, 2405, 2409, 2413, 2417, 2425, 2433, 2456, 2464, 2472, 2476, 2480, 2488, 2492, 2497, 2501, 2506, 2510, 2530, 2544, 2548, 2552, 2556, 2560, 2564, 2568, 2572, 2576, 2580, 2584, 2588, 2592, 2596, 2600, 2604, 2608, 2612, 2616, 2620, 2624, 2628, 2635, 2639, 2643, 2653, 2665, 2669, 2673, 2677, 2681, 2685, 2689, 2693, 2700, 2704, 2709, 2713, 2717, 2721, 2726, 2730, 2734, 2738, 2742, 2746, 2750, 2754, 2758, 2763, 2767, 2772, 2776]
theorem lw_go_1 : lw_go tables_1 lw_ks lw_privs 0 = true := by decide +kernel
noncomputable def lw_cls : List (String × Nat) := [("PacketWall", 15), ("PacketWall$Headers", 8), ("PacketWall$Gathering", 14), ("PacketWall$Flows", 9), ("PacketWall$Flow", 16), ("PacketWall$Parser", 12), ("PacketWall$Machine", 20), ("PacketWall$Row", 4), ("PacketWallModel", 148)]
theorem lw_c0 : ("PacketWall" ≠ "java/lang/invoke/MethodHandle" ∧ "PacketWall" ≠ "java/lang/invoke/VarHandle") ∧ Cond.instantiable "PacketWall" 15 ∈ tables_1 := ⟨⟨by decide +kernel, by decide +kernel⟩, List.mem_of_getElem? (i := 22) (by decide +kernel)⟩
theorem lw_c1 : ("PacketWall$Headers" ≠ "java/lang/invoke/MethodHandle" ∧ "PacketWall$Headers" ≠ "java/lang/invoke/VarHandle") ∧ Cond.instantiable "PacketWall$Headers" 8 ∈ tables_1 := ⟨⟨by decide +kernel, by decide +kernel⟩, List.mem_of_getElem? (i := 32) (by decide +kernel)⟩
theorem lw_c2 : ("PacketWall$Gathering" ≠ "java/lang/invoke/MethodHandle" ∧ "PacketWall$Gathering" ≠ "java/lang/invoke/VarHandle") ∧ Cond.instantiable "PacketWall$Gathering" 14 ∈ tables_1 := ⟨⟨by decide +kernel, by decide +kernel⟩, List.mem_of_getElem? (i := 102) (by decide +kernel)⟩
theorem lw_c3 : ("PacketWall$Flows" ≠ "java/lang/invoke/MethodHandle" ∧ "PacketWall$Flows" ≠ "java/lang/invoke/VarHandle") ∧ Cond.instantiable "PacketWall$Flows" 9 ∈ tables_1 := ⟨⟨by decide +kernel, by decide +kernel⟩, List.mem_of_getElem? (i := 154) (by decide +kernel)⟩
theorem lw_c4 : ("PacketWall$Flow" ≠ "java/lang/invoke/MethodHandle" ∧ "PacketWall$Flow" ≠ "java/lang/invoke/VarHandle") ∧ Cond.instantiable "PacketWall$Flow" 16 ∈ tables_1 := ⟨⟨by decide +kernel, by decide +kernel⟩, List.mem_of_getElem? (i := 161) (by decide +kernel)⟩
theorem lw_c5 : ("PacketWall$Parser" ≠ "java/lang/invoke/MethodHandle" ∧ "PacketWall$Parser" ≠ "java/lang/invoke/VarHandle") ∧ Cond.instantiable "PacketWall$Parser" 12 ∈ tables_1 := ⟨⟨by decide +kernel, by decide +kernel⟩, List.mem_of_getElem? (i := 258) (by decide +kernel)⟩
theorem lw_c6 : ("PacketWall$Machine" ≠ "java/lang/invoke/MethodHandle" ∧ "PacketWall$Machine" ≠ "java/lang/invoke/VarHandle") ∧ Cond.instantiable "PacketWall$Machine" 20 ∈ tables_1 := ⟨⟨by decide +kernel, by decide +kernel⟩, List.mem_of_getElem? (i := 342) (by decide +kernel)⟩
theorem lw_c7 : ("PacketWall$Row" ≠ "java/lang/invoke/MethodHandle" ∧ "PacketWall$Row" ≠ "java/lang/invoke/VarHandle") ∧ Cond.instantiable "PacketWall$Row" 4 ∈ tables_1 := ⟨⟨by decide +kernel, by decide +kernel⟩, List.mem_of_getElem? (i := 390) (by decide +kernel)⟩
theorem lw_c8 : ("PacketWallModel" ≠ "java/lang/invoke/MethodHandle" ∧ "PacketWallModel" ≠ "java/lang/invoke/VarHandle") ∧ Cond.instantiable "PacketWallModel" 148 ∈ tables_1 := ⟨⟨by decide +kernel, by decide +kernel⟩, List.mem_of_getElem? (i := 1684) (by decide +kernel)⟩
theorem lw_cls_ok : ∀ c ∈ lw_cls, (c.1 ≠ "java/lang/invoke/MethodHandle" ∧ c.1 ≠ "java/lang/invoke/VarHandle") ∧ Cond.instantiable c.1 c.2 ∈ tables_1 := List.forall_mem_cons.mpr ⟨lw_c0, List.forall_mem_cons.mpr ⟨lw_c1, List.forall_mem_cons.mpr ⟨lw_c2, List.forall_mem_cons.mpr ⟨lw_c3, List.forall_mem_cons.mpr ⟨lw_c4, List.forall_mem_cons.mpr ⟨lw_c5, List.forall_mem_cons.mpr ⟨lw_c6, List.forall_mem_cons.mpr ⟨lw_c7, List.forall_mem_cons.mpr ⟨lw_c8, fun _ h => absurd h List.not_mem_nil⟩⟩⟩⟩⟩⟩⟩⟩⟩
theorem lw_cls_in : lw_privs.all (fun q => lw_cls.any (fun c => decide (q.1.cls = c.1) && decide (q.2 = c.2))) = true := by decide +kernel
theorem lw_privs_ok : ∀ q ∈ lw_privs, lw_okq q := by
  intro q hq
  have h1 := List.all_eq_true.mp lw_cls_in q hq
  obtain ⟨c, hc, e⟩ := List.any_eq_true.mp h1
  rw [Bool.and_eq_true] at e
  have e1 : q.1.cls = c.1 := of_decide_eq_true e.1
  have e2 : q.2 = c.2 := of_decide_eq_true e.2
  have h2 := lw_cls_ok c hc
  rw [← e1, ← e2] at h2
  have h3 := lw_go_ok _ _ _ _ lw_go_1 q hq
  exact ⟨h2.1, h2.2, h3.1, h3.2⟩
end
