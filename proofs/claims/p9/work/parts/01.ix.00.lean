section
/-! ===== an interpreter of the bytecode over abstract cells: a run of it that ends is a run of the machine (the parts behind this one show it) ===== -/
/-- an abstract cell: an array (number of its type, length and contents), or an object (number of its class, fields); references are numbers of cells, from 1000000 on constants -/
noncomputable abbrev ix_C : Type := (Nat × vp_A) ⊕ (Nat × List Value)
/-- cells made, slots made, the cells -/
noncomputable abbrev ix_H : Type := Nat × Nat × (Nat → ix_C)
/-- a method: its class's number, name, bytes, locals, type of the answer, whether it is a constructor, its instructions -/
noncomputable abbrev ix_M : Type := Nat × MethodName × ByteArray × Nat × Option FieldType × Bool × (Nat → Option Instr)
noncomputable abbrev ix_L : Type := List (Nat × Value)
noncomputable abbrev ix_S : Type := Nat × ix_L × List Value × ix_H
/-- the tables: methods by number; by class and place in its constants: fields (class, field), calls (kind, method, count of arguments), classes, constants; of a class: its fields' types and which are final; of an array type: its elements' class; static rows of ints (by class and place: number of a constant), the constants' lengths and contents -/
noncomputable abbrev ix_T : Type := (Nat → Option ix_M) × (Nat → Nat → Option (Nat × Nat)) × (Nat → Nat → Option (Nat × Nat × Nat)) × (Nat → Nat → Option (Nat × Nat)) × (Nat → Nat → Option Value) × (Nat → Nat × (Nat → FieldType × Bool)) × (Nat → Option Nat) × (Nat → Nat → Option Value) × (Nat → Option (Nat × (Nat → Int32))) × (Nat → Option (Nat × (Nat → Int32))) × (Nat → Option Nat) × (Nat → Nat → Option Bool)
noncomputable def ix_tM (T : ix_T) : Nat → Option ix_M := T.1
noncomputable def ix_tF (T : ix_T) : Nat → Nat → Option (Nat × Nat) := T.2.1
noncomputable def ix_tI (T : ix_T) : Nat → Nat → Option (Nat × Nat × Nat) := T.2.2.1
noncomputable def ix_tC (T : ix_T) : Nat → Nat → Option (Nat × Nat) := T.2.2.2.1
noncomputable def ix_tK (T : ix_T) : Nat → Nat → Option Value := T.2.2.2.2.1
noncomputable def ix_tD (T : ix_T) : Nat → Nat × (Nat → FieldType × Bool) := T.2.2.2.2.2.1
noncomputable def ix_tE (T : ix_T) : Nat → Option Nat := T.2.2.2.2.2.2.1
noncomputable def ix_tS (T : ix_T) : Nat → Nat → Option Value := T.2.2.2.2.2.2.2.1
noncomputable def ix_tA (T : ix_T) : Nat → Option (Nat × (Nat → Int32)) := T.2.2.2.2.2.2.2.2.1
/-- constant rows of bytes; String constants (the number of their row of bytes); String's own fields (true: value, false: coder) -/
noncomputable def ix_tB (T : ix_T) : Nat → Option (Nat × (Nat → Int32)) := T.2.2.2.2.2.2.2.2.2.1
noncomputable def ix_tO (T : ix_T) : Nat → Option Nat := T.2.2.2.2.2.2.2.2.2.2.1
noncomputable def ix_tG (T : ix_T) : Nat → Nat → Option Bool := T.2.2.2.2.2.2.2.2.2.2.2
/-- a constant row of ints -/
noncomputable def ix_cns (T : ix_T) (a : Nat) : Option (Nat × (Nat → Int32)) := bif Nat.blt a 1000000 then none else ix_tA T (a - 1000000)
theorem ix_cns_ok {T : ix_T} {a : Nat} {x : Nat × (Nat → Int32)} (h : ix_cns T a = some x) : ∃ k, a = 1000000 + k ∧ ix_tA T k = some x := by
  unfold ix_cns at h
  cases hb : Nat.blt a 1000000 with
  | true => rw [hb] at h; cases h
  | false =>
    rw [hb] at h
    have : ¬ a < 1000000 := fun q => by rw [Nat.blt_eq.mpr q] at hb; cases hb
    exact ⟨a - 1000000, by omega, h⟩
/-- a constant row of bytes -/
noncomputable def ix_cnb (T : ix_T) (a : Nat) : Option (Nat × (Nat → Int32)) := bif Nat.blt a 1000000 then none else ix_tB T (a - 1000000)
theorem ix_cnb_ok {T : ix_T} {a : Nat} {x : Nat × (Nat → Int32)} (h : ix_cnb T a = some x) : ∃ k, a = 1000000 + k ∧ ix_tB T k = some x := by
  unfold ix_cnb at h
  cases hb : Nat.blt a 1000000 with
  | true => rw [hb] at h; cases h
  | false =>
    rw [hb] at h
    have : ¬ a < 1000000 := fun q => by rw [Nat.blt_eq.mpr q] at hb; cases hb
    exact ⟨a - 1000000, by omega, h⟩
/-- a String constant -/
noncomputable def ix_cno (T : ix_T) (a : Nat) : Option Nat := bif Nat.blt a 1000000 then none else ix_tO T (a - 1000000)
theorem ix_cno_ok {T : ix_T} {a : Nat} {x : Nat} (h : ix_cno T a = some x) : ∃ k, a = 1000000 + k ∧ ix_tO T k = some x := by
  unfold ix_cno at h
  cases hb : Nat.blt a 1000000 with
  | true => rw [hb] at h; cases h
  | false =>
    rw [hb] at h
    have : ¬ a < 1000000 := fun q => by rw [Nat.blt_eq.mpr q] at hb; cases hb
    exact ⟨a - 1000000, by omega, h⟩
noncomputable def ix_up (h : Nat → ix_C) (i : Nat) (c : ix_C) : Nat → ix_C := fun j => bif Nat.beq j i then c else h j
theorem ix_up_self (h : Nat → ix_C) (i : Nat) (c : ix_C) : ix_up h i c i = c := by simp [ix_up]
theorem ix_up_ne (h : Nat → ix_C) {i j : Nat} (c : ix_C) (hj : j ≠ i) : ix_up h i c j = h j := by
  have : Nat.beq j i = false := by
    cases hb : Nat.beq j i with
    | false => rfl
    | true => exact absurd (Nat.eq_of_beq_eq_true hb) hj
  simp [ix_up, this]
noncomputable def ix_v (ad : Nat → Nat) : Value → Value
  | .ref a => .ref (ad a)
  | v => v
noncomputable def ix_a (ad : Nat → Nat) : vp_A → vp_A
  | (n, .inr (.inr (.inr (.inr f)))) => (n, .inr (.inr (.inr (.inr (fun j => (f j).map ad)))))
  | x => x
noncomputable def ix_e (aC : Nat → ClassId) (ad : Nat → Nat) : ix_C → va_E
  | .inl (t, x) => .inl (aC t, ix_a ad x)
  | .inr (c, fs) => .inr (c, fs.map (ix_v ad))
noncomputable def ix_ws (aC : Nat → ClassId) (ad : Nat → Nat) (base n : Nat) (h : Nat → ix_C) : va_W := (List.range n).map (fun i => (base + i, ix_e aC ad (h i)))
theorem ix_ws_get {aC : Nat → ClassId} {ad : Nat → Nat} {base n : Nat} {h : Nat → ix_C} {i : Nat} (hi : i < n) : (ix_ws aC ad base n h)[i]? = some (base + i, ix_e aC ad (h i)) := by
  simp [ix_ws, hi]
theorem ix_ws_len {aC : Nat → ClassId} {ad : Nat → Nat} {base n : Nat} {h : Nat → ix_C} : (ix_ws aC ad base n h).length = n := by
  simp [ix_ws]
theorem ix_ws_set {aC : Nat → ClassId} {ad : Nat → Nat} {base n : Nat} {h : Nat → ix_C} {i : Nat} (c : ix_C) : (ix_ws aC ad base n h).set i (base + i, ix_e aC ad c) = ix_ws aC ad base n (ix_up h i c) := by
  apply List.ext_getElem?
  intro k
  by_cases hk : k < n
  · by_cases hki : k = i
    · subst hki
      rw [List.getElem?_set_self (by rw [ix_ws_len]; exact hk), ix_ws_get hk, ix_up_self]
    · rw [List.getElem?_set_ne (fun e => hki e.symm), ix_ws_get hk, ix_ws_get hk, ix_up_ne _ _ hki]
  · have h1 : ((ix_ws aC ad base n h).set i (base + i, ix_e aC ad c)).length ≤ k := by rw [List.length_set, ix_ws_len]; omega
    have h2 : (ix_ws aC ad base n (ix_up h i c)).length ≤ k := by rw [ix_ws_len]; omega
    rw [List.getElem?_eq_none h1, List.getElem?_eq_none h2]
theorem ix_ws_push {aC : Nat → ClassId} {ad : Nat → Nat} {base n : Nat} {h : Nat → ix_C} (c : ix_C) : ix_ws aC ad base n h ++ [(base + n, ix_e aC ad c)] = ix_ws aC ad base (n + 1) (ix_up h n c) := by
  apply List.ext_getElem?
  intro k
  by_cases hk : k < n
  · rw [List.getElem?_append_left (by rw [ix_ws_len]; exact hk), ix_ws_get hk, ix_ws_get (by omega), ix_up_ne _ _ (by omega)]
  · by_cases hkn : k = n
    · subst hkn
      rw [List.getElem?_append_right (by rw [ix_ws_len]; omega), ix_ws_get (by omega), ix_up_self, ix_ws_len, Nat.sub_self]
      rfl
    · have h1 : (ix_ws aC ad base n h ++ [(base + n, ix_e aC ad c)]).length ≤ k := by simp [ix_ws_len]; omega
      have h2 : (ix_ws aC ad base (n + 1) (ix_up h n c)).length ≤ k := by rw [ix_ws_len]; omega
      rw [List.getElem?_eq_none h1, List.getElem?_eq_none h2]
/-- where an abstract reference lies -/
noncomputable def ix_ad (base : Nat) (cst : Nat → Nat) (a : Nat) : Nat := if a < 1000000 then base + a else cst (a - 1000000)
theorem ix_ad_lt {base : Nat} {cst : Nat → Nat} {a : Nat} (h : a < 1000000) : ix_ad base cst a = base + a := by simp [ix_ad, h]
theorem ix_v_cat (ad : Nat → Nat) (v : Value) : (ix_v ad v).category = v.category := by cases v <;> rfl
theorem ix_v_cats (ad : Nat → Nat) (st : List Value) : ((st.map (ix_v ad)).map fun v => v.category).sum = (st.map fun v => v.category).sum := by
  rw [List.map_map]
  congr 1
  apply List.map_congr_left
  intro v _
  exact ix_v_cat ad v
theorem ix_v_narrow {ad : Nat → Nat} {ty : FieldType} {v : Value} (h : narrow ty v = v) : narrow ty (ix_v ad v) = ix_v ad v := by
  cases v with
  | ref a => cases ty <;> rfl
  | _ => exact h
theorem ix_v_fits {ad : Nat → Nat} {ty : FieldType} {v : Value} (h : fits ty v = true) : fits ty (ix_v ad v) = true := by
  cases v with
  | ref a => cases ty <;> first | exact h | rfl | (simp [fits] at h)
  | _ => exact h
/-- the locals, as the machine has them -/
noncomputable def ix_l (ad : Nat → Nat) (ls : ix_L) : List (Nat × Value) := ls.map (fun q => (q.1, ix_v ad q.2))
noncomputable def ix_ld (ls : ix_L) (i : Nat) : Option Value := match ls with
  | [] => none
  | q :: r => bif Nat.beq q.1 i then some q.2 else ix_ld r i
theorem ix_ld_mem : ∀ {ls : ix_L} {i : Nat} {v : Value}, ix_ld ls i = some v → (i, v) ∈ ls
  | [], _, _, h => by simp [ix_ld] at h
  | q :: r, i, v, h => by
    unfold ix_ld at h
    cases hb : Nat.beq q.1 i with
    | true =>
      rw [hb] at h
      have e : q.1 = i := Nat.eq_of_beq_eq_true hb
      have e2 : q.2 = v := Option.some.inj h
      rw [← e, ← e2]
      exact List.mem_cons_self
    | false =>
      rw [hb] at h
      exact List.mem_cons_of_mem _ (ix_ld_mem h)
theorem ix_ld_has {ad : Nat → Nat} {arr : Array Slot} {nL : Nat} {ls : ix_L} {i : Nat} {v : Value} (hl : lv_has arr nL (ix_l ad ls)) (h : ix_ld ls i = some v) : arr[i]? = some (.val (ix_v ad v)) :=
  hl.2.2 (i, ix_v ad v) (List.mem_map.mpr ⟨(i, v), ix_ld_mem h, rfl⟩)
noncomputable def ix_st1 (ls : ix_L) (i : Nat) (v : Value) : ix_L := (i, v) :: ls.filter (fun q => !(q.1 == i) && !(q.1 + 1 == i && q.2.category == 2))
noncomputable def ix_st2 (ls : ix_L) (i : Nat) (v : Value) : ix_L := (i, v) :: ls.filter (fun q => !(q.1 == i) && (!(q.1 == i + 1) && !(q.1 + 1 == i && q.2.category == 2)))
theorem ix_l_st1 (ad : Nat → Nat) (ls : ix_L) (i : Nat) (v : Value) : (i, ix_v ad v) :: (ix_l ad ls).filter (fun q => !(q.1 == i) && !(q.1 + 1 == i && q.2.category == 2)) = ix_l ad (ix_st1 ls i v) := by
  unfold ix_l ix_st1
  rw [List.map_cons, List.filter_map]
  congr 2
  apply List.filter_congr
  intro q _
  simp only [Function.comp, ix_v_cat]
theorem ix_l_st2 (ad : Nat → Nat) (ls : ix_L) (i : Nat) (v : Value) : (i, ix_v ad v) :: (ix_l ad ls).filter (fun q => !(q.1 == i) && (!(q.1 == i + 1) && !(q.1 + 1 == i && q.2.category == 2))) = ix_l ad (ix_st2 ls i v) := by
  unfold ix_l ix_st2
  rw [List.map_cons, List.filter_map]
  congr 2
  apply List.filter_congr
  intro q _
  simp only [Function.comp, ix_v_cat]
noncomputable def ix_tg (pc : Nat) (off : Int) : Option Nat := match (pc : Int) + off with
  | .ofNat t => some t
  | .negSucc _ => none
theorem ix_tg_ok {pc : Nat} {off : Int} {t : Nat} (h : ix_tg pc off = some t) : (pc : Int) + off = (t : Int) := by
  unfold ix_tg at h
  cases hz : (pc : Int) + off with
  | ofNat u => rw [hz] at h; cases h; rfl
  | negSucc u => rw [hz] at h; cases h
/-- lengths of the instructions; 0: the switches, whose lengths are told by the bytes -/
noncomputable def ix_len : Instr → Nat
  | .aload _ | .astore _ | .iload _ | .istore _ | .lload _ | .lstore _ | .bipush _ | .ldc _ | .newarray _ => 2
  | .sipush _ | .ldc_w _ | .ldc2_w _ | .iinc _ _ | .goto _ | .if_icmp _ _ | .ifCond _ _ | .if_acmp _ _ | .ifnull _ | .ifnonnull _ | .getfield _ | .putfield _ | .getstatic _ | .new _ | .anewarray _ | .invokevirtual _ | .invokespecial _ | .invokestatic _ => 3
  | .tableswitch _ _ _ _ | .lookupswitch _ _ => 0
  | _ => 1
/-- instructions that work on the operand stack alone -/
noncomputable def ix_alu : Instr → List Value → Option (List Value)
  | .aconst_null, st => some (.null :: st)
  | .iconst n, st => some (.int (Int32.ofInt n) :: st)
  | .bipush n, st => some (.int (Int8.ofInt n).toInt32 :: st)
  | .sipush n, st => some (.int (Int16.ofInt n).toInt32 :: st)
  | .lconst n, st => some (.long (Int64.ofNat (n : Nat)) :: st)
  | .iadd, .int y :: .int x :: st => some (.int (x + y) :: st)
  | .isub, .int y :: .int x :: st => some (.int (x - y) :: st)
  | .imul, .int y :: .int x :: st => some (.int (x * y) :: st)
  | .iand, .int y :: .int x :: st => some (.int (x &&& y) :: st)
  | .ior, .int y :: .int x :: st => some (.int (x ||| y) :: st)
  | .ixor, .int y :: .int x :: st => some (.int (x ^^^ y) :: st)
  | .idiv, .int y :: .int x :: st => if y = 0 then none else some (.int (x / y) :: st)
  | .irem, .int y :: .int x :: st => if y = 0 then none else some (.int (x - x / y * y) :: st)
  | .ineg, .int x :: st => some (.int (-x) :: st)
  | .ishl, .int y :: .int x :: st => some (.int (x <<< (y &&& 31)) :: st)
  | .ishr, .int y :: .int x :: st => some (.int (x >>> (y &&& 31)) :: st)
  | .iushr, .int y :: .int x :: st => some (.int (x.toUInt32 >>> (y.toUInt32 &&& Int32.toUInt32 31)).toInt32 :: st)
  | .ladd, .long y :: .long x :: st => some (.long (x + y) :: st)
  | .lsub, .long y :: .long x :: st => some (.long (x - y) :: st)
  | .lmul, .long y :: .long x :: st => some (.long (x * y) :: st)
  | .land, .long y :: .long x :: st => some (.long (x &&& y) :: st)
  | .lor, .long y :: .long x :: st => some (.long (x ||| y) :: st)
  | .lxor, .long y :: .long x :: st => some (.long (x ^^^ y) :: st)
  | .ldiv, .long y :: .long x :: st => if y = 0 then none else some (.long (x / y) :: st)
  | .lrem, .long y :: .long x :: st => if y = 0 then none else some (.long (x - x / y * y) :: st)
  | .lneg, .long x :: st => some (.long (-x) :: st)
  | .lshl, .int y :: .long x :: st => some (.long (x <<< (y.toInt64 &&& 63)) :: st)
  | .lshr, .int y :: .long x :: st => some (.long (x >>> (y.toInt64 &&& 63)) :: st)
  | .lushr, .int y :: .long x :: st => some (.long (x.toUInt64 >>> (y.toInt64.toUInt64 &&& Int64.toUInt64 63)).toInt64 :: st)
  | .lcmp, .long y :: .long x :: st => some (.int (lg_cmp x y) :: st)
  | .i2l, .int x :: st => some (.long x.toInt64 :: st)
  | .l2i, .long x :: st => some (.int x.toInt32 :: st)
  | .i2b, .int x :: st => some (.int x.toInt8.toInt32 :: st)
  | .i2s, .int x :: st => some (.int x.toInt16.toInt32 :: st)
  | .i2c, .int x :: st => some (.int (x.toUInt32 % 65536).toInt32 :: st)
  | .dup, a :: st => if a.category = 1 then some (a :: a :: st) else none
  | .pop, a :: st => if a.category = 1 then some st else none
  | .dup_x1, a :: b :: st => if a.category = 1 ∧ b.category = 1 then some (a :: b :: a :: st) else none
  | .dup_x2, a :: b :: d :: st => if a.category = 1 ∧ b.category = 1 ∧ d.category = 1 then some (a :: b :: d :: a :: st) else none
  | .dup2, a :: b :: st => if a.category = 1 ∧ b.category = 1 then some (a :: b :: a :: b :: st) else none
  | .dup2_x1, a :: b :: st => if a.category = 2 ∧ b.category = 1 then some (a :: b :: a :: st) else none
  | .dup2_x2, a :: b :: d :: st => if a.category = 2 ∧ b.category = 1 ∧ d.category = 1 then some (a :: b :: d :: a :: st) else none
  | .pop2, a :: st => if a.category = 2 then some st else none
  | _, _ => none
/-- instructions that work on the locals -/
noncomputable def ix_loc : Instr → Nat → ix_L → List Value → Option (ix_L × List Value)
  | .iload_n k, _, ls, st => match ix_ld ls (k : Nat) with
    | some (.int x) => some (ls, .int x :: st)
    | _ => none
  | .iload i, _, ls, st => match ix_ld ls i with
    | some (.int x) => some (ls, .int x :: st)
    | _ => none
  | .lload_n k, _, ls, st => match ix_ld ls (k : Nat) with
    | some (.long x) => some (ls, .long x :: st)
    | _ => none
  | .lload i, _, ls, st => match ix_ld ls i with
    | some (.long x) => some (ls, .long x :: st)
    | _ => none
  | .aload_n k, _, ls, st => match ix_ld ls (k : Nat) with
    | some (.ref x) => some (ls, .ref x :: st)
    | _ => none
  | .aload i, _, ls, st => match ix_ld ls i with
    | some (.ref x) => some (ls, .ref x :: st)
    | _ => none
  | .istore_n k, nL, ls, .int x :: st => if (k : Nat) < nL then some (ix_st1 ls (k : Nat) (.int x), st) else none
  | .istore i, nL, ls, .int x :: st => if i < nL then some (ix_st1 ls i (.int x), st) else none
  | .lstore_n k, nL, ls, .long x :: st => if (k : Nat) + 1 < nL then some (ix_st2 ls (k : Nat) (.long x), st) else none
  | .lstore i, nL, ls, .long x :: st => if i + 1 < nL then some (ix_st2 ls i (.long x), st) else none
  | .astore_n k, nL, ls, .ref x :: st => if (k : Nat) < nL then some (ix_st1 ls (k : Nat) (.ref x), st) else none
  | .astore i, nL, ls, .ref x :: st => if i < nL then some (ix_st1 ls i (.ref x), st) else none
  | .iinc i n, nL, ls, st => match ix_ld ls i with
    | some (.int x) => if i < nL then some (ix_st1 ls i (.int (x + Int32.ofInt n)), st) else none
    | _ => none
  | _, _, _, _ => none
noncomputable def ix_cb : Jvm.ClassFile.Cond → Int32 → Int32 → Bool
  | .eq, x, y => decide (x = y)
  | .ne, x, y => decide (¬ x = y)
  | .lt, x, y => decide (x < y)
  | .ge, x, y => decide (y ≤ x)
  | .gt, x, y => decide (y < x)
  | .le, x, y => decide (x ≤ y)
/-- instructions that go elsewhere: the new place -/
noncomputable def ix_br : Instr → Nat → List Value → Option (Nat × List Value)
  | .goto off, pc, st => match ix_tg pc off with
    | some t => some (t, st)
    | none => none
  | .ifCond cd off, pc, .int x :: st => match ix_tg pc off with
    | some t => bif ix_cb cd x 0 then some (t, st) else some (pc + 3, st)
    | none => none
  | .if_icmp cd off, pc, .int y :: .int x :: st => match ix_tg pc off with
    | some t => bif ix_cb cd x y then some (t, st) else some (pc + 3, st)
    | none => none
  | .if_acmp .ne off, pc, .ref y :: .ref x :: st => match ix_tg pc off with
    | some t => if x < 1000000 ∧ y < 1000000 then (bif Nat.beq x y then some (pc + 3, st) else some (t, st)) else none
    | none => none
  | .tableswitch dflt lo hi offs, pc, .int x :: st => if x.toInt < lo ∨ hi < x.toInt then (match ix_tg pc dflt with
    | some t => some (t, st)
    | none => none) else (match offs[(x.toInt - lo).toNat]? with
    | some off => (match ix_tg pc off with
      | some t => some (t, st)
      | none => none)
    | none => none)
  | .lookupswitch dflt ps, pc, .int x :: st => if (ps.toList.zip (ps.toList.drop 1)).all (fun (a, next) => a.1 < next.1) = true then (match ix_tg pc (Op.lookupswitch.offset ps.toList dflt x.toInt) with
    | some t => some (t, st)
    | none => none) else none
  | _, _, _ => none
noncomputable def ix_obj (hp : ix_H) (a : Nat) : Option (Nat × List Value) := bif Nat.blt a hp.1 then (match hp.2.2 a with
  | .inr x => some x
  | .inl _ => none) else none
noncomputable def ix_arr (hp : ix_H) (a : Nat) : Option (Nat × vp_A) := bif Nat.blt a hp.1 then (match hp.2.2 a with
  | .inl x => some x
  | .inr _ => none) else none
theorem ix_obj_ok {hp : ix_H} {a : Nat} {x : Nat × List Value} (h : ix_obj hp a = some x) : a < hp.1 ∧ hp.2.2 a = .inr x := by
  unfold ix_obj at h
  cases hb : Nat.blt a hp.1 with
  | false => rw [hb] at h; cases h
  | true =>
    rw [hb] at h
    refine ⟨Nat.blt_eq.mp hb, ?_⟩
    simp only [cond_true] at h
    split at h
    · rename_i y hy
      cases h
      exact hy
    · cases h
theorem ix_arr_ok {hp : ix_H} {a : Nat} {x : Nat × vp_A} (h : ix_arr hp a = some x) : a < hp.1 ∧ hp.2.2 a = .inl x := by
  unfold ix_arr at h
  cases hb : Nat.blt a hp.1 with
  | false => rw [hb] at h; cases h
  | true =>
    rw [hb] at h
    refine ⟨Nat.blt_eq.mp hb, ?_⟩
    simp only [cond_true] at h
    split at h
    · rename_i y hy
      cases h
      exact hy
    · cases h
/-- another content of a cell -/
noncomputable def ix_put (hp : ix_H) (a : Nat) (c : ix_C) : ix_H := (hp.1, hp.2.1, ix_up hp.2.2 a c)
/-- one cell more, of so many slots -/
noncomputable def ix_new (hp : ix_H) (z : Nat) (c : ix_C) : ix_H := (hp.1 + 1, hp.2.1 + z, ix_up hp.2.2 hp.1 c)
noncomputable def ix_zero : Nat → Nat → Option (Nat × vp_A)
  | 0, n => some (0, n, .inl (fun _ => 0))
  | 1, n => some (1, n, .inr (.inl (fun _ => 0)))
  | 2, n => some (2, n, .inl (fun _ => 0))
  | _, _ => none
noncomputable def ix_aty : ArrayType → Nat
  | .int => 0
  | .long => 1
  | .boolean => 2
  | _ => 9
/-- instructions on cells; oc: the number of the method's own class, ini: whether the method is a constructor -/
noncomputable def ix_hp (T : ix_T) (oc : Nat) (ini : Bool) : Instr → List Value → ix_H → Option (List Value × ix_H)
  | .getfield idx, .ref a :: st, hp => match ix_tF T oc idx, ix_obj hp a with
    | some (ci, j), some (c, fs) => if c = ci then (match fs[j]? with
      | some v => some (v :: st, hp)
      | none => none) else none
    | _, _ => match ix_tG T oc idx, ix_cno T a with
      | some true, some b => some (.ref (1000000 + b) :: st, hp)
      | some false, some _ => some (.int 0 :: st, hp)
      | _, _ => none
  | .putfield idx, v :: .ref a :: st, hp => match ix_tF T oc idx, ix_obj hp a with
    | some (ci, j), some (c, fs) => if c = ci ∧ j < fs.length ∧ narrow ((ix_tD T ci).2 j).1 v = v ∧ fits ((ix_tD T ci).2 j).1 v = true ∧ (((ix_tD T ci).2 j).2 = false ∨ (ini = true ∧ ci = oc)) then some (st, ix_put hp a (.inr (c, fs.set j v))) else none
    | _, _ => none
  | .arraylength, .ref a :: st, hp => match ix_arr hp a with
    | some (t, n, x) => if t < 3 ∨ (ix_tE T t).isSome = true then some (.int (Int32.ofNat n) :: st, hp) else none
    | none => match ix_cns T a with
      | some (n, _) => some (.int (Int32.ofNat n) :: st, hp)
      | none => match ix_cnb T a with
        | some (n, _) => some (.int (Int32.ofNat n) :: st, hp)
        | none => none
  | .iaload, .int i :: .ref a :: st, hp => match ix_arr hp a with
    | some (0, n, .inl f) => if i < 0 ∨ n ≤ i.toNatClampNeg then none else some (.int (f i.toNatClampNeg) :: st, hp)
    | some _ => none
    | none => match ix_cns T a with
      | some (n, f) => if i < 0 ∨ n ≤ i.toNatClampNeg then none else some (.int (f i.toNatClampNeg) :: st, hp)
      | none => none
  | .getstatic idx, st, hp => match ix_tS T oc idx with
    | some v => some (v :: st, hp)
    | none => none
  | .laload, .int i :: .ref a :: st, hp => match ix_arr hp a with
    | some (1, n, .inr (.inl f)) => if i < 0 ∨ n ≤ i.toNatClampNeg then none else some (.long (f i.toNatClampNeg) :: st, hp)
    | _ => none
  | .baload, .int i :: .ref a :: st, hp => match ix_arr hp a with
    | some (2, n, .inl f) => if i < 0 ∨ n ≤ i.toNatClampNeg then none else some (.int (f i.toNatClampNeg) :: st, hp)
    | some _ => none
    | none => match ix_cnb T a with
      | some (n, f) => if i < 0 ∨ n ≤ i.toNatClampNeg then none else some (.int (f i.toNatClampNeg) :: st, hp)
      | none => none
  | .aaload, .int i :: .ref a :: st, hp => match ix_arr hp a with
    | some (t, n, .inr (.inr (.inr (.inr f)))) => if (ix_tE T t).isSome = true ∧ ¬ (i < 0 ∨ n ≤ i.toNatClampNeg) then some (va_rf (f i.toNatClampNeg) :: st, hp) else none
    | _ => none
  | .iastore, .int x :: .int i :: .ref a :: st, hp => match ix_arr hp a with
    | some (0, n, .inl f) => if i < 0 ∨ n ≤ i.toNatClampNeg then none else some (st, ix_put hp a (.inl (0, n, .inl (upd f i.toNatClampNeg x))))
    | _ => none
  | .lastore, .long x :: .int i :: .ref a :: st, hp => match ix_arr hp a with
    | some (1, n, .inr (.inl f)) => if i < 0 ∨ n ≤ i.toNatClampNeg then none else some (st, ix_put hp a (.inl (1, n, .inr (.inl (vp_updL f i.toNatClampNeg x)))))
    | _ => none
  | .bastore, .int x :: .int i :: .ref a :: st, hp => match ix_arr hp a with
    | some (2, n, .inl f) => if i < 0 ∨ n ≤ i.toNatClampNeg then none else some (st, ix_put hp a (.inl (2, n, .inl (upd f i.toNatClampNeg (vp_nar .boolean x)))))
    | _ => none
  | .aastore, .ref v :: .int i :: .ref a :: st, hp => match ix_arr hp a, ix_obj hp v with
    | some (t, n, .inr (.inr (.inr (.inr f)))), some (c, _) => if ix_tE T t = some c ∧ ¬ (i < 0 ∨ n ≤ i.toNatClampNeg) then some (st, ix_put hp a (.inl (t, n, .inr (.inr (.inr (.inr (va_up f i.toNatClampNeg (some v)))))))) else none
    | _, _ => none
  | .new idx, st, hp => match ix_tC T oc idx with
    | some (ci, _) => if hp.1 < 1000000 then some (.ref hp.1 :: st, ix_new hp (ix_tD T ci).1 (.inr (ci, (List.range (ix_tD T ci).1).map (fun j => defaultValue ((ix_tD T ci).2 j).1)))) else none
    | _ => none
  | .newarray aty, .int n :: st, hp => match ix_zero (ix_aty aty) n.toNatClampNeg with
    | some x => if ¬ n < 0 ∧ n.toNatClampNeg ≤ 1000000 ∧ hp.1 < 1000000 then some (.ref hp.1 :: st, ix_new hp n.toNatClampNeg (.inl x)) else none
    | none => none
  | .anewarray idx, .int n :: st, hp => match ix_tC T oc idx with
    | some (_, t) => if ¬ n < 0 ∧ n.toNatClampNeg ≤ 1000000 ∧ hp.1 < 1000000 ∧ ¬ t = 0 then some (.ref hp.1 :: st, ix_new hp n.toNatClampNeg (.inl (t, n.toNatClampNeg, .inr (.inr (.inr (.inr (fun _ => none))))))) else none
    | _ => none
  | .ldc idx, st, hp => match ix_tK T oc idx with
    | some (.int v) => some (.int v :: st, hp)
    | some (.ref a) => some (.ref a :: st, hp)
    | _ => none
  | .ldc_w idx, st, hp => match ix_tK T oc idx with
    | some (.int v) => some (.int v :: st, hp)
    | _ => none
  | .ldc2_w idx, st, hp => match ix_tK T oc idx with
    | some (.long v) => some (.long v :: st, hp)
    | _ => none
  | _, _, _ => none
noncomputable def ix_cats (st : List Value) : Nat := (st.map fun v => v.category).sum
end
