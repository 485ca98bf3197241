section
theorem ix_v_narrow {ad : Nat → Nat} {ty : FieldType} {v : Value} (h : narrow ty v = v) : narrow ty (ix_v ad v) = ix_v ad v := by
  cases v with
  | ref a => cases ty <;> rfl
  | _ => exact h
theorem ix_v_fits {ad : Nat → Nat} {ty : FieldType} {v : Value} (h : fits ty v = true) : fits ty (ix_v ad v) = true := by
  cases v with
  | ref a => cases ty <;> first | exact h | rfl | (simp [fits] at h)
  | _ => exact h
/-- the locals, as the machine has them -/
noncomputable def ix_l (ad : Nat → Nat) (ls : ix_L) : List (Nat × Value) := ls.map (fun q => (q.1, ix_v ad q.2))
noncomputable def ix_ld (ls : ix_L) (i : Nat) : Option Value := match ls with
  | [] => none
  | q :: r => bif Nat.beq q.1 i then some q.2 else ix_ld r i
theorem ix_ld_mem : ∀ {ls : ix_L} {i : Nat} {v : Value}, ix_ld ls i = some v → (i, v) ∈ ls
  | [], _, _, h => by simp [ix_ld] at h
  | q :: r, i, v, h => by
    unfold ix_ld at h
    cases hb : Nat.beq q.1 i with
    | true =>
      rw [hb] at h
      have e : q.1 = i := Nat.eq_of_beq_eq_true hb
      have e2 : q.2 = v := Option.some.inj h
      rw [← e, ← e2]
      exact List.mem_cons_self
    | false =>
      rw [hb] at h
      exact List.mem_cons_of_mem _ (ix_ld_mem h)
theorem ix_ld_has {ad : Nat → Nat} {arr : Array Slot} {nL : Nat} {ls : ix_L} {i : Nat} {v : Value} (hl : lv_has arr nL (ix_l ad ls)) (h : ix_ld ls i = some v) : arr[i]? = some (.val (ix_v ad v)) :=
  hl.2.2 (i, ix_v ad v) (List.mem_map.mpr ⟨(i, v), ix_ld_mem h, rfl⟩)
noncomputable def ix_st1 (ls : ix_L) (i : Nat) (v : Value) : ix_L := (i, v) :: ls.filter (fun q => !(q.1 == i) && !(q.1 + 1 == i && q.2.category == 2))
noncomputable def ix_st2 (ls : ix_L) (i : Nat) (v : Value) : ix_L := (i, v) :: ls.filter (fun q => !(q.1 == i) && (!(q.1 == i + 1) && !(q.1 + 1 == i && q.2.category == 2)))
theorem ix_l_st1 (ad : Nat → Nat) (ls : ix_L) (i : Nat) (v : Value) : (i, ix_v ad v) :: (ix_l ad ls).filter (fun q => !(q.1 == i) && !(q.1 + 1 == i && q.2.category == 2)) = ix_l ad (ix_st1 ls i v) := by
  unfold ix_l ix_st1
  rw [List.map_cons, List.filter_map]
  congr 2
  apply List.filter_congr
  intro q _
  simp only [Function.comp, ix_v_cat]
theorem ix_l_st2 (ad : Nat → Nat) (ls : ix_L) (i : Nat) (v : Value) : (i, ix_v ad v) :: (ix_l ad ls).filter (fun q => !(q.1 == i) && (!(q.1 == i + 1) && !(q.1 + 1 == i && q.2.category == 2))) = ix_l ad (ix_st2 ls i v) := by
  unfold ix_l ix_st2
  rw [List.map_cons, List.filter_map]
  congr 2
  apply List.filter_congr
  intro q _
  simp only [Function.comp, ix_v_cat]
noncomputable def ix_tg (pc : Nat) (off : Int) : Option Nat := match (pc : Int) + off with
  | .ofNat t => some t
  | .negSucc _ => none
theorem ix_tg_ok {pc : Nat} {off : Int} {t : Nat} (h : ix_tg pc off = some t) : (pc : Int) + off = (t : Int) := by
  unfold ix_tg at h
  cases hz : (pc : Int) + off with
  | ofNat u => rw [hz] at h; cases h; rfl
  | negSucc u => rw [hz] at h; cases h
/-- lengths of the instructions; 0: the switches, whose lengths are told by the bytes -/
noncomputable def ix_len : Instr → Nat
  | .aload _ | .astore _ | .iload _ | .istore _ | .lload _ | .lstore _ | .bipush _ | .ldc _ | .newarray _ => 2
  | .sipush _ | .ldc_w _ | .ldc2_w _ | .iinc _ _ | .goto _ | .if_icmp _ _ | .ifCond _ _ | .if_acmp _ _ | .ifnull _ | .ifnonnull _ | .getfield _ | .putfield _ | .getstatic _ | .new _ | .anewarray _ | .invokevirtual _ | .invokespecial _ | .invokestatic _ => 3
  | .tableswitch _ _ _ _ | .lookupswitch _ _ => 0
  | _ => 1
/-- instructions that work on the operand stack alone -/
noncomputable def ix_alu : Instr → List Value → Option (List Value)
  | .aconst_null, st => some (.null :: st)
  | .iconst n, st => some (.int (Int32.ofInt n) :: st)
  | .bipush n, st => some (.int (Int8.ofInt n).toInt32 :: st)
  | .sipush n, st => some (.int (Int16.ofInt n).toInt32 :: st)
  | .lconst n, st => some (.long (Int64.ofNat (n : Nat)) :: st)
  | .iadd, .int y :: .int x :: st => some (.int (x + y) :: st)
  | .isub, .int y :: .int x :: st => some (.int (x - y) :: st)
  | .imul, .int y :: .int x :: st => some (.int (x * y) :: st)
  | .iand, .int y :: .int x :: st => some (.int (x &&& y) :: st)
  | .ior, .int y :: .int x :: st => some (.int (x ||| y) :: st)
  | .ixor, .int y :: .int x :: st => some (.int (x ^^^ y) :: st)
  | .idiv, .int y :: .int x :: st => if y = 0 then none else some (.int (x / y) :: st)
  | .irem, .int y :: .int x :: st => if y = 0 then none else some (.int (x - x / y * y) :: st)
  | .ineg, .int x :: st => some (.int (-x) :: st)
  | .ishl, .int y :: .int x :: st => some (.int (x <<< (y &&& 31)) :: st)
  | .ishr, .int y :: .int x :: st => some (.int (x >>> (y &&& 31)) :: st)
  | .iushr, .int y :: .int x :: st => some (.int (x.toUInt32 >>> (y.toUInt32 &&& Int32.toUInt32 31)).toInt32 :: st)
  | .ladd, .long y :: .long x :: st => some (.long (x + y) :: st)
  | .lsub, .long y :: .long x :: st => some (.long (x - y) :: st)
  | .lmul, .long y :: .long x :: st => some (.long (x * y) :: st)
  | .land, .long y :: .long x :: st => some (.long (x &&& y) :: st)
  | .lor, .long y :: .long x :: st => some (.long (x ||| y) :: st)
  | .lxor, .long y :: .long x :: st => some (.long (x ^^^ y) :: st)
  | .ldiv, .long y :: .long x :: st => if y = 0 then none else some (.long (x / y) :: st)
  | .lrem, .long y :: .long x :: st => if y = 0 then none else some (.long (x - x / y * y) :: st)
  | .lneg, .long x :: st => some (.long (-x) :: st)
  | .lshl, .int y :: .long x :: st => some (.long (x <<< (y.toInt64 &&& 63)) :: st)
  | .lshr, .int y :: .long x :: st => some (.long (x >>> (y.toInt64 &&& 63)) :: st)
  | .lushr, .int y :: .long x :: st => some (.long (x.toUInt64 >>> (y.toInt64.toUInt64 &&& Int64.toUInt64 63)).toInt64 :: st)
  | .lcmp, .long y :: .long x :: st => some (.int (lg_cmp x y) :: st)
  | .i2l, .int x :: st => some (.long x.toInt64 :: st)
  | .l2i, .long x :: st => some (.int x.toInt32 :: st)
  | .i2b, .int x :: st => some (.int x.toInt8.toInt32 :: st)
  | .i2s, .int x :: st => some (.int x.toInt16.toInt32 :: st)
  | .i2c, .int x :: st => some (.int (x.toUInt32 % 65536).toInt32 :: st)
  | .dup, a :: st => if a.category = 1 then some (a :: a :: st) else none
  | .pop, a :: st => if a.category = 1 then some st else none
  | .dup_x1, a :: b :: st => if a.category = 1 ∧ b.category = 1 then some (a :: b :: a :: st) else none
  | .dup_x2, a :: b :: d :: st => if a.category = 1 ∧ b.category = 1 ∧ d.category = 1 then some (a :: b :: d :: a :: st) else none
  | .dup2, a :: b :: st => if a.category = 1 ∧ b.category = 1 then some (a :: b :: a :: b :: st) else none
  | .dup2_x1, a :: b :: st => if a.category = 2 ∧ b.category = 1 then some (a :: b :: a :: st) else none
  | .dup2_x2, a :: b :: d :: st => if a.category = 2 ∧ b.category = 1 ∧ d.category = 1 then some (a :: b :: d :: a :: st) else none
  | .pop2, a :: st => if a.category = 2 then some st else none
  | _, _ => none
end
