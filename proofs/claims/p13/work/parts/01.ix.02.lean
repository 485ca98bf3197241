section
/-- instructions that work on the locals -/
noncomputable def ix_loc : Instr → Nat → ix_L → List Value → Option (ix_L × List Value)
  | .iload_n k, _, ls, st => match ix_ld ls (k : Nat) with
    | some (.int x) => some (ls, .int x :: st)
    | _ => none
  | .iload i, _, ls, st => match ix_ld ls i with
    | some (.int x) => some (ls, .int x :: st)
    | _ => none
  | .lload_n k, _, ls, st => match ix_ld ls (k : Nat) with
    | some (.long x) => some (ls, .long x :: st)
    | _ => none
  | .lload i, _, ls, st => match ix_ld ls i with
    | some (.long x) => some (ls, .long x :: st)
    | _ => none
  | .aload_n k, _, ls, st => match ix_ld ls (k : Nat) with
    | some (.ref x) => some (ls, .ref x :: st)
    | _ => none
  | .aload i, _, ls, st => match ix_ld ls i with
    | some (.ref x) => some (ls, .ref x :: st)
    | _ => none
  | .istore_n k, nL, ls, .int x :: st => if (k : Nat) < nL then some (ix_st1 ls (k : Nat) (.int x), st) else none
  | .istore i, nL, ls, .int x :: st => if i < nL then some (ix_st1 ls i (.int x), st) else none
  | .lstore_n k, nL, ls, .long x :: st => if (k : Nat) + 1 < nL then some (ix_st2 ls (k : Nat) (.long x), st) else none
  | .lstore i, nL, ls, .long x :: st => if i + 1 < nL then some (ix_st2 ls i (.long x), st) else none
  | .astore_n k, nL, ls, .ref x :: st => if (k : Nat) < nL then some (ix_st1 ls (k : Nat) (.ref x), st) else none
  | .astore i, nL, ls, .ref x :: st => if i < nL then some (ix_st1 ls i (.ref x), st) else none
  | .iinc i n, nL, ls, st => match ix_ld ls i with
    | some (.int x) => if i < nL then some (ix_st1 ls i (.int (x + Int32.ofInt n)), st) else none
    | _ => none
  | _, _, _, _ => none
noncomputable def ix_cb : Jvm.ClassFile.Cond → Int32 → Int32 → Bool
  | .eq, x, y => decide (x = y)
  | .ne, x, y => decide (¬ x = y)
  | .lt, x, y => decide (x < y)
  | .ge, x, y => decide (y ≤ x)
  | .gt, x, y => decide (y < x)
  | .le, x, y => decide (x ≤ y)
/-- instructions that go elsewhere: the new place -/
noncomputable def ix_br : Instr → Nat → List Value → Option (Nat × List Value)
  | .goto off, pc, st => match ix_tg pc off with
    | some t => some (t, st)
    | none => none
  | .ifCond cd off, pc, .int x :: st => match ix_tg pc off with
    | some t => bif ix_cb cd x 0 then some (t, st) else some (pc + 3, st)
    | none => none
  | .if_icmp cd off, pc, .int y :: .int x :: st => match ix_tg pc off with
    | some t => bif ix_cb cd x y then some (t, st) else some (pc + 3, st)
    | none => none
  | .if_acmp .ne off, pc, .ref y :: .ref x :: st => match ix_tg pc off with
    | some t => if x < 1000000 ∧ y < 1000000 then (bif Nat.beq x y then some (pc + 3, st) else some (t, st)) else none
    | none => none
  | .tableswitch dflt lo hi offs, pc, .int x :: st => if x.toInt < lo ∨ hi < x.toInt then (match ix_tg pc dflt with
    | some t => some (t, st)
    | none => none) else (match offs[(x.toInt - lo).toNat]? with
    | some off => (match ix_tg pc off with
      | some t => some (t, st)
      | none => none)
    | none => none)
  | .lookupswitch dflt ps, pc, .int x :: st => if (ps.toList.zip (ps.toList.drop 1)).all (fun (a, next) => a.1 < next.1) = true then (match ix_tg pc (Op.lookupswitch.offset ps.toList dflt x.toInt) with
    | some t => some (t, st)
    | none => none) else none
  | _, _, _ => none
noncomputable def ix_obj (hp : ix_H) (a : Nat) : Option (Nat × List Value) := bif Nat.blt a hp.1 then (match hp.2.2 a with
  | .inr x => some x
  | .inl _ => none) else none
noncomputable def ix_arr (hp : ix_H) (a : Nat) : Option (Nat × vp_A) := bif Nat.blt a hp.1 then (match hp.2.2 a with
  | .inl x => some x
  | .inr _ => none) else none
theorem ix_obj_ok {hp : ix_H} {a : Nat} {x : Nat × List Value} (h : ix_obj hp a = some x) : a < hp.1 ∧ hp.2.2 a = .inr x := by
  unfold ix_obj at h
  cases hb : Nat.blt a hp.1 with
  | false => rw [hb] at h; cases h
  | true =>
    rw [hb] at h
    refine ⟨Nat.blt_eq.mp hb, ?_⟩
    simp only [cond_true] at h
    split at h
    · rename_i y hy
      cases h
      exact hy
    · cases h
theorem ix_arr_ok {hp : ix_H} {a : Nat} {x : Nat × vp_A} (h : ix_arr hp a = some x) : a < hp.1 ∧ hp.2.2 a = .inl x := by
  unfold ix_arr at h
  cases hb : Nat.blt a hp.1 with
  | false => rw [hb] at h; cases h
  | true =>
    rw [hb] at h
    refine ⟨Nat.blt_eq.mp hb, ?_⟩
    simp only [cond_true] at h
    split at h
    · rename_i y hy
      cases h
      exact hy
    · cases h
/-- another content of a cell -/
noncomputable def ix_put (hp : ix_H) (a : Nat) (c : ix_C) : ix_H := (hp.1, hp.2.1, ix_up hp.2.2 a c)
/-- one cell more, of so many slots -/
noncomputable def ix_new (hp : ix_H) (z : Nat) (c : ix_C) : ix_H := (hp.1 + 1, hp.2.1 + z, ix_up hp.2.2 hp.1 c)
noncomputable def ix_zero : Nat → Nat → Option (Nat × vp_A)
  | 0, n => some (0, n, .inl (fun _ => 0))
  | 1, n => some (1, n, .inr (.inl (fun _ => 0)))
  | 2, n => some (2, n, .inl (fun _ => 0))
  | _, _ => none
noncomputable def ix_aty : ArrayType → Nat
  | .int => 0
  | .long => 1
  | .boolean => 2
  | _ => 9
end
