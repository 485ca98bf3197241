section
/-- instructions on cells; oc: the number of the method's own class, ini: whether the method is a constructor -/
noncomputable def ix_hp (T : ix_T) (oc : Nat) (ini : Bool) : Instr → List Value → ix_H → Option (List Value × ix_H)
  | .getfield idx, .ref a :: st, hp => match ix_tF T oc idx, ix_obj hp a with
    | some (ci, j), some (c, fs) => if c = ci then (match fs[j]? with
      | some v => some (v :: st, hp)
      | none => none) else none
    | _, _ => match ix_tG T oc idx, ix_cno T a with
      | some true, some b => some (.ref (1000000 + b) :: st, hp)
      | some false, some _ => some (.int 0 :: st, hp)
      | _, _ => none
  | .putfield idx, v :: .ref a :: st, hp => match ix_tF T oc idx, ix_obj hp a with
    | some (ci, j), some (c, fs) => if c = ci ∧ j < fs.length ∧ narrow ((ix_tD T ci).2 j).1 v = v ∧ fits ((ix_tD T ci).2 j).1 v = true ∧ (((ix_tD T ci).2 j).2 = false ∨ (ini = true ∧ ci = oc)) then some (st, ix_put hp a (.inr (c, fs.set j v))) else none
    | _, _ => none
  | .arraylength, .ref a :: st, hp => match ix_arr hp a with
    | some (t, n, x) => if t < 3 ∨ (ix_tE T t).isSome = true then some (.int (Int32.ofNat n) :: st, hp) else none
    | none => match ix_cns T a with
      | some (n, _) => some (.int (Int32.ofNat n) :: st, hp)
      | none => match ix_cnb T a with
        | some (n, _) => some (.int (Int32.ofNat n) :: st, hp)
        | none => none
  | .iaload, .int i :: .ref a :: st, hp => match ix_arr hp a with
    | some (0, n, .inl f) => if i < 0 ∨ n ≤ i.toNatClampNeg then none else some (.int (f i.toNatClampNeg) :: st, hp)
    | some _ => none
    | none => match ix_cns T a with
      | some (n, f) => if i < 0 ∨ n ≤ i.toNatClampNeg then none else some (.int (f i.toNatClampNeg) :: st, hp)
      | none => none
  | .getstatic idx, st, hp => match ix_tS T oc idx with
    | some v => some (v :: st, hp)
    | none => none
  | .laload, .int i :: .ref a :: st, hp => match ix_arr hp a with
    | some (1, n, .inr (.inl f)) => if i < 0 ∨ n ≤ i.toNatClampNeg then none else some (.long (f i.toNatClampNeg) :: st, hp)
    | _ => none
  | .baload, .int i :: .ref a :: st, hp => match ix_arr hp a with
    | some (2, n, .inl f) => if i < 0 ∨ n ≤ i.toNatClampNeg then none else some (.int (f i.toNatClampNeg) :: st, hp)
    | some _ => none
    | none => match ix_cnb T a with
      | some (n, f) => if i < 0 ∨ n ≤ i.toNatClampNeg then none else some (.int (f i.toNatClampNeg) :: st, hp)
      | none => none
  | .aaload, .int i :: .ref a :: st, hp => match ix_arr hp a with
    | some (t, n, .inr (.inr (.inr (.inr f)))) => if (ix_tE T t).isSome = true ∧ ¬ (i < 0 ∨ n ≤ i.toNatClampNeg) then some (va_rf (f i.toNatClampNeg) :: st, hp) else none
    | _ => none
  | .iastore, .int x :: .int i :: .ref a :: st, hp => match ix_arr hp a with
    | some (0, n, .inl f) => if i < 0 ∨ n ≤ i.toNatClampNeg then none else some (st, ix_put hp a (.inl (0, n, .inl (upd f i.toNatClampNeg x))))
    | _ => none
  | .lastore, .long x :: .int i :: .ref a :: st, hp => match ix_arr hp a with
    | some (1, n, .inr (.inl f)) => if i < 0 ∨ n ≤ i.toNatClampNeg then none else some (st, ix_put hp a (.inl (1, n, .inr (.inl (vp_updL f i.toNatClampNeg x)))))
    | _ => none
  | .bastore, .int x :: .int i :: .ref a :: st, hp => match ix_arr hp a with
    | some (2, n, .inl f) => if i < 0 ∨ n ≤ i.toNatClampNeg then none else some (st, ix_put hp a (.inl (2, n, .inl (upd f i.toNatClampNeg (vp_nar .boolean x)))))
    | _ => none
  | .aastore, .ref v :: .int i :: .ref a :: st, hp => match ix_arr hp a, ix_obj hp v with
    | some (t, n, .inr (.inr (.inr (.inr f)))), some (c, _) => if ix_tE T t = some c ∧ ¬ (i < 0 ∨ n ≤ i.toNatClampNeg) then some (st, ix_put hp a (.inl (t, n, .inr (.inr (.inr (.inr (va_up f i.toNatClampNeg (some v)))))))) else none
    | _, _ => none
  | .new idx, st, hp => match ix_tC T oc idx with
    | some (ci, _) => if hp.1 < 1000000 then some (.ref hp.1 :: st, ix_new hp (ix_tD T ci).1 (.inr (ci, (List.range (ix_tD T ci).1).map (fun j => defaultValue ((ix_tD T ci).2 j).1)))) else none
    | _ => none
  | .newarray aty, .int n :: st, hp => match ix_zero (ix_aty aty) n.toNatClampNeg with
    | some x => if ¬ n < 0 ∧ n.toNatClampNeg ≤ 1000000 ∧ hp.1 < 1000000 then some (.ref hp.1 :: st, ix_new hp n.toNatClampNeg (.inl x)) else none
    | none => none
  | .anewarray idx, .int n :: st, hp => match ix_tC T oc idx with
    | some (_, t) => if ¬ n < 0 ∧ n.toNatClampNeg ≤ 1000000 ∧ hp.1 < 1000000 ∧ ¬ t = 0 then some (.ref hp.1 :: st, ix_new hp n.toNatClampNeg (.inl (t, n.toNatClampNeg, .inr (.inr (.inr (.inr (fun _ => none))))))) else none
    | _ => none
  | .ldc idx, st, hp => match ix_tK T oc idx with
    | some (.int v) => some (.int v :: st, hp)
    | some (.ref a) => some (.ref a :: st, hp)
    | _ => none
  | .ldc_w idx, st, hp => match ix_tK T oc idx with
    | some (.int v) => some (.int v :: st, hp)
    | _ => none
  | .ldc2_w idx, st, hp => match ix_tK T oc idx with
    | some (.long v) => some (.long v :: st, hp)
    | _ => none
  | _, _, _ => none
noncomputable def ix_cats (st : List Value) : Nat := (st.map fun v => v.category).sum
/-- System.arraycopy between two rows of whole numbers -/
noncomputable def ix_acp (hp : ix_H) : List Value → Option (List Value × ix_H)
  | .int n :: .int dp :: .ref d :: .int sp :: .ref a :: st => match ix_arr hp a, ix_arr hp d with
    | some (0, n0, .inl f), some (0, n1, .inl g) => if ¬ sp < 0 ∧ ¬ dp < 0 ∧ ¬ n < 0 ∧ sp.toNatClampNeg + n.toNatClampNeg ≤ n0 ∧ dp.toNatClampNeg + n.toNatClampNeg ≤ n1 ∧ ix_cats st ≤ 8 then some (st, ix_put hp d (.inl (0, n1, .inl (va_cpy f g sp.toNatClampNeg dp.toNatClampNeg n.toNatClampNeg)))) else none
    | some (1, n0, .inr (.inl f)), some (1, n1, .inr (.inl g)) => if ¬ sp < 0 ∧ ¬ dp < 0 ∧ ¬ n < 0 ∧ sp.toNatClampNeg + n.toNatClampNeg ≤ n0 ∧ dp.toNatClampNeg + n.toNatClampNeg ≤ n1 ∧ ix_cats st ≤ 8 then some (st, ix_put hp d (.inl (1, n1, .inr (.inl (va_cpy f g sp.toNatClampNeg dp.toNatClampNeg n.toNatClampNeg))))) else none
    | _, _ => none
  | _ => none
noncomputable abbrev ix_F : Type := Nat → List Value → ix_H → Option (Option Value × ix_H)
/-- Math.min, max of ints, min of longs -/
noncomputable def ix_mth : Nat → List Value → Option (List Value)
  | 9, .int y :: .int x :: r => if ix_cats r ≤ 8 then some (.int (if y < x then y else x) :: r) else none
  | 10, .int y :: .int x :: r => if ix_cats r ≤ 8 then some (.int (if x < y then y else x) :: r) else none
  | 11, .long y :: .long x :: r => if ix_cats r ≤ 8 then some (.long (if y < x then y else x) :: r) else none
  | _, _ => none
end
