section
section IYF
variable {T : ix_T} {f : ix_F} {M : ix_M} {pc : Nat} {ls : ix_L} {st : List Value} {hp : ix_H} {res : ix_S ⊕ (Option Value × ix_H)}
noncomputable def fx_goto (off : Int) (pc : Nat) (ls : ix_L) (st : List Value) (hp : ix_H) : Option (ix_S ⊕ (Option Value × ix_H)) := match ix_tg pc off with
  | some t => some (.inl (t, ls, st, hp))
  | none => none
theorem fxk_goto {off : Int} (h : fx_goto off pc ls st hp = some res) : ix_sem T f M (.goto off) pc ls st hp = some res := by
  unfold fx_goto at h
  split at h
  · rename_i hx
    cases h
    simp [ix_sem, ix_ret, ix_alu, ix_loc, ix_hp, ix_br, hx]
  · cases h
noncomputable def fx_if (cd : Jvm.ClassFile.Cond) (off : Int) (pc : Nat) (ls : ix_L) (st : List Value) (hp : ix_H) : Option (ix_S ⊕ (Option Value × ix_H)) := match st with
  | .int x :: r => (match ix_tg pc off with
    | some t => bif ix_cb cd x 0 then some (.inl (t, ls, r, hp)) else some (.inl (pc + 3, ls, r, hp))
    | none => none)
  | _ => none
theorem fxk_if {cd : Jvm.ClassFile.Cond} {off : Int} (h : fx_if cd off pc ls st hp = some res) : ix_sem T f M (.ifCond cd off) pc ls st hp = some res := by
  unfold fx_if at h
  split at h
  · rename_i x r
    split at h
    · rename_i hx
      cases hc : ix_cb cd x 0 <;> (rw [hc] at h; cases h; simp [ix_sem, ix_ret, ix_alu, ix_loc, ix_hp, ix_br, hx, hc])
    · cases h
  · cases h
noncomputable def fx_icmp (cd : Jvm.ClassFile.Cond) (off : Int) (pc : Nat) (ls : ix_L) (st : List Value) (hp : ix_H) : Option (ix_S ⊕ (Option Value × ix_H)) := match st with
  | .int y :: .int x :: r => (match ix_tg pc off with
    | some t => bif ix_cb cd x y then some (.inl (t, ls, r, hp)) else some (.inl (pc + 3, ls, r, hp))
    | none => none)
  | _ => none
theorem fxk_icmp {cd : Jvm.ClassFile.Cond} {off : Int} (h : fx_icmp cd off pc ls st hp = some res) : ix_sem T f M (.if_icmp cd off) pc ls st hp = some res := by
  unfold fx_icmp at h
  split at h
  · rename_i y x r
    split at h
    · rename_i hx
      cases hc : ix_cb cd x y <;> (rw [hc] at h; cases h; simp [ix_sem, ix_ret, ix_alu, ix_loc, ix_hp, ix_br, hx, hc])
    · cases h
  · cases h
noncomputable def fx_tsw (dflt lo hi : Int) (offs : Array Int) (pc : Nat) (ls : ix_L) (st : List Value) (hp : ix_H) : Option (ix_S ⊕ (Option Value × ix_H)) := match st with
  | .int x :: r => if x.toInt < lo ∨ hi < x.toInt then (match ix_tg pc dflt with
    | some t => some (.inl (t, ls, r, hp))
    | none => none) else (match offs[(x.toInt - lo).toNat]? with
    | some off => (match ix_tg pc off with
      | some t => some (.inl (t, ls, r, hp))
      | none => none)
    | none => none)
  | _ => none
theorem fxk_tsw {dflt lo hi : Int} {offs : Array Int} (h : fx_tsw dflt lo hi offs pc ls st hp = some res) : ix_sem T f M (.tableswitch dflt lo hi offs) pc ls st hp = some res := by
  unfold fx_tsw at h
  split at h
  · split at h
    · rename_i hc
      split at h
      · rename_i ht
        cases h
        simp [ix_sem, ix_ret, ix_alu, ix_loc, ix_hp, ix_br, hc, ht]
      · cases h
    · rename_i hc
      split at h
      · rename_i off ho
        split at h
        · rename_i ht
          cases h
          simp [ix_sem, ix_ret, ix_alu, ix_loc, ix_hp, ix_br, hc, ht, ho]
        · cases h
      · cases h
  · cases h
noncomputable def fx_getfield (T : ix_T) (oc : Nat) (ini : Bool) (idx : Nat) (pc : Nat) (ls : ix_L) (st : List Value) (hp : ix_H) : Option (ix_S ⊕ (Option Value × ix_H)) := match st with
  | .ref a :: r => (match ix_tF T oc idx, ix_obj hp a with
    | some (ci, j), some (c, fs) => if c = ci then (match fs[j]? with
      | some v => some (.inl (pc + 3, ls, v :: r, hp))
      | none => none) else none
    | _, _ => none)
  | _ => none
theorem fxk_getfield {idx : Nat} (h : fx_getfield T M.1 M.2.2.2.2.2.1 idx pc ls st hp = some res) : ix_sem T f M (.getfield idx) pc ls st hp = some res := by
  unfold fx_getfield at h
  repeat' (split at h)
  all_goals first | (cases h; done) | (rename_i h1 h2; cases h; simp [ix_sem, ix_ret, ix_alu, ix_loc, ix_hp, ix_len, h1, if_neg h2]; done) | (rename_i h0 _ _ _ h1 h2; cases h; simp [ix_sem, ix_ret, ix_alu, ix_loc, ix_hp, ix_len, h0, h1, if_neg h2]; done) | (cases h; simp_all [ix_sem, ix_ret, ix_alu, ix_loc, ix_hp, ix_len]; done)
noncomputable def fx_putfield (T : ix_T) (oc : Nat) (ini : Bool) (idx : Nat) (pc : Nat) (ls : ix_L) (st : List Value) (hp : ix_H) : Option (ix_S ⊕ (Option Value × ix_H)) := match st with
  | v :: .ref a :: r => (match ix_tF T oc idx, ix_obj hp a with
    | some (ci, j), some (c, fs) => if c = ci ∧ j < fs.length ∧ narrow ((ix_tD T ci).2 j).1 v = v ∧ fits ((ix_tD T ci).2 j).1 v = true ∧ (((ix_tD T ci).2 j).2 = false ∨ (ini = true ∧ ci = oc)) then some (.inl (pc + 3, ls, r, ix_put hp a (.inr (c, fs.set j v)))) else none
    | _, _ => none)
  | _ => none
theorem fxk_putfield {idx : Nat} (h : fx_putfield T M.1 M.2.2.2.2.2.1 idx pc ls st hp = some res) : ix_sem T f M (.putfield idx) pc ls st hp = some res := by
  unfold fx_putfield at h
  repeat' (split at h)
  all_goals first | (cases h; done) | (rename_i h1 h2; cases h; simp [ix_sem, ix_ret, ix_alu, ix_loc, ix_hp, ix_len, h1, if_neg h2]; done) | (rename_i h0 _ _ _ h1 h2; cases h; simp [ix_sem, ix_ret, ix_alu, ix_loc, ix_hp, ix_len, h0, h1, if_neg h2]; done) | (cases h; simp_all [ix_sem, ix_ret, ix_alu, ix_loc, ix_hp, ix_len]; done)
noncomputable def fx_arraylength (T : ix_T) (oc : Nat) (ini : Bool)  (pc : Nat) (ls : ix_L) (st : List Value) (hp : ix_H) : Option (ix_S ⊕ (Option Value × ix_H)) := match st with
  | .ref a :: r => (match ix_arr hp a with
    | some (t, n, _) => if t < 3 ∨ (ix_tE T t).isSome = true then some (.inl (pc + 1, ls, .int (Int32.ofNat n) :: r, hp)) else none
    | none => match ix_cns T a with
      | some (n, _) => some (.inl (pc + 1, ls, .int (Int32.ofNat n) :: r, hp))
      | none => none)
  | _ => none
theorem fxk_arraylength  (h : fx_arraylength T M.1 M.2.2.2.2.2.1  pc ls st hp = some res) : ix_sem T f M (.arraylength) pc ls st hp = some res := by
  unfold fx_arraylength at h
  repeat' (split at h)
  all_goals first | (cases h; done) | (rename_i h1 h2; cases h; simp [ix_sem, ix_ret, ix_alu, ix_loc, ix_hp, ix_len, h1, if_neg h2]; done) | (rename_i h0 _ _ _ h1 h2; cases h; simp [ix_sem, ix_ret, ix_alu, ix_loc, ix_hp, ix_len, h0, h1, if_neg h2]; done) | (cases h; simp_all [ix_sem, ix_ret, ix_alu, ix_loc, ix_hp, ix_len]; done)
noncomputable def fx_iaload (T : ix_T) (oc : Nat) (ini : Bool)  (pc : Nat) (ls : ix_L) (st : List Value) (hp : ix_H) : Option (ix_S ⊕ (Option Value × ix_H)) := match st with
  | .int i :: .ref a :: r => (match ix_arr hp a with
    | some (0, n, .inl f) => if i < 0 ∨ n ≤ i.toNatClampNeg then none else some (.inl (pc + 1, ls, .int (f i.toNatClampNeg) :: r, hp))
    | some _ => none
    | none => match ix_cns T a with
      | some (n, f) => if i < 0 ∨ n ≤ i.toNatClampNeg then none else some (.inl (pc + 1, ls, .int (f i.toNatClampNeg) :: r, hp))
      | none => none)
  | _ => none
theorem fxk_iaload  (h : fx_iaload T M.1 M.2.2.2.2.2.1  pc ls st hp = some res) : ix_sem T f M (.iaload) pc ls st hp = some res := by
  unfold fx_iaload at h
  repeat' (split at h)
  all_goals first | (cases h; done) | (rename_i h1 h2; cases h; simp [ix_sem, ix_ret, ix_alu, ix_loc, ix_hp, ix_len, h1, if_neg h2]; done) | (rename_i h0 _ _ _ h1 h2; cases h; simp [ix_sem, ix_ret, ix_alu, ix_loc, ix_hp, ix_len, h0, h1, if_neg h2]; done) | (cases h; simp_all [ix_sem, ix_ret, ix_alu, ix_loc, ix_hp, ix_len]; done)
noncomputable def fx_getstatic (T : ix_T) (oc : Nat) (_ : Bool) (idx : Nat) (pc : Nat) (ls : ix_L) (st : List Value) (hp : ix_H) : Option (ix_S ⊕ (Option Value × ix_H)) := match ix_tS T oc idx with
  | some v => some (.inl (pc + 3, ls, v :: st, hp))
  | none => none
theorem fxk_getstatic {idx : Nat} (h : fx_getstatic T M.1 M.2.2.2.2.2.1 idx pc ls st hp = some res) : ix_sem T f M (.getstatic idx) pc ls st hp = some res := by
  unfold fx_getstatic at h
  repeat' (split at h)
  all_goals first | (cases h; done) | (rename_i h1 h2; cases h; simp [ix_sem, ix_ret, ix_alu, ix_loc, ix_hp, ix_len, h1, if_neg h2]; done) | (rename_i h0 _ _ _ h1 h2; cases h; simp [ix_sem, ix_ret, ix_alu, ix_loc, ix_hp, ix_len, h0, h1, if_neg h2]; done) | (cases h; simp_all [ix_sem, ix_ret, ix_alu, ix_loc, ix_hp, ix_len]; done)
noncomputable def fx_laload (T : ix_T) (oc : Nat) (ini : Bool)  (pc : Nat) (ls : ix_L) (st : List Value) (hp : ix_H) : Option (ix_S ⊕ (Option Value × ix_H)) := match st with
  | .int i :: .ref a :: r => (match ix_arr hp a with
    | some (1, n, .inr (.inl f)) => if i < 0 ∨ n ≤ i.toNatClampNeg then none else some (.inl (pc + 1, ls, .long (f i.toNatClampNeg) :: r, hp))
    | _ => none)
  | _ => none
theorem fxk_laload  (h : fx_laload T M.1 M.2.2.2.2.2.1  pc ls st hp = some res) : ix_sem T f M (.laload) pc ls st hp = some res := by
  unfold fx_laload at h
  repeat' (split at h)
  all_goals first | (cases h; done) | (rename_i h1 h2; cases h; simp [ix_sem, ix_ret, ix_alu, ix_loc, ix_hp, ix_len, h1, if_neg h2]; done) | (rename_i h0 _ _ _ h1 h2; cases h; simp [ix_sem, ix_ret, ix_alu, ix_loc, ix_hp, ix_len, h0, h1, if_neg h2]; done) | (cases h; simp_all [ix_sem, ix_ret, ix_alu, ix_loc, ix_hp, ix_len]; done)
noncomputable def fx_baload (T : ix_T) (oc : Nat) (ini : Bool)  (pc : Nat) (ls : ix_L) (st : List Value) (hp : ix_H) : Option (ix_S ⊕ (Option Value × ix_H)) := match st with
  | .int i :: .ref a :: r => (match ix_arr hp a with
    | some (2, n, .inl f) => if i < 0 ∨ n ≤ i.toNatClampNeg then none else some (.inl (pc + 1, ls, .int (f i.toNatClampNeg) :: r, hp))
    | _ => none)
  | _ => none
theorem fxk_baload  (h : fx_baload T M.1 M.2.2.2.2.2.1  pc ls st hp = some res) : ix_sem T f M (.baload) pc ls st hp = some res := by
  unfold fx_baload at h
  repeat' (split at h)
  all_goals first | (cases h; done) | (rename_i h1 h2; cases h; simp [ix_sem, ix_ret, ix_alu, ix_loc, ix_hp, ix_len, h1, if_neg h2]; done) | (rename_i h0 _ _ _ h1 h2; cases h; simp [ix_sem, ix_ret, ix_alu, ix_loc, ix_hp, ix_len, h0, h1, if_neg h2]; done) | (cases h; simp_all [ix_sem, ix_ret, ix_alu, ix_loc, ix_hp, ix_len]; done)
noncomputable def fx_aaload (T : ix_T) (oc : Nat) (ini : Bool)  (pc : Nat) (ls : ix_L) (st : List Value) (hp : ix_H) : Option (ix_S ⊕ (Option Value × ix_H)) := match st with
  | .int i :: .ref a :: r => (match ix_arr hp a with
    | some (t, n, .inr (.inr (.inr (.inr f)))) => if (ix_tE T t).isSome = true ∧ ¬ (i < 0 ∨ n ≤ i.toNatClampNeg) then some (.inl (pc + 1, ls, va_rf (f i.toNatClampNeg) :: r, hp)) else none
    | _ => none)
  | _ => none
theorem fxk_aaload  (h : fx_aaload T M.1 M.2.2.2.2.2.1  pc ls st hp = some res) : ix_sem T f M (.aaload) pc ls st hp = some res := by
  unfold fx_aaload at h
  repeat' (split at h)
  all_goals first | (cases h; done) | (rename_i h1 h2; cases h; simp [ix_sem, ix_ret, ix_alu, ix_loc, ix_hp, ix_len, h1, if_neg h2]; done) | (rename_i h0 _ _ _ h1 h2; cases h; simp [ix_sem, ix_ret, ix_alu, ix_loc, ix_hp, ix_len, h0, h1, if_neg h2]; done) | (cases h; simp_all [ix_sem, ix_ret, ix_alu, ix_loc, ix_hp, ix_len]; done)
noncomputable def fx_iastore (T : ix_T) (oc : Nat) (ini : Bool)  (pc : Nat) (ls : ix_L) (st : List Value) (hp : ix_H) : Option (ix_S ⊕ (Option Value × ix_H)) := match st with
  | .int x :: .int i :: .ref a :: r => (match ix_arr hp a with
    | some (0, n, .inl f) => if i < 0 ∨ n ≤ i.toNatClampNeg then none else some (.inl (pc + 1, ls, r, ix_put hp a (.inl (0, n, .inl (upd f i.toNatClampNeg x)))))
    | _ => none)
  | _ => none
theorem fxk_iastore  (h : fx_iastore T M.1 M.2.2.2.2.2.1  pc ls st hp = some res) : ix_sem T f M (.iastore) pc ls st hp = some res := by
  unfold fx_iastore at h
  repeat' (split at h)
  all_goals first | (cases h; done) | (rename_i h1 h2; cases h; simp [ix_sem, ix_ret, ix_alu, ix_loc, ix_hp, ix_len, h1, if_neg h2]; done) | (rename_i h0 _ _ _ h1 h2; cases h; simp [ix_sem, ix_ret, ix_alu, ix_loc, ix_hp, ix_len, h0, h1, if_neg h2]; done) | (cases h; simp_all [ix_sem, ix_ret, ix_alu, ix_loc, ix_hp, ix_len]; done)
noncomputable def fx_lastore (T : ix_T) (oc : Nat) (ini : Bool)  (pc : Nat) (ls : ix_L) (st : List Value) (hp : ix_H) : Option (ix_S ⊕ (Option Value × ix_H)) := match st with
  | .long x :: .int i :: .ref a :: r => (match ix_arr hp a with
    | some (1, n, .inr (.inl f)) => if i < 0 ∨ n ≤ i.toNatClampNeg then none else some (.inl (pc + 1, ls, r, ix_put hp a (.inl (1, n, .inr (.inl (vp_updL f i.toNatClampNeg x))))))
    | _ => none)
  | _ => none
theorem fxk_lastore  (h : fx_lastore T M.1 M.2.2.2.2.2.1  pc ls st hp = some res) : ix_sem T f M (.lastore) pc ls st hp = some res := by
  unfold fx_lastore at h
  repeat' (split at h)
  all_goals first | (cases h; done) | (rename_i h1 h2; cases h; simp [ix_sem, ix_ret, ix_alu, ix_loc, ix_hp, ix_len, h1, if_neg h2]; done) | (rename_i h0 _ _ _ h1 h2; cases h; simp [ix_sem, ix_ret, ix_alu, ix_loc, ix_hp, ix_len, h0, h1, if_neg h2]; done) | (cases h; simp_all [ix_sem, ix_ret, ix_alu, ix_loc, ix_hp, ix_len]; done)
noncomputable def fx_bastore (T : ix_T) (oc : Nat) (ini : Bool)  (pc : Nat) (ls : ix_L) (st : List Value) (hp : ix_H) : Option (ix_S ⊕ (Option Value × ix_H)) := match st with
  | .int x :: .int i :: .ref a :: r => (match ix_arr hp a with
    | some (2, n, .inl f) => if i < 0 ∨ n ≤ i.toNatClampNeg then none else some (.inl (pc + 1, ls, r, ix_put hp a (.inl (2, n, .inl (upd f i.toNatClampNeg (vp_nar .boolean x))))))
    | _ => none)
  | _ => none
theorem fxk_bastore  (h : fx_bastore T M.1 M.2.2.2.2.2.1  pc ls st hp = some res) : ix_sem T f M (.bastore) pc ls st hp = some res := by
  unfold fx_bastore at h
  repeat' (split at h)
  all_goals first | (cases h; done) | (rename_i h1 h2; cases h; simp [ix_sem, ix_ret, ix_alu, ix_loc, ix_hp, ix_len, h1, if_neg h2]; done) | (rename_i h0 _ _ _ h1 h2; cases h; simp [ix_sem, ix_ret, ix_alu, ix_loc, ix_hp, ix_len, h0, h1, if_neg h2]; done) | (cases h; simp_all [ix_sem, ix_ret, ix_alu, ix_loc, ix_hp, ix_len]; done)
noncomputable def fx_aastore (T : ix_T) (oc : Nat) (ini : Bool)  (pc : Nat) (ls : ix_L) (st : List Value) (hp : ix_H) : Option (ix_S ⊕ (Option Value × ix_H)) := match st with
  | .ref v :: .int i :: .ref a :: r => (match ix_arr hp a, ix_obj hp v with
    | some (t, n, .inr (.inr (.inr (.inr f)))), some (c, _) => if ix_tE T t = some c ∧ ¬ (i < 0 ∨ n ≤ i.toNatClampNeg) then some (.inl (pc + 1, ls, r, ix_put hp a (.inl (t, n, .inr (.inr (.inr (.inr (va_up f i.toNatClampNeg (some v))))))))) else none
    | _, _ => none)
  | _ => none
theorem fxk_aastore  (h : fx_aastore T M.1 M.2.2.2.2.2.1  pc ls st hp = some res) : ix_sem T f M (.aastore) pc ls st hp = some res := by
  unfold fx_aastore at h
  repeat' (split at h)
  all_goals first | (cases h; done) | (rename_i h1 h2; cases h; simp [ix_sem, ix_ret, ix_alu, ix_loc, ix_hp, ix_len, h1, if_neg h2]; done) | (rename_i h0 _ _ _ h1 h2; cases h; simp [ix_sem, ix_ret, ix_alu, ix_loc, ix_hp, ix_len, h0, h1, if_neg h2]; done) | (cases h; simp_all [ix_sem, ix_ret, ix_alu, ix_loc, ix_hp, ix_len]; done)
noncomputable def fx_new (T : ix_T) (oc : Nat) (_ : Bool) (idx : Nat) (pc : Nat) (ls : ix_L) (st : List Value) (hp : ix_H) : Option (ix_S ⊕ (Option Value × ix_H)) := match ix_tC T oc idx with
  | some (ci, _) => if hp.1 < 1000000 then some (.inl (pc + 3, ls, .ref hp.1 :: st, ix_new hp (ix_tD T ci).1 (.inr (ci, (List.range (ix_tD T ci).1).map (fun j => defaultValue ((ix_tD T ci).2 j).1))))) else none
  | _ => none
theorem fxk_new {idx : Nat} (h : fx_new T M.1 M.2.2.2.2.2.1 idx pc ls st hp = some res) : ix_sem T f M (.new idx) pc ls st hp = some res := by
  unfold fx_new at h
  repeat' (split at h)
  all_goals first | (cases h; done) | (cases h; simp_all [ix_sem, ix_ret, ix_alu, ix_loc, ix_hp, ix_len]; done)
noncomputable def fx_newarray (T : ix_T) (oc : Nat) (_ : Bool) (aty : ArrayType) (pc : Nat) (ls : ix_L) (st : List Value) (hp : ix_H) : Option (ix_S ⊕ (Option Value × ix_H)) := match st with
  | .int n :: r => (match ix_zero (ix_aty aty) n.toNatClampNeg with
    | some x => if ¬ n < 0 ∧ n.toNatClampNeg ≤ 1000000 ∧ hp.1 < 1000000 then some (.inl (pc + 2, ls, .ref hp.1 :: r, ix_new hp n.toNatClampNeg (.inl x))) else none
    | none => none)
  | _ => none
theorem fxk_newarray {aty : ArrayType} (h : fx_newarray T M.1 M.2.2.2.2.2.1 aty pc ls st hp = some res) : ix_sem T f M (.newarray aty) pc ls st hp = some res := by
  unfold fx_newarray at h
  repeat' (split at h)
  all_goals first | (cases h; done) | (cases h; simp_all [ix_sem, ix_ret, ix_alu, ix_loc, ix_hp, ix_len]; done)
noncomputable def fx_anewarray (T : ix_T) (oc : Nat) (_ : Bool) (idx : Nat) (pc : Nat) (ls : ix_L) (st : List Value) (hp : ix_H) : Option (ix_S ⊕ (Option Value × ix_H)) := match st with
  | .int n :: r => (match ix_tC T oc idx with
    | some (_, t) => if ¬ n < 0 ∧ n.toNatClampNeg ≤ 1000000 ∧ hp.1 < 1000000 ∧ ¬ t = 0 then some (.inl (pc + 3, ls, .ref hp.1 :: r, ix_new hp n.toNatClampNeg (.inl (t, n.toNatClampNeg, .inr (.inr (.inr (.inr (fun _ => none)))))))) else none
    | _ => none)
  | _ => none
theorem fxk_anewarray {idx : Nat} (h : fx_anewarray T M.1 M.2.2.2.2.2.1 idx pc ls st hp = some res) : ix_sem T f M (.anewarray idx) pc ls st hp = some res := by
  unfold fx_anewarray at h
  repeat' (split at h)
  all_goals first | (cases h; done) | (cases h; simp_all [ix_sem, ix_ret, ix_alu, ix_loc, ix_hp, ix_len]; done)
noncomputable def fx_ldc (T : ix_T) (oc : Nat) (_ : Bool) (idx : Nat) (pc : Nat) (ls : ix_L) (st : List Value) (hp : ix_H) : Option (ix_S ⊕ (Option Value × ix_H)) := match ix_tK T oc idx with
  | some (.int v) => some (.inl (pc + 2, ls, .int v :: st, hp))
  | _ => none
theorem fxk_ldc {idx : Nat} (h : fx_ldc T M.1 M.2.2.2.2.2.1 idx pc ls st hp = some res) : ix_sem T f M (.ldc idx) pc ls st hp = some res := by
  unfold fx_ldc at h
  repeat' (split at h)
  all_goals first | (cases h; done) | (cases h; simp_all [ix_sem, ix_ret, ix_alu, ix_loc, ix_hp, ix_len]; done)
noncomputable def fx_ldc_w (T : ix_T) (oc : Nat) (_ : Bool) (idx : Nat) (pc : Nat) (ls : ix_L) (st : List Value) (hp : ix_H) : Option (ix_S ⊕ (Option Value × ix_H)) := match ix_tK T oc idx with
  | some (.int v) => some (.inl (pc + 3, ls, .int v :: st, hp))
  | _ => none
theorem fxk_ldc_w {idx : Nat} (h : fx_ldc_w T M.1 M.2.2.2.2.2.1 idx pc ls st hp = some res) : ix_sem T f M (.ldc_w idx) pc ls st hp = some res := by
  unfold fx_ldc_w at h
  repeat' (split at h)
  all_goals first | (cases h; done) | (cases h; simp_all [ix_sem, ix_ret, ix_alu, ix_loc, ix_hp, ix_len]; done)
noncomputable def fx_ldc2_w (T : ix_T) (oc : Nat) (_ : Bool) (idx : Nat) (pc : Nat) (ls : ix_L) (st : List Value) (hp : ix_H) : Option (ix_S ⊕ (Option Value × ix_H)) := match ix_tK T oc idx with
  | some (.long v) => some (.inl (pc + 3, ls, .long v :: st, hp))
  | _ => none
theorem fxk_ldc2_w {idx : Nat} (h : fx_ldc2_w T M.1 M.2.2.2.2.2.1 idx pc ls st hp = some res) : ix_sem T f M (.ldc2_w idx) pc ls st hp = some res := by
  unfold fx_ldc2_w at h
  repeat' (split at h)
  all_goals first | (cases h; done) | (cases h; simp_all [ix_sem, ix_ret, ix_alu, ix_loc, ix_hp, ix_len]; done)
noncomputable def fx_return (ret : Option FieldType) (st : List Value) (hp : ix_H) : Option (ix_S ⊕ (Option Value × ix_H)) := match st, ret with
  | [], none => some (.inr (none, hp))
  | _, _ => none
theorem fxk_return (h : fx_return M.2.2.2.2.1 st hp = some res) : ix_sem T f M .return_ pc ls st hp = some res := by
  unfold fx_return at h
  split at h
  · rename_i hr
    cases h
    simp [ix_sem, ix_ret, hr]
  · cases h
noncomputable def fx_ireturn (ret : Option FieldType) (st : List Value) (hp : ix_H) : Option (ix_S ⊕ (Option Value × ix_H)) := match st, ret with
  | [.int v], some ty => if narrow ty (.int v) = .int v then some (.inr (some (.int v), hp)) else none
  | _, _ => none
theorem fxk_ireturn (h : fx_ireturn M.2.2.2.2.1 st hp = some res) : ix_sem T f M .ireturn pc ls st hp = some res := by
  unfold fx_ireturn at h
  split at h
  · rename_i hr
    split at h
    · rename_i hn
      cases h
      simp [ix_sem, ix_ret, hr, hn]
    · cases h
  · cases h
noncomputable def fx_lreturn (ret : Option FieldType) (st : List Value) (hp : ix_H) : Option (ix_S ⊕ (Option Value × ix_H)) := match st with
  | [.long v] => if ret = some .long then some (.inr (some (.long v), hp)) else none
  | _ => none
theorem fxk_lreturn (h : fx_lreturn M.2.2.2.2.1 st hp = some res) : ix_sem T f M .lreturn pc ls st hp = some res := by
  unfold fx_lreturn at h
  split at h
  · split at h
    · rename_i hn
      cases h
      simp [ix_sem, ix_ret, hn]
    · cases h
  · cases h
/-- calls: as they stand -/
noncomputable def fx_call (T : ix_T) (f : ix_F) (oc : Nat) (i : Instr) (pc : Nat) (ls : ix_L) (st : List Value) (hp : ix_H) : Option (ix_S ⊕ (Option Value × ix_H)) := match ix_cal T f oc i st hp with
  | some (st', hp') => some (.inl (pc + 3, ls, st', hp'))
  | none => none
theorem fxk_call {i : Instr} (hi : (∃ n, i = .invokevirtual n) ∨ (∃ n, i = .invokespecial n) ∨ ∃ n, i = .invokestatic n) (h : fx_call T f M.1 i pc ls st hp = some res) : ix_sem T f M i pc ls st hp = some res := by
  unfold fx_call at h
  split at h
  · rename_i hc
    cases h
    rcases hi with ⟨n, rfl⟩ | ⟨n, rfl⟩ | ⟨n, rfl⟩ <;> simp [ix_sem, ix_ret, ix_alu, ix_loc, ix_hp, ix_br, hc, ix_len]
  · cases h
end IYF
noncomputable def iy_sem (T : ix_T) (f : ix_F) (M : ix_M) (i : Instr) (pc : Nat) (ls : ix_L) (st : List Value) (hp : ix_H) : Option (ix_S ⊕ (Option Value × ix_H)) := match i with
  | .iadd => fx_iadd pc ls st hp
  | .isub => fx_isub pc ls st hp
  | .imul => fx_imul pc ls st hp
  | .iand => fx_iand pc ls st hp
  | .ior => fx_ior pc ls st hp
  | .ixor => fx_ixor pc ls st hp
  | .ishl => fx_ishl pc ls st hp
  | .ishr => fx_ishr pc ls st hp
  | .iushr => fx_iushr pc ls st hp
  | .ladd => fx_ladd pc ls st hp
  | .lsub => fx_lsub pc ls st hp
  | .lmul => fx_lmul pc ls st hp
  | .land => fx_land pc ls st hp
  | .lor => fx_lor pc ls st hp
  | .lxor => fx_lxor pc ls st hp
  | .idiv => fx_idiv pc ls st hp
  | .irem => fx_irem pc ls st hp
  | .ldiv => fx_ldiv pc ls st hp
  | .lrem => fx_lrem pc ls st hp
  | .lshl => fx_lshl pc ls st hp
  | .lshr => fx_lshr pc ls st hp
  | .lushr => fx_lushr pc ls st hp
  | .ineg => fx_ineg pc ls st hp
  | .lneg => fx_lneg pc ls st hp
  | .i2l => fx_i2l pc ls st hp
  | .l2i => fx_l2i pc ls st hp
  | .i2b => fx_i2b pc ls st hp
  | .i2s => fx_i2s pc ls st hp
  | .i2c => fx_i2c pc ls st hp
  | .lcmp => fx_lcmp pc ls st hp
  | .dup => fx_dup pc ls st hp
  | .pop => fx_pop pc ls st hp
  | .dup2 => fx_dup2 pc ls st hp
  | .iconst v => fx_iconst v pc ls st hp
  | .bipush v => fx_bipush v pc ls st hp
  | .sipush v => fx_sipush v pc ls st hp
  | .lconst v => fx_lconst v pc ls st hp
  | .iload k => fx_iload k 2 pc ls st hp
  | .iload_n k => fx_iload k.val 1 pc ls st hp
  | .istore k => fx_istore k 2 M.2.2.2.1 pc ls st hp
  | .istore_n k => fx_istore k.val 1 M.2.2.2.1 pc ls st hp
  | .lload k => fx_lload k 2 pc ls st hp
  | .lload_n k => fx_lload k.val 1 pc ls st hp
  | .lstore k => fx_lstore k 2 M.2.2.2.1 pc ls st hp
  | .lstore_n k => fx_lstore k.val 1 M.2.2.2.1 pc ls st hp
  | .aload k => fx_aload k 2 pc ls st hp
  | .aload_n k => fx_aload k.val 1 pc ls st hp
  | .astore k => fx_astore k 2 M.2.2.2.1 pc ls st hp
  | .astore_n k => fx_astore k.val 1 M.2.2.2.1 pc ls st hp
  | .iinc k v => fx_iinc k v M.2.2.2.1 pc ls st hp
  | .goto off => fx_goto off pc ls st hp
  | .ifCond cd off => fx_if cd off pc ls st hp
  | .if_icmp cd off => fx_icmp cd off pc ls st hp
  | .tableswitch dflt lo hi offs => fx_tsw dflt lo hi offs pc ls st hp
  | .getfield idx => fx_getfield T M.1 M.2.2.2.2.2.1 idx pc ls st hp
  | .putfield idx => fx_putfield T M.1 M.2.2.2.2.2.1 idx pc ls st hp
  | .arraylength => fx_arraylength T M.1 M.2.2.2.2.2.1  pc ls st hp
  | .iaload => fx_iaload T M.1 M.2.2.2.2.2.1  pc ls st hp
  | .getstatic idx => fx_getstatic T M.1 M.2.2.2.2.2.1 idx pc ls st hp
  | .laload => fx_laload T M.1 M.2.2.2.2.2.1  pc ls st hp
  | .baload => fx_baload T M.1 M.2.2.2.2.2.1  pc ls st hp
  | .aaload => fx_aaload T M.1 M.2.2.2.2.2.1  pc ls st hp
  | .iastore => fx_iastore T M.1 M.2.2.2.2.2.1  pc ls st hp
  | .lastore => fx_lastore T M.1 M.2.2.2.2.2.1  pc ls st hp
  | .bastore => fx_bastore T M.1 M.2.2.2.2.2.1  pc ls st hp
  | .aastore => fx_aastore T M.1 M.2.2.2.2.2.1  pc ls st hp
  | .new idx => fx_new T M.1 M.2.2.2.2.2.1 idx pc ls st hp
  | .newarray aty => fx_newarray T M.1 M.2.2.2.2.2.1 aty pc ls st hp
  | .anewarray idx => fx_anewarray T M.1 M.2.2.2.2.2.1 idx pc ls st hp
  | .ldc idx => fx_ldc T M.1 M.2.2.2.2.2.1 idx pc ls st hp
  | .ldc_w idx => fx_ldc_w T M.1 M.2.2.2.2.2.1 idx pc ls st hp
  | .ldc2_w idx => fx_ldc2_w T M.1 M.2.2.2.2.2.1 idx pc ls st hp
  | .return_ => fx_return M.2.2.2.2.1 st hp
  | .ireturn => fx_ireturn M.2.2.2.2.1 st hp
  | .lreturn => fx_lreturn M.2.2.2.2.1 st hp
  | .invokevirtual n => fx_call T f M.1 (.invokevirtual n) pc ls st hp
  | .invokespecial n => fx_call T f M.1 (.invokespecial n) pc ls st hp
  | .invokestatic n => fx_call T f M.1 (.invokestatic n) pc ls st hp
  | _ => none
end
