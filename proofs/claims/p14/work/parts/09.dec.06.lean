section
section IYF
variable {T : ix_T} {f : ix_F} {M : ix_M} {pc : Nat} {ls : ix_L} {st : List Value} {hp : ix_H} {res : ix_S ⊕ (Option Value × ix_H)}
theorem fxk_astore {k : Nat} (h : fx_astore k 2 M.2.2.2.1 pc ls st hp = some res) : ix_sem T f M (.astore k) pc ls st hp = some res := by
  unfold fx_astore at h
  split at h
  · split at h
    · rename_i hx
      cases h
      simp [ix_sem, ix_ret, ix_alu, ix_loc, hx, ix_len]
    · cases h
  · cases h
theorem fxk_astore_n {k : Fin 4} (h : fx_astore k.val 1 M.2.2.2.1 pc ls st hp = some res) : ix_sem T f M (.astore_n k) pc ls st hp = some res := by
  unfold fx_astore at h
  split at h
  · split at h
    · rename_i hx
      cases h
      simp [ix_sem, ix_ret, ix_alu, ix_loc, hx, ix_len]
    · cases h
  · cases h
noncomputable def fx_iinc (k : Nat) (v : Int) (nL : Nat) (pc : Nat) (ls : ix_L) (st : List Value) (hp : ix_H) : Option (ix_S ⊕ (Option Value × ix_H)) := match ix_ld ls k with
  | some (.int x) => if k < nL then some (.inl (pc + 3, ix_st1 ls k (.int (x + Int32.ofInt v)), st, hp)) else none
  | _ => none
theorem fxk_iinc {k : Nat} {v : Int} (h : fx_iinc k v M.2.2.2.1 pc ls st hp = some res) : ix_sem T f M (.iinc k v) pc ls st hp = some res := by
  unfold fx_iinc at h
  split at h
  · rename_i hx
    split at h
    · rename_i hk
      cases h
      simp [ix_sem, ix_ret, ix_alu, ix_loc, hx, hk, ix_len]
    · cases h
  · cases h
noncomputable def fx_goto (off : Int) (pc : Nat) (ls : ix_L) (st : List Value) (hp : ix_H) : Option (ix_S ⊕ (Option Value × ix_H)) := match ix_tg pc off with
  | some t => some (.inl (t, ls, st, hp))
  | none => none
theorem fxk_goto {off : Int} (h : fx_goto off pc ls st hp = some res) : ix_sem T f M (.goto off) pc ls st hp = some res := by
  unfold fx_goto at h
  split at h
  · rename_i hx
    cases h
    simp [ix_sem, ix_ret, ix_alu, ix_loc, ix_hp, ix_br, hx]
  · cases h
noncomputable def fx_if (cd : Jvm.ClassFile.Cond) (off : Int) (pc : Nat) (ls : ix_L) (st : List Value) (hp : ix_H) : Option (ix_S ⊕ (Option Value × ix_H)) := match st with
  | .int x :: r => (match ix_tg pc off with
    | some t => bif ix_cb cd x 0 then some (.inl (t, ls, r, hp)) else some (.inl (pc + 3, ls, r, hp))
    | none => none)
  | _ => none
theorem fxk_if {cd : Jvm.ClassFile.Cond} {off : Int} (h : fx_if cd off pc ls st hp = some res) : ix_sem T f M (.ifCond cd off) pc ls st hp = some res := by
  unfold fx_if at h
  split at h
  · rename_i x r
    split at h
    · rename_i hx
      cases hc : ix_cb cd x 0 <;> (rw [hc] at h; cases h; simp [ix_sem, ix_ret, ix_alu, ix_loc, ix_hp, ix_br, hx, hc])
    · cases h
  · cases h
noncomputable def fx_icmp (cd : Jvm.ClassFile.Cond) (off : Int) (pc : Nat) (ls : ix_L) (st : List Value) (hp : ix_H) : Option (ix_S ⊕ (Option Value × ix_H)) := match st with
  | .int y :: .int x :: r => (match ix_tg pc off with
    | some t => bif ix_cb cd x y then some (.inl (t, ls, r, hp)) else some (.inl (pc + 3, ls, r, hp))
    | none => none)
  | _ => none
theorem fxk_icmp {cd : Jvm.ClassFile.Cond} {off : Int} (h : fx_icmp cd off pc ls st hp = some res) : ix_sem T f M (.if_icmp cd off) pc ls st hp = some res := by
  unfold fx_icmp at h
  split at h
  · rename_i y x r
    split at h
    · rename_i hx
      cases hc : ix_cb cd x y <;> (rw [hc] at h; cases h; simp [ix_sem, ix_ret, ix_alu, ix_loc, ix_hp, ix_br, hx, hc])
    · cases h
  · cases h
noncomputable def fx_tsw (dflt lo hi : Int) (offs : Array Int) (pc : Nat) (ls : ix_L) (st : List Value) (hp : ix_H) : Option (ix_S ⊕ (Option Value × ix_H)) := match st with
  | .int x :: r => if x.toInt < lo ∨ hi < x.toInt then (match ix_tg pc dflt with
    | some t => some (.inl (t, ls, r, hp))
    | none => none) else (match offs[(x.toInt - lo).toNat]? with
    | some off => (match ix_tg pc off with
      | some t => some (.inl (t, ls, r, hp))
      | none => none)
    | none => none)
  | _ => none
theorem fxk_tsw {dflt lo hi : Int} {offs : Array Int} (h : fx_tsw dflt lo hi offs pc ls st hp = some res) : ix_sem T f M (.tableswitch dflt lo hi offs) pc ls st hp = some res := by
  unfold fx_tsw at h
  split at h
  · split at h
    · rename_i hc
      split at h
      · rename_i ht
        cases h
        simp [ix_sem, ix_ret, ix_alu, ix_loc, ix_hp, ix_br, hc, ht]
      · cases h
    · rename_i hc
      split at h
      · rename_i off ho
        split at h
        · rename_i ht
          cases h
          simp [ix_sem, ix_ret, ix_alu, ix_loc, ix_hp, ix_br, hc, ht, ho]
        · cases h
      · cases h
  · cases h
noncomputable def fx_getfield (T : ix_T) (oc : Nat) (ini : Bool) (idx : Nat) (pc : Nat) (ls : ix_L) (st : List Value) (hp : ix_H) : Option (ix_S ⊕ (Option Value × ix_H)) := match st with
  | .ref a :: r => (match ix_tF T oc idx, ix_obj hp a with
    | some (ci, j), some (c, fs) => if c = ci then (match fs[j]? with
      | some v => some (.inl (pc + 3, ls, v :: r, hp))
      | none => none) else none
    | _, _ => none)
  | _ => none
theorem fxk_getfield {idx : Nat} (h : fx_getfield T M.1 M.2.2.2.2.2.1 idx pc ls st hp = some res) : ix_sem T f M (.getfield idx) pc ls st hp = some res := by
  unfold fx_getfield at h
  repeat' (split at h)
  all_goals first | (cases h; done) | (rename_i h1 h2; cases h; simp [ix_sem, ix_ret, ix_alu, ix_loc, ix_hp, ix_len, h1, if_neg h2]; done) | (rename_i h0 _ _ _ h1 h2; cases h; simp [ix_sem, ix_ret, ix_alu, ix_loc, ix_hp, ix_len, h0, h1, if_neg h2]; done) | (cases h; simp_all [ix_sem, ix_ret, ix_alu, ix_loc, ix_hp, ix_len]; done)
noncomputable def fx_putfield (T : ix_T) (oc : Nat) (ini : Bool) (idx : Nat) (pc : Nat) (ls : ix_L) (st : List Value) (hp : ix_H) : Option (ix_S ⊕ (Option Value × ix_H)) := match st with
  | v :: .ref a :: r => (match ix_tF T oc idx, ix_obj hp a with
    | some (ci, j), some (c, fs) => if c = ci ∧ j < fs.length ∧ narrow ((ix_tD T ci).2 j).1 v = v ∧ fits ((ix_tD T ci).2 j).1 v = true ∧ (((ix_tD T ci).2 j).2 = false ∨ (ini = true ∧ ci = oc)) then some (.inl (pc + 3, ls, r, ix_put hp a (.inr (c, fs.set j v)))) else none
    | _, _ => none)
  | _ => none
theorem fxk_putfield {idx : Nat} (h : fx_putfield T M.1 M.2.2.2.2.2.1 idx pc ls st hp = some res) : ix_sem T f M (.putfield idx) pc ls st hp = some res := by
  unfold fx_putfield at h
  repeat' (split at h)
  all_goals first | (cases h; done) | (rename_i h1 h2; cases h; simp [ix_sem, ix_ret, ix_alu, ix_loc, ix_hp, ix_len, h1, if_neg h2]; done) | (rename_i h0 _ _ _ h1 h2; cases h; simp [ix_sem, ix_ret, ix_alu, ix_loc, ix_hp, ix_len, h0, h1, if_neg h2]; done) | (cases h; simp_all [ix_sem, ix_ret, ix_alu, ix_loc, ix_hp, ix_len]; done)
noncomputable def fx_arraylength (T : ix_T) (oc : Nat) (ini : Bool)  (pc : Nat) (ls : ix_L) (st : List Value) (hp : ix_H) : Option (ix_S ⊕ (Option Value × ix_H)) := match st with
  | .ref a :: r => (match ix_arr hp a with
    | some (t, n, _) => if t < 3 ∨ (ix_tE T t).isSome = true then some (.inl (pc + 1, ls, .int (Int32.ofNat n) :: r, hp)) else none
    | none => match ix_cns T a with
      | some (n, _) => some (.inl (pc + 1, ls, .int (Int32.ofNat n) :: r, hp))
      | none => none)
  | _ => none
theorem fxk_arraylength  (h : fx_arraylength T M.1 M.2.2.2.2.2.1  pc ls st hp = some res) : ix_sem T f M (.arraylength) pc ls st hp = some res := by
  unfold fx_arraylength at h
  repeat' (split at h)
  all_goals first | (cases h; done) | (rename_i h1 h2; cases h; simp [ix_sem, ix_ret, ix_alu, ix_loc, ix_hp, ix_len, h1, if_neg h2]; done) | (rename_i h0 _ _ _ h1 h2; cases h; simp [ix_sem, ix_ret, ix_alu, ix_loc, ix_hp, ix_len, h0, h1, if_neg h2]; done) | (cases h; simp_all [ix_sem, ix_ret, ix_alu, ix_loc, ix_hp, ix_len]; done)
noncomputable def fx_iaload (T : ix_T) (oc : Nat) (ini : Bool)  (pc : Nat) (ls : ix_L) (st : List Value) (hp : ix_H) : Option (ix_S ⊕ (Option Value × ix_H)) := match st with
  | .int i :: .ref a :: r => (match ix_arr hp a with
    | some (0, n, .inl f) => if i < 0 ∨ n ≤ i.toNatClampNeg then none else some (.inl (pc + 1, ls, .int (f i.toNatClampNeg) :: r, hp))
    | some _ => none
    | none => match ix_cns T a with
      | some (n, f) => if i < 0 ∨ n ≤ i.toNatClampNeg then none else some (.inl (pc + 1, ls, .int (f i.toNatClampNeg) :: r, hp))
      | none => none)
  | _ => none
theorem fxk_iaload  (h : fx_iaload T M.1 M.2.2.2.2.2.1  pc ls st hp = some res) : ix_sem T f M (.iaload) pc ls st hp = some res := by
  unfold fx_iaload at h
  repeat' (split at h)
  all_goals first | (cases h; done) | (rename_i h1 h2; cases h; simp [ix_sem, ix_ret, ix_alu, ix_loc, ix_hp, ix_len, h1, if_neg h2]; done) | (rename_i h0 _ _ _ h1 h2; cases h; simp [ix_sem, ix_ret, ix_alu, ix_loc, ix_hp, ix_len, h0, h1, if_neg h2]; done) | (cases h; simp_all [ix_sem, ix_ret, ix_alu, ix_loc, ix_hp, ix_len]; done)
noncomputable def fx_getstatic (T : ix_T) (oc : Nat) (_ : Bool) (idx : Nat) (pc : Nat) (ls : ix_L) (st : List Value) (hp : ix_H) : Option (ix_S ⊕ (Option Value × ix_H)) := match ix_tS T oc idx with
  | some v => some (.inl (pc + 3, ls, v :: st, hp))
  | none => none
theorem fxk_getstatic {idx : Nat} (h : fx_getstatic T M.1 M.2.2.2.2.2.1 idx pc ls st hp = some res) : ix_sem T f M (.getstatic idx) pc ls st hp = some res := by
  unfold fx_getstatic at h
  repeat' (split at h)
  all_goals first | (cases h; done) | (rename_i h1 h2; cases h; simp [ix_sem, ix_ret, ix_alu, ix_loc, ix_hp, ix_len, h1, if_neg h2]; done) | (rename_i h0 _ _ _ h1 h2; cases h; simp [ix_sem, ix_ret, ix_alu, ix_loc, ix_hp, ix_len, h0, h1, if_neg h2]; done) | (cases h; simp_all [ix_sem, ix_ret, ix_alu, ix_loc, ix_hp, ix_len]; done)
noncomputable def fx_laload (T : ix_T) (oc : Nat) (ini : Bool)  (pc : Nat) (ls : ix_L) (st : List Value) (hp : ix_H) : Option (ix_S ⊕ (Option Value × ix_H)) := match st with
  | .int i :: .ref a :: r => (match ix_arr hp a with
    | some (1, n, .inr (.inl f)) => if i < 0 ∨ n ≤ i.toNatClampNeg then none else some (.inl (pc + 1, ls, .long (f i.toNatClampNeg) :: r, hp))
    | _ => none)
  | _ => none
theorem fxk_laload  (h : fx_laload T M.1 M.2.2.2.2.2.1  pc ls st hp = some res) : ix_sem T f M (.laload) pc ls st hp = some res := by
  unfold fx_laload at h
  repeat' (split at h)
  all_goals first | (cases h; done) | (rename_i h1 h2; cases h; simp [ix_sem, ix_ret, ix_alu, ix_loc, ix_hp, ix_len, h1, if_neg h2]; done) | (rename_i h0 _ _ _ h1 h2; cases h; simp [ix_sem, ix_ret, ix_alu, ix_loc, ix_hp, ix_len, h0, h1, if_neg h2]; done) | (cases h; simp_all [ix_sem, ix_ret, ix_alu, ix_loc, ix_hp, ix_len]; done)
noncomputable def fx_baload (T : ix_T) (oc : Nat) (ini : Bool)  (pc : Nat) (ls : ix_L) (st : List Value) (hp : ix_H) : Option (ix_S ⊕ (Option Value × ix_H)) := match st with
  | .int i :: .ref a :: r => (match ix_arr hp a with
    | some (2, n, .inl f) => if i < 0 ∨ n ≤ i.toNatClampNeg then none else some (.inl (pc + 1, ls, .int (f i.toNatClampNeg) :: r, hp))
    | _ => none)
  | _ => none
theorem fxk_baload  (h : fx_baload T M.1 M.2.2.2.2.2.1  pc ls st hp = some res) : ix_sem T f M (.baload) pc ls st hp = some res := by
  unfold fx_baload at h
  repeat' (split at h)
  all_goals first | (cases h; done) | (rename_i h1 h2; cases h; simp [ix_sem, ix_ret, ix_alu, ix_loc, ix_hp, ix_len, h1, if_neg h2]; done) | (rename_i h0 _ _ _ h1 h2; cases h; simp [ix_sem, ix_ret, ix_alu, ix_loc, ix_hp, ix_len, h0, h1, if_neg h2]; done) | (cases h; simp_all [ix_sem, ix_ret, ix_alu, ix_loc, ix_hp, ix_len]; done)
noncomputable def fx_aaload (T : ix_T) (oc : Nat) (ini : Bool)  (pc : Nat) (ls : ix_L) (st : List Value) (hp : ix_H) : Option (ix_S ⊕ (Option Value × ix_H)) := match st with
  | .int i :: .ref a :: r => (match ix_arr hp a with
    | some (t, n, .inr (.inr (.inr (.inr f)))) => if (ix_tE T t).isSome = true ∧ ¬ (i < 0 ∨ n ≤ i.toNatClampNeg) then some (.inl (pc + 1, ls, va_rf (f i.toNatClampNeg) :: r, hp)) else none
    | _ => none)
  | _ => none
end IYF
end
