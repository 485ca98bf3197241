section
section IYF
variable {T : ix_T} {f : ix_F} {M : ix_M} {pc : Nat} {ls : ix_L} {st : List Value} {hp : ix_H} {res : ix_S ⊕ (Option Value × ix_H)}
theorem fxk_aaload  (h : fx_aaload T M.1 M.2.2.2.2.2.1  pc ls st hp = some res) : ix_sem T f M (.aaload) pc ls st hp = some res := by
  unfold fx_aaload at h
  repeat' (split at h)
  all_goals first | (cases h; done) | (rename_i h1 h2; cases h; simp [ix_sem, ix_ret, ix_alu, ix_loc, ix_hp, ix_len, h1, if_neg h2]; done) | (rename_i h0 _ _ _ h1 h2; cases h; simp [ix_sem, ix_ret, ix_alu, ix_loc, ix_hp, ix_len, h0, h1, if_neg h2]; done) | (cases h; simp_all [ix_sem, ix_ret, ix_alu, ix_loc, ix_hp, ix_len]; done)
noncomputable def fx_iastore (T : ix_T) (oc : Nat) (ini : Bool)  (pc : Nat) (ls : ix_L) (st : List Value) (hp : ix_H) : Option (ix_S ⊕ (Option Value × ix_H)) := match st with
  | .int x :: .int i :: .ref a :: r => (match ix_arr hp a with
    | some (0, n, .inl f) => if i < 0 ∨ n ≤ i.toNatClampNeg then none else some (.inl (pc + 1, ls, r, ix_put hp a (.inl (0, n, .inl (upd f i.toNatClampNeg x)))))
    | _ => none)
  | _ => none
theorem fxk_iastore  (h : fx_iastore T M.1 M.2.2.2.2.2.1  pc ls st hp = some res) : ix_sem T f M (.iastore) pc ls st hp = some res := by
  unfold fx_iastore at h
  repeat' (split at h)
  all_goals first | (cases h; done) | (rename_i h1 h2; cases h; simp [ix_sem, ix_ret, ix_alu, ix_loc, ix_hp, ix_len, h1, if_neg h2]; done) | (rename_i h0 _ _ _ h1 h2; cases h; simp [ix_sem, ix_ret, ix_alu, ix_loc, ix_hp, ix_len, h0, h1, if_neg h2]; done) | (cases h; simp_all [ix_sem, ix_ret, ix_alu, ix_loc, ix_hp, ix_len]; done)
noncomputable def fx_lastore (T : ix_T) (oc : Nat) (ini : Bool)  (pc : Nat) (ls : ix_L) (st : List Value) (hp : ix_H) : Option (ix_S ⊕ (Option Value × ix_H)) := match st with
  | .long x :: .int i :: .ref a :: r => (match ix_arr hp a with
    | some (1, n, .inr (.inl f)) => if i < 0 ∨ n ≤ i.toNatClampNeg then none else some (.inl (pc + 1, ls, r, ix_put hp a (.inl (1, n, .inr (.inl (vp_updL f i.toNatClampNeg x))))))
    | _ => none)
  | _ => none
theorem fxk_lastore  (h : fx_lastore T M.1 M.2.2.2.2.2.1  pc ls st hp = some res) : ix_sem T f M (.lastore) pc ls st hp = some res := by
  unfold fx_lastore at h
  repeat' (split at h)
  all_goals first | (cases h; done) | (rename_i h1 h2; cases h; simp [ix_sem, ix_ret, ix_alu, ix_loc, ix_hp, ix_len, h1, if_neg h2]; done) | (rename_i h0 _ _ _ h1 h2; cases h; simp [ix_sem, ix_ret, ix_alu, ix_loc, ix_hp, ix_len, h0, h1, if_neg h2]; done) | (cases h; simp_all [ix_sem, ix_ret, ix_alu, ix_loc, ix_hp, ix_len]; done)
noncomputable def fx_bastore (T : ix_T) (oc : Nat) (ini : Bool)  (pc : Nat) (ls : ix_L) (st : List Value) (hp : ix_H) : Option (ix_S ⊕ (Option Value × ix_H)) := match st with
  | .int x :: .int i :: .ref a :: r => (match ix_arr hp a with
    | some (2, n, .inl f) => if i < 0 ∨ n ≤ i.toNatClampNeg then none else some (.inl (pc + 1, ls, r, ix_put hp a (.inl (2, n, .inl (upd f i.toNatClampNeg (vp_nar .boolean x))))))
    | _ => none)
  | _ => none
theorem fxk_bastore  (h : fx_bastore T M.1 M.2.2.2.2.2.1  pc ls st hp = some res) : ix_sem T f M (.bastore) pc ls st hp = some res := by
  unfold fx_bastore at h
  repeat' (split at h)
  all_goals first | (cases h; done) | (rename_i h1 h2; cases h; simp [ix_sem, ix_ret, ix_alu, ix_loc, ix_hp, ix_len, h1, if_neg h2]; done) | (rename_i h0 _ _ _ h1 h2; cases h; simp [ix_sem, ix_ret, ix_alu, ix_loc, ix_hp, ix_len, h0, h1, if_neg h2]; done) | (cases h; simp_all [ix_sem, ix_ret, ix_alu, ix_loc, ix_hp, ix_len]; done)
noncomputable def fx_aastore (T : ix_T) (oc : Nat) (ini : Bool)  (pc : Nat) (ls : ix_L) (st : List Value) (hp : ix_H) : Option (ix_S ⊕ (Option Value × ix_H)) := match st with
  | .ref v :: .int i :: .ref a :: r => (match ix_arr hp a, ix_obj hp v with
    | some (t, n, .inr (.inr (.inr (.inr f)))), some (c, _) => if ix_tE T t = some c ∧ ¬ (i < 0 ∨ n ≤ i.toNatClampNeg) then some (.inl (pc + 1, ls, r, ix_put hp a (.inl (t, n, .inr (.inr (.inr (.inr (va_up f i.toNatClampNeg (some v))))))))) else none
    | _, _ => none)
  | _ => none
theorem fxk_aastore  (h : fx_aastore T M.1 M.2.2.2.2.2.1  pc ls st hp = some res) : ix_sem T f M (.aastore) pc ls st hp = some res := by
  unfold fx_aastore at h
  repeat' (split at h)
  all_goals first | (cases h; done) | (rename_i h1 h2; cases h; simp [ix_sem, ix_ret, ix_alu, ix_loc, ix_hp, ix_len, h1, if_neg h2]; done) | (rename_i h0 _ _ _ h1 h2; cases h; simp [ix_sem, ix_ret, ix_alu, ix_loc, ix_hp, ix_len, h0, h1, if_neg h2]; done) | (cases h; simp_all [ix_sem, ix_ret, ix_alu, ix_loc, ix_hp, ix_len]; done)
noncomputable def fx_new (T : ix_T) (oc : Nat) (_ : Bool) (idx : Nat) (pc : Nat) (ls : ix_L) (st : List Value) (hp : ix_H) : Option (ix_S ⊕ (Option Value × ix_H)) := match ix_tC T oc idx with
  | some (ci, _) => if hp.1 < 1000000 then some (.inl (pc + 3, ls, .ref hp.1 :: st, ix_new hp (ix_tD T ci).1 (.inr (ci, (List.range (ix_tD T ci).1).map (fun j => defaultValue ((ix_tD T ci).2 j).1))))) else none
  | _ => none
theorem fxk_new {idx : Nat} (h : fx_new T M.1 M.2.2.2.2.2.1 idx pc ls st hp = some res) : ix_sem T f M (.new idx) pc ls st hp = some res := by
  unfold fx_new at h
  repeat' (split at h)
  all_goals first | (cases h; done) | (cases h; simp_all [ix_sem, ix_ret, ix_alu, ix_loc, ix_hp, ix_len]; done)
noncomputable def fx_newarray (T : ix_T) (oc : Nat) (_ : Bool) (aty : ArrayType) (pc : Nat) (ls : ix_L) (st : List Value) (hp : ix_H) : Option (ix_S ⊕ (Option Value × ix_H)) := match st with
  | .int n :: r => (match ix_zero (ix_aty aty) n.toNatClampNeg with
    | some x => if ¬ n < 0 ∧ n.toNatClampNeg ≤ 1000000 ∧ hp.1 < 1000000 then some (.inl (pc + 2, ls, .ref hp.1 :: r, ix_new hp n.toNatClampNeg (.inl x))) else none
    | none => none)
  | _ => none
theorem fxk_newarray {aty : ArrayType} (h : fx_newarray T M.1 M.2.2.2.2.2.1 aty pc ls st hp = some res) : ix_sem T f M (.newarray aty) pc ls st hp = some res := by
  unfold fx_newarray at h
  repeat' (split at h)
  all_goals first | (cases h; done) | (cases h; simp_all [ix_sem, ix_ret, ix_alu, ix_loc, ix_hp, ix_len]; done)
noncomputable def fx_anewarray (T : ix_T) (oc : Nat) (_ : Bool) (idx : Nat) (pc : Nat) (ls : ix_L) (st : List Value) (hp : ix_H) : Option (ix_S ⊕ (Option Value × ix_H)) := match st with
  | .int n :: r => (match ix_tC T oc idx with
    | some (_, t) => if ¬ n < 0 ∧ n.toNatClampNeg ≤ 1000000 ∧ hp.1 < 1000000 ∧ ¬ t = 0 then some (.inl (pc + 3, ls, .ref hp.1 :: r, ix_new hp n.toNatClampNeg (.inl (t, n.toNatClampNeg, .inr (.inr (.inr (.inr (fun _ => none)))))))) else none
    | _ => none)
  | _ => none
theorem fxk_anewarray {idx : Nat} (h : fx_anewarray T M.1 M.2.2.2.2.2.1 idx pc ls st hp = some res) : ix_sem T f M (.anewarray idx) pc ls st hp = some res := by
  unfold fx_anewarray at h
  repeat' (split at h)
  all_goals first | (cases h; done) | (cases h; simp_all [ix_sem, ix_ret, ix_alu, ix_loc, ix_hp, ix_len]; done)
noncomputable def fx_ldc (T : ix_T) (oc : Nat) (_ : Bool) (idx : Nat) (pc : Nat) (ls : ix_L) (st : List Value) (hp : ix_H) : Option (ix_S ⊕ (Option Value × ix_H)) := match ix_tK T oc idx with
  | some (.int v) => some (.inl (pc + 2, ls, .int v :: st, hp))
  | _ => none
theorem fxk_ldc {idx : Nat} (h : fx_ldc T M.1 M.2.2.2.2.2.1 idx pc ls st hp = some res) : ix_sem T f M (.ldc idx) pc ls st hp = some res := by
  unfold fx_ldc at h
  repeat' (split at h)
  all_goals first | (cases h; done) | (cases h; simp_all [ix_sem, ix_ret, ix_alu, ix_loc, ix_hp, ix_len]; done)
noncomputable def fx_ldc_w (T : ix_T) (oc : Nat) (_ : Bool) (idx : Nat) (pc : Nat) (ls : ix_L) (st : List Value) (hp : ix_H) : Option (ix_S ⊕ (Option Value × ix_H)) := match ix_tK T oc idx with
  | some (.int v) => some (.inl (pc + 3, ls, .int v :: st, hp))
  | _ => none
theorem fxk_ldc_w {idx : Nat} (h : fx_ldc_w T M.1 M.2.2.2.2.2.1 idx pc ls st hp = some res) : ix_sem T f M (.ldc_w idx) pc ls st hp = some res := by
  unfold fx_ldc_w at h
  repeat' (split at h)
  all_goals first | (cases h; done) | (cases h; simp_all [ix_sem, ix_ret, ix_alu, ix_loc, ix_hp, ix_len]; done)
noncomputable def fx_ldc2_w (T : ix_T) (oc : Nat) (_ : Bool) (idx : Nat) (pc : Nat) (ls : ix_L) (st : List Value) (hp : ix_H) : Option (ix_S ⊕ (Option Value × ix_H)) := match ix_tK T oc idx with
  | some (.long v) => some (.inl (pc + 3, ls, .long v :: st, hp))
  | _ => none
theorem fxk_ldc2_w {idx : Nat} (h : fx_ldc2_w T M.1 M.2.2.2.2.2.1 idx pc ls st hp = some res) : ix_sem T f M (.ldc2_w idx) pc ls st hp = some res := by
  unfold fx_ldc2_w at h
  repeat' (split at h)
  all_goals first | (cases h; done) | (cases h; simp_all [ix_sem, ix_ret, ix_alu, ix_loc, ix_hp, ix_len]; done)
noncomputable def fx_return (ret : Option FieldType) (st : List Value) (hp : ix_H) : Option (ix_S ⊕ (Option Value × ix_H)) := match st, ret with
  | [], none => some (.inr (none, hp))
  | _, _ => none
theorem fxk_return (h : fx_return M.2.2.2.2.1 st hp = some res) : ix_sem T f M .return_ pc ls st hp = some res := by
  unfold fx_return at h
  split at h
  · rename_i hr
    cases h
    simp [ix_sem, ix_ret, hr]
  · cases h
noncomputable def fx_ireturn (ret : Option FieldType) (st : List Value) (hp : ix_H) : Option (ix_S ⊕ (Option Value × ix_H)) := match st, ret with
  | [.int v], some ty => if narrow ty (.int v) = .int v then some (.inr (some (.int v), hp)) else none
  | _, _ => none
theorem fxk_ireturn (h : fx_ireturn M.2.2.2.2.1 st hp = some res) : ix_sem T f M .ireturn pc ls st hp = some res := by
  unfold fx_ireturn at h
  split at h
  · rename_i hr
    split at h
    · rename_i hn
      cases h
      simp [ix_sem, ix_ret, hr, hn]
    · cases h
  · cases h
noncomputable def fx_lreturn (ret : Option FieldType) (st : List Value) (hp : ix_H) : Option (ix_S ⊕ (Option Value × ix_H)) := match st with
  | [.long v] => if ret = some .long then some (.inr (some (.long v), hp)) else none
  | _ => none
theorem fxk_lreturn (h : fx_lreturn M.2.2.2.2.1 st hp = some res) : ix_sem T f M .lreturn pc ls st hp = some res := by
  unfold fx_lreturn at h
  split at h
  · split at h
    · rename_i hn
      cases h
      simp [ix_sem, ix_ret, hn]
    · cases h
  · cases h
/-- calls: as they stand -/
noncomputable def fx_call (T : ix_T) (f : ix_F) (oc : Nat) (i : Instr) (pc : Nat) (ls : ix_L) (st : List Value) (hp : ix_H) : Option (ix_S ⊕ (Option Value × ix_H)) := match ix_cal T f oc i st hp with
  | some (st', hp') => some (.inl (pc + 3, ls, st', hp'))
  | none => none
theorem fxk_call {i : Instr} (hi : (∃ n, i = .invokevirtual n) ∨ (∃ n, i = .invokespecial n) ∨ ∃ n, i = .invokestatic n) (h : fx_call T f M.1 i pc ls st hp = some res) : ix_sem T f M i pc ls st hp = some res := by
  unfold fx_call at h
  split at h
  · rename_i hc
    cases h
    rcases hi with ⟨n, rfl⟩ | ⟨n, rfl⟩ | ⟨n, rfl⟩ <;> simp [ix_sem, ix_ret, ix_alu, ix_loc, ix_hp, ix_br, hc, ix_len]
  · cases h
end IYF
end
