section
/-- calls: what stands on the stack behind one, and the cells -/
noncomputable def ix_cal (T : ix_T) (f : ix_F) (oc : Nat) : Instr → List Value → ix_H → Option (List Value × ix_H)
  | .invokespecial idx, st, hp => match ix_tI T oc idx with
    | some (0, _, _) => (match st with
      | .ref _ :: rest => if ix_cats rest ≤ 8 then some (rest, hp) else none
      | _ => none)
    | some (kd, mid, na) => if kd = 1 ∨ kd = 2 then (match st.drop na with
      | .ref a :: rest => if ix_cats rest ≤ 8 ∧ na ≤ st.length then (match f mid (.ref a :: (st.take na).reverse) hp with
        | some (none, hp') => some (rest, hp')
        | _ => none) else none
      | _ => none) else none
    | none => none
  | .invokevirtual idx, st, hp => match ix_tI T oc idx with
    | some (kd, mid, na) => if kd = 3 ∨ kd = 4 then (match st.drop na, ix_tM T mid with
      | .ref a :: rest, some M => (match ix_obj hp a with
        | some (c, _) => if c = M.1 ∧ ix_cats rest ≤ 8 ∧ na ≤ st.length then (match f mid (.ref a :: (st.take na).reverse) hp with
          | some (rv, hp') => some (rv.toList ++ rest, hp')
          | none => none) else none
        | none => none)
      | _, _ => none) else if kd = 8 then (match st.drop na with
      | .ref a :: rest => (match ix_cno T a with
        | some _ => if ix_cats rest ≤ 8 ∧ na ≤ st.length then (match f mid (.ref a :: (st.take na).reverse) hp with
          | some (rv, hp') => some (rv.toList ++ rest, hp')
          | none => none) else none
        | none => none)
      | _ => none) else none
    | none => none
  | .invokestatic idx, st, hp => match ix_tI T oc idx with
    | some (7, _, _) => ix_acp hp st
    | some (kd, mid, na) => if (kd = 5 ∨ kd = 6) ∧ ix_cats (st.drop na) ≤ 8 ∧ na ≤ st.length then (match f mid (st.take na).reverse hp with
      | some (rv, hp') => some (rv.toList ++ st.drop na, hp')
      | none => none) else match ix_mth kd st with
      | some st' => some (st', hp)
      | none => none
    | none => none
  | _, _, _ => none
/-- an answer -/
noncomputable def ix_ret (ret : Option FieldType) : Instr → List Value → Option (Option Value)
  | .return_, [] => match ret with
    | none => some none
    | some _ => none
  | .ireturn, [.int v] => match ret with
    | some ty => if narrow ty (.int v) = .int v then some (some (.int v)) else none
    | none => none
  | .lreturn, [.long v] => if ret = some .long then some (some (.long v)) else none
  | .areturn, [.ref a] => match ret with
    | some (.object _) => some (some (.ref a))
    | some (.array _) => some (some (.ref a))
    | _ => none
  | _, _ => none
noncomputable def ix_one (T : ix_T) (f : ix_F) (M : ix_M) : ix_S → Option (ix_S ⊕ (Option Value × ix_H))
  | (pc, ls, st, hp) => match M.2.2.2.2.2.2 pc with
    | none => none
    | some i => match ix_ret M.2.2.2.2.1 i st with
      | some rv => some (.inr (rv, hp))
      | none => match ix_alu i st with
        | some st' => some (.inl (pc + ix_len i, ls, st', hp))
        | none => match ix_loc i M.2.2.2.1 ls st with
          | some (ls', st') => some (.inl (pc + ix_len i, ls', st', hp))
          | none => match ix_hp T M.1 M.2.2.2.2.2.1 i st hp with
            | some (st', hp') => some (.inl (pc + ix_len i, ls, st', hp'))
            | none => match ix_br i pc st with
              | some (pc', st') => some (.inl (pc', ls, st', hp))
              | none => match ix_cal T f M.1 i st hp with
                | some (st', hp') => some (.inl (pc + ix_len i, ls, st', hp'))
                | none => none
noncomputable def ix_iter (T : ix_T) (f : ix_F) (M : ix_M) : Nat → ix_S → Option (ix_S ⊕ (Option Value × ix_H))
  | 0, σ => ix_one T f M σ
  | k + 1, σ => match ix_iter T f M k σ with
    | some (.inl σ') => ix_iter T f M k σ'
    | x => x
noncomputable def ix_run (T : ix_T) (k : Nat) : Nat → ix_F
  | 0, _, _, _ => none
  | d + 1, mid, args, hp => match ix_tM T mid with
    | none => none
    | some M => if (lg_sl args).length ≤ M.2.2.2.1 then (match ix_iter T (ix_run T k d) M k (0, lv_args 0 args, [], hp) with
      | some (.inr r) => some r
      | _ => none) else none
end
section
/-! ===== each instruction of the interpreter is the machine's: stack, locals, branches ===== -/
section IX2
variable {p : Program} {l : Launch} {e : Env} {R : Room} {s : State} {m : MethodId} {args : Array Value} {below : List Frame} {meth : Method} {c : Code} {H : Heap} {locs : List Loc} {cells slots : Nat} {Q : State → Prop}
variable {cc : ByteArray} {pc : Nat} {arr : Array Slot} {ad : Nat → Nat}
set_option maxHeartbeats 4000000 in
theorem ix_alu_ok (hx : p.tables.exec = Jvm.exec) (hb : c.code = cc) {i : Instr} {st st' : List Value} (hd : decode cc pc = .ok (i, ix_len i)) (h : ix_alu i st = some st') (k : W p l e R s m args below meth c H locs cells slots Q (F0 m (pc + ix_len i) arr (st'.map (ix_v ad)))) : W p l e R s m args below meth c H locs cells slots Q (F0 m pc arr (st.map (ix_v ad))) := by
  unfold ix_alu at h
  split at h
  · cases h
    exact lv_null hx hb hd k
  · cases h
    exact lv_iconst hx hb hd rfl k
  · cases h
    exact lv_bipush hx hb hd rfl k
  · cases h
    exact lv_sipush hx hb hd rfl k
  · cases h
    exact lv_lconst hx hb hd rfl k
  · cases h
    exact lv_iadd hx hb hd k
  · cases h
    exact lv_isub hx hb hd k
  · cases h
    exact lv_imul hx hb hd k
  · cases h
    exact lv_iand hx hb hd k
  · cases h
    exact lv_ior hx hb hd k
  · cases h
    exact lv_ixor hx hb hd k
  · split at h
    · cases h
    · rename_i hy
      cases h
      exact lv_idiv hx hb hd hy k
  · split at h
    · cases h
    · rename_i hy
      cases h
      exact lv_irem hx hb hd hy k
  · cases h
    exact lv_ineg hx hb hd k
  · cases h
    exact lv_ishl hx hb hd k
  · cases h
    exact lv_ishr hx hb hd k
  · cases h
    exact lv_iushr hx hb hd rfl k
  · cases h
    exact lv_ladd hx hb hd k
  · cases h
    exact lv_lsub hx hb hd k
  · cases h
    exact lv_lmul hx hb hd k
  · cases h
    exact lv_land hx hb hd k
  · cases h
    exact lv_lor hx hb hd k
  · cases h
    exact lv_lxor hx hb hd k
  · split at h
    · cases h
    · rename_i hy
      cases h
      exact lv_ldiv hx hb hd hy k
  · split at h
    · cases h
    · rename_i hy
      cases h
      exact lv_lrem hx hb hd hy k
  · cases h
    exact lv_lneg hx hb hd k
  · cases h
    exact lv_lshl hx hb hd rfl k
  · cases h
    exact lv_lshr hx hb hd rfl k
  · cases h
    exact lv_lushr hx hb hd rfl k
  · cases h
    exact W.lcmp hx hb hd k
  · cases h
    exact lv_i2l hx hb hd rfl k
  · cases h
    exact lv_l2i hx hb hd rfl k
  · cases h
    exact lv_i2b hx hb hd rfl k
  · cases h
    exact lv_i2s hx hb hd rfl k
  · cases h
    exact lv_i2c hx hb hd rfl k
  · split at h
    · rename_i ha
      cases h
      exact lv_dup hx hb hd ((ix_v_cat ad _).trans ha) k
    · cases h
  · split at h
    · rename_i ha
      cases h
      exact lv_pop hx hb hd ((ix_v_cat ad _).trans ha) k
    · cases h
  · split at h
    · rename_i ha
      cases h
      exact lv_dup_x1 hx hb hd ((ix_v_cat ad _).trans ha.1) ((ix_v_cat ad _).trans ha.2) k
    · cases h
  · split at h
    · rename_i ha
      cases h
      exact lv_dup_x2 hx hb hd ((ix_v_cat ad _).trans ha.1) ((ix_v_cat ad _).trans ha.2.1) ((ix_v_cat ad _).trans ha.2.2) k
    · cases h
  · split at h
    · rename_i ha
      cases h
      exact lv_dup2_11 hx hb hd ((ix_v_cat ad _).trans ha.1) ((ix_v_cat ad _).trans ha.2) k
    · cases h
  · split at h
    · rename_i ha
      cases h
      exact lv_dup2_x1_2 hx hb hd ((ix_v_cat ad _).trans ha.1) ((ix_v_cat ad _).trans ha.2) k
    · cases h
  · split at h
    · rename_i ha
      cases h
      exact lv_dup2_x2_2 hx hb hd ((ix_v_cat ad _).trans ha.1) ((ix_v_cat ad _).trans ha.2.1) ((ix_v_cat ad _).trans ha.2.2) k
    · cases h
  · split at h
    · rename_i ha
      cases h
      exact lv_pop2_2 hx hb hd ((ix_v_cat ad _).trans ha) k
    · cases h
  · cases h
end IX2
end
