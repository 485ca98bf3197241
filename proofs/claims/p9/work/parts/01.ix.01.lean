section
/-- System.arraycopy between two rows of whole numbers -/
noncomputable def ix_acp (hp : ix_H) : List Value → Option (List Value × ix_H)
  | .int n :: .int dp :: .ref d :: .int sp :: .ref a :: st => match ix_arr hp a, ix_arr hp d with
    | some (0, n0, .inl f), some (0, n1, .inl g) => if ¬ sp < 0 ∧ ¬ dp < 0 ∧ ¬ n < 0 ∧ sp.toNatClampNeg + n.toNatClampNeg ≤ n0 ∧ dp.toNatClampNeg + n.toNatClampNeg ≤ n1 ∧ ix_cats st ≤ 8 then some (st, ix_put hp d (.inl (0, n1, .inl (va_cpy f g sp.toNatClampNeg dp.toNatClampNeg n.toNatClampNeg)))) else none
    | some (1, n0, .inr (.inl f)), some (1, n1, .inr (.inl g)) => if ¬ sp < 0 ∧ ¬ dp < 0 ∧ ¬ n < 0 ∧ sp.toNatClampNeg + n.toNatClampNeg ≤ n0 ∧ dp.toNatClampNeg + n.toNatClampNeg ≤ n1 ∧ ix_cats st ≤ 8 then some (st, ix_put hp d (.inl (1, n1, .inr (.inl (va_cpy f g sp.toNatClampNeg dp.toNatClampNeg n.toNatClampNeg))))) else none
    | _, _ => none
  | _ => none
noncomputable abbrev ix_F : Type := Nat → List Value → ix_H → Option (Option Value × ix_H)
/-- Math.min, max of ints, min of longs -/
noncomputable def ix_mth : Nat → List Value → Option (List Value)
  | 9, .int y :: .int x :: r => if ix_cats r ≤ 8 then some (.int (if y < x then y else x) :: r) else none
  | 10, .int y :: .int x :: r => if ix_cats r ≤ 8 then some (.int (if x < y then y else x) :: r) else none
  | 11, .long y :: .long x :: r => if ix_cats r ≤ 8 then some (.long (if y < x then y else x) :: r) else none
  | _, _ => none
/-- calls: what stands on the stack behind one, and the cells -/
noncomputable def ix_cal (T : ix_T) (f : ix_F) (oc : Nat) : Instr → List Value → ix_H → Option (List Value × ix_H)
  | .invokespecial idx, st, hp => match ix_tI T oc idx with
    | some (0, _, _) => (match st with
      | .ref _ :: rest => if ix_cats rest ≤ 8 then some (rest, hp) else none
      | _ => none)
    | some (kd, mid, na) => if kd = 1 ∨ kd = 2 then (match st.drop na with
      | .ref a :: rest => if ix_cats rest ≤ 8 ∧ na ≤ st.length then (match f mid (.ref a :: (st.take na).reverse) hp with
        | some (none, hp') => some (rest, hp')
        | _ => none) else none
      | _ => none) else none
    | none => none
  | .invokevirtual idx, st, hp => match ix_tI T oc idx with
    | some (kd, mid, na) => if kd = 3 ∨ kd = 4 then (match st.drop na, ix_tM T mid with
      | .ref a :: rest, some M => (match ix_obj hp a with
        | some (c, _) => if c = M.1 ∧ ix_cats rest ≤ 8 ∧ na ≤ st.length then (match f mid (.ref a :: (st.take na).reverse) hp with
          | some (rv, hp') => some (rv.toList ++ rest, hp')
          | none => none) else none
        | none => none)
      | _, _ => none) else if kd = 8 then (match st.drop na with
      | .ref a :: rest => (match ix_cno T a with
        | some _ => if ix_cats rest ≤ 8 ∧ na ≤ st.length then (match f mid (.ref a :: (st.take na).reverse) hp with
          | some (rv, hp') => some (rv.toList ++ rest, hp')
          | none => none) else none
        | none => none)
      | _ => none) else none
    | none => none
  | .invokestatic idx, st, hp => match ix_tI T oc idx with
    | some (7, _, _) => ix_acp hp st
    | some (kd, mid, na) => if (kd = 5 ∨ kd = 6) ∧ ix_cats (st.drop na) ≤ 8 ∧ na ≤ st.length then (match f mid (st.take na).reverse hp with
      | some (rv, hp') => some (rv.toList ++ st.drop na, hp')
      | none => none) else match ix_mth kd st with
      | some st' => some (st', hp)
      | none => none
    | none => none
  | _, _, _ => none
/-- an answer -/
noncomputable def ix_ret (ret : Option FieldType) : Instr → List Value → Option (Option Value)
  | .return_, [] => match ret with
    | none => some none
    | some _ => none
  | .ireturn, [.int v] => match ret with
    | some ty => if narrow ty (.int v) = .int v then some (some (.int v)) else none
    | none => none
  | .lreturn, [.long v] => if ret = some .long then some (some (.long v)) else none
  | .areturn, [.ref a] => match ret with
    | some (.object _) => some (some (.ref a))
    | some (.array _) => some (some (.ref a))
    | _ => none
  | _, _ => none
noncomputable def ix_one (T : ix_T) (f : ix_F) (M : ix_M) : ix_S → Option (ix_S ⊕ (Option Value × ix_H))
  | (pc, ls, st, hp) => match M.2.2.2.2.2.2 pc with
    | none => none
    | some i => match ix_ret M.2.2.2.2.1 i st with
      | some rv => some (.inr (rv, hp))
      | none => match ix_alu i st with
        | some st' => some (.inl (pc + ix_len i, ls, st', hp))
        | none => match ix_loc i M.2.2.2.1 ls st with
          | some (ls', st') => some (.inl (pc + ix_len i, ls', st', hp))
          | none => match ix_hp T M.1 M.2.2.2.2.2.1 i st hp with
            | some (st', hp') => some (.inl (pc + ix_len i, ls, st', hp'))
            | none => match ix_br i pc st with
              | some (pc', st') => some (.inl (pc', ls, st', hp))
              | none => match ix_cal T f M.1 i st hp with
                | some (st', hp') => some (.inl (pc + ix_len i, ls, st', hp'))
                | none => none
noncomputable def ix_iter (T : ix_T) (f : ix_F) (M : ix_M) : Nat → ix_S → Option (ix_S ⊕ (Option Value × ix_H))
  | 0, σ => ix_one T f M σ
  | k + 1, σ => match ix_iter T f M k σ with
    | some (.inl σ') => ix_iter T f M k σ'
    | x => x
noncomputable def ix_run (T : ix_T) (k : Nat) : Nat → ix_F
  | 0, _, _, _ => none
  | d + 1, mid, args, hp => match ix_tM T mid with
    | none => none
    | some M => if (lg_sl args).length ≤ M.2.2.2.1 then (match ix_iter T (ix_run T k d) M k (0, lv_args 0 args, [], hp) with
      | some (.inr r) => some r
      | _ => none) else none
end
section
/-! ===== each instruction of the interpreter is the machine's: stack, locals, branches ===== -/
section IX2
variable {p : Program} {l : Launch} {e : Env} {R : Room} {s : State} {m : MethodId} {args : Array Value} {below : List Frame} {meth : Method} {c : Code} {H : Heap} {locs : List Loc} {cells slots : Nat} {Q : State → Prop}
variable {cc : ByteArray} {pc : Nat} {arr : Array Slot} {ad : Nat → Nat}
set_option maxHeartbeats 4000000 in
theorem ix_alu_ok (hx : p.tables.exec = Jvm.exec) (hb : c.code = cc) {i : Instr} {st st' : List Value} (hd : decode cc pc = .ok (i, ix_len i)) (h : ix_alu i st = some st') (k : W p l e R s m args below meth c H locs cells slots Q (F0 m (pc + ix_len i) arr (st'.map (ix_v ad)))) : W p l e R s m args below meth c H locs cells slots Q (F0 m pc arr (st.map (ix_v ad))) := by
  unfold ix_alu at h
  split at h
  · cases h
    exact lv_null hx hb hd k
  · cases h
    exact lv_iconst hx hb hd rfl k
  · cases h
    exact lv_bipush hx hb hd rfl k
  · cases h
    exact lv_sipush hx hb hd rfl k
  · cases h
    exact lv_lconst hx hb hd rfl k
  · cases h
    exact lv_iadd hx hb hd k
  · cases h
    exact lv_isub hx hb hd k
  · cases h
    exact lv_imul hx hb hd k
  · cases h
    exact lv_iand hx hb hd k
  · cases h
    exact lv_ior hx hb hd k
  · cases h
    exact lv_ixor hx hb hd k
  · split at h
    · cases h
    · rename_i hy
      cases h
      exact lv_idiv hx hb hd hy k
  · split at h
    · cases h
    · rename_i hy
      cases h
      exact lv_irem hx hb hd hy k
  · cases h
    exact lv_ineg hx hb hd k
  · cases h
    exact lv_ishl hx hb hd k
  · cases h
    exact lv_ishr hx hb hd k
  · cases h
    exact lv_iushr hx hb hd rfl k
  · cases h
    exact lv_ladd hx hb hd k
  · cases h
    exact lv_lsub hx hb hd k
  · cases h
    exact lv_lmul hx hb hd k
  · cases h
    exact lv_land hx hb hd k
  · cases h
    exact lv_lor hx hb hd k
  · cases h
    exact lv_lxor hx hb hd k
  · split at h
    · cases h
    · rename_i hy
      cases h
      exact lv_ldiv hx hb hd hy k
  · split at h
    · cases h
    · rename_i hy
      cases h
      exact lv_lrem hx hb hd hy k
  · cases h
    exact lv_lneg hx hb hd k
  · cases h
    exact lv_lshl hx hb hd rfl k
  · cases h
    exact lv_lshr hx hb hd rfl k
  · cases h
    exact lv_lushr hx hb hd rfl k
  · cases h
    exact W.lcmp hx hb hd k
  · cases h
    exact lv_i2l hx hb hd rfl k
  · cases h
    exact lv_l2i hx hb hd rfl k
  · cases h
    exact lv_i2b hx hb hd rfl k
  · cases h
    exact lv_i2s hx hb hd rfl k
  · cases h
    exact lv_i2c hx hb hd rfl k
  · split at h
    · rename_i ha
      cases h
      exact lv_dup hx hb hd ((ix_v_cat ad _).trans ha) k
    · cases h
  · split at h
    · rename_i ha
      cases h
      exact lv_pop hx hb hd ((ix_v_cat ad _).trans ha) k
    · cases h
  · split at h
    · rename_i ha
      cases h
      exact lv_dup_x1 hx hb hd ((ix_v_cat ad _).trans ha.1) ((ix_v_cat ad _).trans ha.2) k
    · cases h
  · split at h
    · rename_i ha
      cases h
      exact lv_dup_x2 hx hb hd ((ix_v_cat ad _).trans ha.1) ((ix_v_cat ad _).trans ha.2.1) ((ix_v_cat ad _).trans ha.2.2) k
    · cases h
  · split at h
    · rename_i ha
      cases h
      exact lv_dup2_11 hx hb hd ((ix_v_cat ad _).trans ha.1) ((ix_v_cat ad _).trans ha.2) k
    · cases h
  · split at h
    · rename_i ha
      cases h
      exact lv_dup2_x1_2 hx hb hd ((ix_v_cat ad _).trans ha.1) ((ix_v_cat ad _).trans ha.2) k
    · cases h
  · split at h
    · rename_i ha
      cases h
      exact lv_dup2_x2_2 hx hb hd ((ix_v_cat ad _).trans ha.1) ((ix_v_cat ad _).trans ha.2.1) ((ix_v_cat ad _).trans ha.2.2) k
    · cases h
  · split at h
    · rename_i ha
      cases h
      exact lv_pop2_2 hx hb hd ((ix_v_cat ad _).trans ha) k
    · cases h
  · cases h
set_option maxHeartbeats 4000000 in
theorem ix_loc_ok (hx : p.tables.exec = Jvm.exec) (hb : c.code = cc) {i : Instr} {st st' : List Value} {nL : Nat} {ls ls' : ix_L} (hl : lv_has arr nL (ix_l ad ls)) (hd : decode cc pc = .ok (i, ix_len i)) (h : ix_loc i nL ls st = some (ls', st')) (k : ∀ arr' : Array Slot, lv_has arr' nL (ix_l ad ls') → W p l e R s m args below meth c H locs cells slots Q (F0 m (pc + ix_len i) arr' (st'.map (ix_v ad)))) : W p l e R s m args below meth c H locs cells slots Q (F0 m pc arr (st.map (ix_v ad))) := by
  unfold ix_loc at h
  split at h
  · split at h
    · rename_i hx1
      cases h
      exact lv_iload_n hx hb hd rfl (ix_ld_has hl hx1) (k arr hl)
    · cases h
  · split at h
    · rename_i hx1
      cases h
      exact lv_iload hx hb hd (ix_ld_has hl hx1) (k arr hl)
    · cases h
  · split at h
    · rename_i hx1
      cases h
      exact lv_lload_n hx hb hd rfl (ix_ld_has hl hx1) (k arr hl)
    · cases h
  · split at h
    · rename_i hx1
      cases h
      exact lv_lload hx hb hd (ix_ld_has hl hx1) (k arr hl)
    · cases h
  · split at h
    · rename_i hx1
      cases h
      exact lv_aload_n hx hb hd rfl (ix_ld_has hl hx1) (k arr hl)
    · cases h
  · split at h
    · rename_i hx1
      cases h
      exact lv_aload hx hb hd (ix_ld_has hl hx1) (k arr hl)
    · cases h
  · split at h
    · rename_i hn
      cases h
      exact lv_istore_n hx hb hd rfl hl hn (ix_l_st1 ad ls _ (.int _)) k
    · cases h
  · split at h
    · rename_i hn
      cases h
      exact lv_istore hx hb hd hl hn (ix_l_st1 ad ls _ (.int _)) k
    · cases h
  · split at h
    · rename_i hn
      cases h
      exact lv_lstore_n hx hb hd rfl hl hn (ix_l_st2 ad ls _ (.long _)) k
    · cases h
  · split at h
    · rename_i hn
      cases h
      exact lv_lstore hx hb hd hl hn (ix_l_st2 ad ls _ (.long _)) k
    · cases h
  · split at h
    · rename_i hn
      cases h
      exact lv_astore_n hx hb hd rfl hl hn (ix_l_st1 ad ls _ (.ref _)) k
    · cases h
  · split at h
    · rename_i hn
      cases h
      exact lv_astore hx hb hd hl hn (ix_l_st1 ad ls _ (.ref _)) k
    · cases h
  · split at h
    · rename_i hx1
      split at h
      · rename_i hn
        cases h
        obtain ⟨k0, hk0⟩ := List.getElem?_of_mem (List.mem_map.mpr ⟨_, ix_ld_mem hx1, rfl⟩ : _ ∈ ix_l ad ls)
        exact lv_iinc hx hb hd hl hk0 rfl hn (ix_l_st1 ad ls _ (.int _)) k
      · cases h
    · cases h
  · cases h
theorem ix_if_ok (hx : p.tables.exec = Jvm.exec) (hb : c.code = cc) {cd : Jvm.ClassFile.Cond} {off : Int} {x : Int32} {t : Nat} {rest : List Value} (hd : decode cc pc = .ok (.ifCond cd off, 3)) (ht : ix_tg pc off = some t) (kt : ix_cb cd x 0 = true → W p l e R s m args below meth c H locs cells slots Q (F0 m t arr rest)) (kf : ix_cb cd x 0 = false → W p l e R s m args below meth c H locs cells slots Q (F0 m (pc + 3) arr rest)) : W p l e R s m args below meth c H locs cells slots Q (F0 m pc arr (.int x :: rest)) := by
  cases cd with
  | eq => exact lv_if_eq hx hb hd (ix_tg_ok ht) (fun q => kt (decide_eq_true q)) (fun q => kf (decide_eq_false q))
  | ne => exact lv_if_ne hx hb hd (ix_tg_ok ht) (fun q => kt (decide_eq_true q)) (fun q => kf (decide_eq_false (fun z => z q)))
  | lt => exact lv_if_lt hx hb hd (ix_tg_ok ht) (fun q => kt (decide_eq_true q)) (fun q => kf (decide_eq_false q))
  | ge => exact lv_if_ge hx hb hd (ix_tg_ok ht) (fun q => kt (decide_eq_true q)) (fun q => kf (decide_eq_false q))
  | gt => exact lv_if_gt hx hb hd (ix_tg_ok ht) (fun q => kt (decide_eq_true q)) (fun q => kf (decide_eq_false q))
  | le => exact lv_if_le hx hb hd (ix_tg_ok ht) (fun q => kt (decide_eq_true q)) (fun q => kf (decide_eq_false q))
theorem ix_icmp_ok (hx : p.tables.exec = Jvm.exec) (hb : c.code = cc) {cd : Jvm.ClassFile.Cond} {off : Int} {x y : Int32} {t : Nat} {rest : List Value} (hd : decode cc pc = .ok (.if_icmp cd off, 3)) (ht : ix_tg pc off = some t) (kt : ix_cb cd x y = true → W p l e R s m args below meth c H locs cells slots Q (F0 m t arr rest)) (kf : ix_cb cd x y = false → W p l e R s m args below meth c H locs cells slots Q (F0 m (pc + 3) arr rest)) : W p l e R s m args below meth c H locs cells slots Q (F0 m pc arr (.int y :: .int x :: rest)) := by
  cases cd with
  | eq => exact lv_icmp_eq hx hb hd (ix_tg_ok ht) (fun q => kt (decide_eq_true q)) (fun q => kf (decide_eq_false q))
  | ne => exact lv_icmp_ne hx hb hd (ix_tg_ok ht) (fun q => kt (decide_eq_true q)) (fun q => kf (decide_eq_false (fun z => z q)))
  | lt => exact lv_icmp_lt hx hb hd (ix_tg_ok ht) (fun q => kt (decide_eq_true q)) (fun q => kf (decide_eq_false q))
  | ge => exact lv_icmp_ge hx hb hd (ix_tg_ok ht) (fun q => kt (decide_eq_true q)) (fun q => kf (decide_eq_false q))
  | gt => exact lv_icmp_gt hx hb hd (ix_tg_ok ht) (fun q => kt (decide_eq_true q)) (fun q => kf (decide_eq_false q))
  | le => exact lv_icmp_le hx hb hd (ix_tg_ok ht) (fun q => kt (decide_eq_true q)) (fun q => kf (decide_eq_false q))
theorem ix_d3 {i : Instr} {len n : Nat} (hd : decode cc pc = .ok (i, len)) (hlen : ix_len i = 0 ∨ ix_len i = len) (hn : ix_len i = n + 1) : decode cc pc = .ok (i, n + 1) := by
  rcases hlen with h | h
  · omega
  · rw [hd, ← h, hn]
set_option maxHeartbeats 4000000 in
theorem ix_br_ok (hx : p.tables.exec = Jvm.exec) (hb : c.code = cc) {base : Nat} (had : ∀ a : Nat, a < 1000000 → ad a = base + a) {i : Instr} {len pc' : Nat} {st st' : List Value} (hd : decode cc pc = .ok (i, len)) (hlen : ix_len i = 0 ∨ ix_len i = len) (h : ix_br i pc st = some (pc', st')) (k : W p l e R s m args below meth c H locs cells slots Q (F0 m pc' arr (st'.map (ix_v ad)))) : W p l e R s m args below meth c H locs cells slots Q (F0 m pc arr (st.map (ix_v ad))) := by
  unfold ix_br at h
  split at h
  · have hd := ix_d3 hd hlen rfl
    split at h
    · rename_i ht
      cases h
      exact lv_goto hx hb hd (ix_tg_ok ht) k
    · cases h
  · have hd := ix_d3 hd hlen rfl
    split at h
    · rename_i ht
      refine ix_if_ok hx hb hd ht (fun hc => ?_) (fun hc => ?_)
      · rw [hc] at h
        cases h
        exact k
      · rw [hc] at h
        cases h
        exact k
    · cases h
  · have hd := ix_d3 hd hlen rfl
    split at h
    · rename_i ht
      refine ix_icmp_ok hx hb hd ht (fun hc => ?_) (fun hc => ?_)
      · rw [hc] at h
        cases h
        exact k
      · rw [hc] at h
        cases h
        exact k
    · cases h
  · have hd := ix_d3 hd hlen rfl
    split at h
    · rename_i y x st0 _ _ t ht
      split at h
      · rename_i hxy
        refine lv_acmp_ne (rx := some (ad x)) (ry := some (ad y)) hx hb hd (ix_tg_ok ht) (fun hn => ?_) (fun hn => ?_)
        · cases hc : Nat.beq x y with
          | true =>
            have e : x = y := Nat.eq_of_beq_eq_true hc
            exact absurd (by rw [e]) hn
          | false =>
            rw [hc] at h
            cases h
            exact k
        · have e : x = y := by
            have := Option.some.inj hn
            rw [had x hxy.1, had y hxy.2] at this
            exact Nat.add_left_cancel this
          subst e
          have hc : Nat.beq x x = true := by simp
          rw [hc] at h
          cases h
          exact k
      · cases h
    · cases h
  · split at h
    · rename_i ho
      split at h
      · rename_i ht
        cases h
        exact lv_tableOut hx hb hd ho (ix_tg_ok ht) k
      · cases h
    · rename_i ho
      split at h
      · rename_i off hoff
        split at h
        · rename_i ht
          cases h
          exact lv_tableIn hx hb hd (fun q => ho (Or.inl q)) (fun q => ho (Or.inr q)) hoff (ix_tg_ok ht) k
        · cases h
      · cases h
  · split at h
    · rename_i hs
      split at h
      · rename_i ht
        cases h
        exact lv_lookup hx hb hd hs rfl (ix_tg_ok ht) k
      · cases h
    · cases h
  · cases h
end IX2
end
section
/-! ===== each instruction of the interpreter is the machine's: cells ===== -/
noncomputable def ix_okF (T : ix_T) (cl : List vw_C) (on : Nat → String) (Ts : List Cond) : Prop := ∀ (oc idx ci j : Nat), ix_tF T oc idx = some (ci, j) → ∃ r : vw_C, cl[ci]? = some r ∧ j < r.2.2 ∧ Cond.fieldLink (on oc) idx r.1 (r.2.1 j).2.1 (r.2.1 j).2.2.1 ∈ Ts
noncomputable def ix_okD (T : ix_T) (cl : List vw_C) (on : Nat → String) (Ts : List Cond) : Prop := ∀ (ci : Nat) (r : vw_C), cl[ci]? = some r → (ix_tD T ci).1 = r.2.2 ∧ on ci = r.1 ∧ (∀ w ∈ u_ws r.1 r.2.1 r.2.2, w ∈ Ts) ∧ (∀ k, k < r.2.2 → parseFieldDescriptor (r.2.1 k).2.2.1 = some ((ix_tD T ci).2 k).1) ∧ (∀ k, k < r.2.2 → (r.2.1 k).2.2.2 = ((ix_tD T ci).2 k).2 ∧ (r.2.1 k).1 = r.1) ∧ (∀ a, a < r.2.2 → ∀ b, b < r.2.2 → a ≠ b → (r.2.1 a).2.1 ≠ (r.2.1 b).2.1) ∧ Cond.instantiable r.1 r.2.2 ∈ Ts ∧ Cond.initialized r.1 ∈ Ts
noncomputable def ix_okC (T : ix_T) (cl : List vw_C) (on : Nat → String) (Ts : List Cond) : Prop := ∀ (oc idx ci t : Nat), ix_tC T oc idx = some (ci, t) → ∃ r : vw_C, cl[ci]? = some r ∧ Cond.classLink (on oc) idx r.1 ∈ Ts ∧ (¬ t = 0 → ix_tE T t = some ci)
noncomputable def ix_okK (T : ix_T) (on : Nat → String) (Ts : List Cond) : Prop := (∀ (oc idx : Nat) (v : Int32), ix_tK T oc idx = some (.int v) → Jvm.Cond.constant (on oc) idx v ∈ Ts) ∧ ∀ (oc idx : Nat) (v : Int64), ix_tK T oc idx = some (.long v) → Jvm.Cond.constantLong (on oc) idx v ∈ Ts
/-- the array types: 0 int, 1 long, 2 boolean, then those of objects -/
noncomputable def ix_okY (T : ix_T) (cl : List vw_C) (aC : Nat → ClassId) (tys : List (ClassId × FieldType)) (Ts : List Cond) (s : State) : Prop := (tys[0]? = some (aC 0, .int) ∧ tys[1]? = some (aC 1, .long) ∧ tys[2]? = some (aC 2, .boolean)) ∧ (Cond.arrayClass .int ∈ Ts ∧ Cond.arrayClass .long ∈ Ts ∧ Cond.arrayClass .boolean ∈ Ts) ∧ ∀ (t ci : Nat), ix_tE T t = some ci → ∃ r : vw_C, cl[ci]? = some r ∧ tys[t]? = some (aC t, .object r.1) ∧ va_AO r.1 s
/-- the constant rows, and the statics that hold them -/
noncomputable def ix_okA (T : ix_T) (on : Nat → String) (Ts : List Cond) (ad : Nat → Nat) (base : Nat) (U : State) (H : Heap) : Prop := (∀ (k N : Nat) (f : Nat → Int32), ix_tA T k = some (N, f) → va_T .int (ad (1000000 + k)) N (fun j => .int (f j)) (fun q => base ≤ q) U H) ∧ (∀ (oc idx : Nat) (v : Value), ix_tS T oc idx = some v → ∃ C n d : String, Cond.fieldLink (on oc) idx C n d ∈ Ts ∧ va_Z C n d (ix_v ad v) (fun q => base ≤ q) U H) ∧ (∀ (k N : Nat) (f : Nat → Int32), ix_tB T k = some (N, f) → va_T .byte (ad (1000000 + k)) N (fun j => .int (f j)) (fun q => base ≤ q) U H) ∧ (∀ (k b : Nat), ix_tO T k = some b → va_O "java/lang/String" (ad (1000000 + k)) (fun q => base ≤ q) U H ∧ va_OF "java/lang/String" "coder" "B" (.int 0) (ad (1000000 + k)) (fun q => base ≤ q) U H ∧ va_OF "java/lang/String" "value" "[B" (.ref (ad (1000000 + b))) (ad (1000000 + k)) (fun q => base ≤ q) U H) ∧ (∀ (oc idx a : Nat), ix_tK T oc idx = some (.ref a) → ∃ tx : String, vk_R (on oc) idx tx (ad a) U) ∧ ∀ (oc idx : Nat) (g : Bool), ix_tG T oc idx = some g → Cond.fieldLink (on oc) idx "java/lang/String" (bif g then "value" else "coder") (bif g then "[B" else "B") ∈ Ts
/-- the heap holds the abstract cells from the address base on; nothing below it was touched -/
noncomputable def ix_W (D : va_G) (cl : List vw_C) (aC : Nat → ClassId) (ad : Nat → Nat) (base : Nat) (hp : ix_H) (s : State) (H : Heap) (locs : List Loc) : Prop := hp.1 ≤ 1000000 ∧ va_P D cl (ix_ws aC ad base hp.1 hp.2.2) H ∧ va_D (fun q => base ≤ q) (ix_ws aC ad base hp.1 hp.2.2) ∧ va_S (fun q => base ≤ q) s.heap H locs
section IX3
variable {p : Program} {l : Launch} {e : Env} {R : Room} {s : State} {m : MethodId} {args : Array Value} {below : List Frame} {meth : Method} {c : Code} {H : Heap} {locs : List Loc} {cells slots : Nat} {Q : State → Prop}
variable {cc : ByteArray} {pc : Nat} {arr : Array Slot} {ad : Nat → Nat} {rest : List Value}
variable {T : ix_T} {D : va_G} {cl : List vw_C} {aC : Nat → ClassId} {tys : List (ClassId × FieldType)} {on : Nat → String} {Ts : List Cond} {base : Nat} {hp : ix_H} {oc : Nat}
theorem ix_size {g : JFrame} (k : H.size ≤ s.heap.size + cells → W p l e R s m args below meth c H locs cells slots Q g) : W p l e R s m args below meth c H locs cells slots Q g := fun T hT X => k (by rw [← hT]; exact X.heapSize) T hT X
theorem ix_W.lo (hW : ix_W D cl aC ad base hp s H locs) {n0 : Nat} (h0 : s.heap.size = base + n0) : base + hp.1 ≤ H.size := by
  obtain ⟨hc, hP, hD, hS⟩ := hW
  by_cases hz : hp.1 = 0
  · have := hS.1
    omega
  · have h1 := (hP (hp.1 - 1) _ (ix_ws_get (by omega))).lt
    have h2 : base + (hp.1 - 1) < H.size := h1
    omega
theorem ix_W.eqs (hW : ix_W D cl aC ad base hp s H locs) {n0 : Nat} (h0 : s.heap.size = base + n0) (hn : n0 ≤ hp.1) (hu : H.size ≤ s.heap.size + (hp.1 - n0)) : H.size = base + hp.1 := by
  have := hW.lo h0
  omega
theorem ix_getf (hx : p.tables.exec = Jvm.exec) (hb : c.code = cc) (had : ∀ a : Nat, a < 1000000 → ad a = base + a) (hts : ∀ w ∈ Ts, w.before args s = true) (hown : s.vm.findClass (on oc) = some m.cls) (hK : va_K D cl tys s) (hF : ix_okF T cl on Ts) (hO : ix_okD T cl on Ts) (hW : ix_W D cl aC ad base hp s H locs)
    {idx ci j a : Nat} {fs : List Value} {v : Value} (h1 : ix_tF T oc idx = some (ci, j)) (h2 : ix_obj hp a = some (ci, fs)) (h3 : fs[j]? = some v) (hd : decode cc pc = .ok (.getfield idx, 3))
    (k : W p l e R s m args below meth c H locs cells slots Q (F0 m (pc + 3) arr (ix_v ad v :: rest))) : W p l e R s m args below meth c H locs cells slots Q (F0 m pc arr (.ref (ad a) :: rest)) := by
  obtain ⟨ha, he⟩ := ix_obj_ok h2
  obtain ⟨r, hr, hj, hl⟩ := hF _ _ _ _ h1
  obtain ⟨-, -, hin, -, hfd, -⟩ := hO _ _ hr
  obtain ⟨hcap, hP, hD, hS⟩ := hW
  rw [had a (by omega)]
  have hw := ix_ws_get (aC := aC) (ad := ad) (base := base) (h := hp.2.2) ha
  rw [he] at hw
  exact va_get (D := D) (ci := ci) (C := r.1) (T := r.2.1) (N := r.2.2) hx hb hts hin hown hK hP a hw hr j hj (hts _ hl) (fun x h9 => by rw [(hfd j hj).2] at h9; exact h9) (by rw [List.getElem?_map, h3]; rfl) hd k
theorem ix_putf (hx : p.tables.exec = Jvm.exec) (hb : c.code = cc) (had : ∀ a : Nat, a < 1000000 → ad a = base + a) (hts : ∀ w ∈ Ts, w.before args s = true) (hown : s.vm.findClass (on oc) = some m.cls) (hK : va_K D cl tys s) (hF : ix_okF T cl on Ts) (hO : ix_okD T cl on Ts) (hW : ix_W D cl aC ad base hp s H locs)
    {idx ci j a : Nat} {fs : List Value} {v : Value} (h1 : ix_tF T oc idx = some (ci, j)) (h2 : ix_obj hp a = some (ci, fs)) (h3 : j < fs.length) (hn : narrow ((ix_tD T ci).2 j).1 v = v) (hf : fits ((ix_tD T ci).2 j).1 v = true) (hfin : ((ix_tD T ci).2 j).2 = false ∨ (meth.name = "<init>" ∧ ci = oc)) (hd : decode cc pc = .ok (.putfield idx, 3))
    (k : ∀ (H1 : Heap) (locs1 : List Loc), ix_W D cl aC ad base (ix_put hp a (.inr (ci, fs.set j v))) s H1 locs1 → W p l e R s m args below meth c H1 locs1 cells slots Q (F0 m (pc + 3) arr rest)) : W p l e R s m args below meth c H locs cells slots Q (F0 m pc arr (ix_v ad v :: .ref (ad a) :: rest)) := by
  obtain ⟨ha, he⟩ := ix_obj_ok h2
  obtain ⟨r, hr, hj, hl⟩ := hF _ _ _ _ h1
  obtain ⟨-, hon, hin, hpd, hfd, hnm, -⟩ := hO _ _ hr
  obtain ⟨hcap, hP, hD, hS⟩ := hW
  rw [had a (by omega)]
  have hw := ix_ws_get (aC := aC) (ad := ad) (base := base) (h := hp.2.2) ha
  rw [he] at hw
  have hset : (ix_ws aC ad base hp.1 hp.2.2).set a (base + a, .inr (ci, (fs.map (ix_v ad)).set j (ix_v ad v))) = ix_ws aC ad base hp.1 (ix_up hp.2.2 a (.inr (ci, fs.set j v))) := by
    rw [← ix_ws_set]
    simp only [ix_e, List.map_set]
  cases hfb : ((ix_tD T ci).2 j).2 with
  | false =>
    refine va_put (D := D) (ci := ci) (C := r.1) (T := r.2.1) (N := r.2.2) hx hb hts hin (fun k => ((ix_tD T ci).2 k).1) hpd hnm hown hK hP hD hS a hw hr j hj (hts _ hl) (fun x h9 => by rw [(hfd j hj).2] at h9; exact h9) (by rw [(hfd j hj).1]; exact hfb) (hpd j hj) (ix_v_narrow hn) (ix_v_fits hf) (by rw [List.length_map]; exact h3) hd (fun H1 locs1 hP1 hD1 hS1 => ?_)
    rw [hset] at hP1 hD1
    exact k H1 locs1 ⟨hcap, hP1, hD1, hS1⟩
  | true =>
    have hfi : meth.name = "<init>" ∧ ci = oc := hfin.resolve_left (by rw [hfb]; decide)
    refine va_putF (D := D) (ci := ci) (C := r.1) (T := r.2.1) (N := r.2.2) hx hb hts hin (fun k => ((ix_tD T ci).2 k).1) hpd hnm hown hK hP hD hS a hw hr j hj (hts _ hl) (fun x h9 => by rw [(hfd j hj).2] at h9; exact h9) (by rw [(hfd j hj).1]; exact hfb) hfi.1 (by rw [(hfd j hj).2, ← hon, hfi.2]) (hpd j hj) (ix_v_narrow hn) (ix_v_fits hf) (by rw [List.length_map]; exact h3) hd (fun H1 locs1 hP1 hD1 hS1 => ?_)
    rw [hset] at hP1 hD1
    exact k H1 locs1 ⟨hcap, hP1, hD1, hS1⟩
end IX3
end
