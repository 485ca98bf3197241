section
/-- the switches, each by itself -/
noncomputable def ix_sw (b : ByteArray) (cd : Nat → Option Instr) (n : Nat) (pcs : List Nat) : Bool := (List.range n).all (fun pc => match cd pc with
  | none => true
  | some i => bif Nat.beq (ix_len i) 0 then pcs.contains pc else true) && pcs.all (fun pc => match cd pc with
  | none => true
  | some i => match decode b pc with
    | .ok (j, _) => decide (j = i)
    | .error _ => false)
noncomputable def ix_cdok (b : ByteArray) (cd : Nat → Option Instr) (n : Nat) (pcs : List Nat) : Bool := ix_scan cd 0 b.data.toList && Nat.beq b.data.toList.length n && ix_sw b cd n pcs
theorem ix_cd_ok {b : ByteArray} {cd : Nat → Option Instr} {n : Nat} {pcs : List Nat} (h : ix_cdok b cd n pcs = true) (hn : ∀ pc, ¬ pc < n → cd pc = none) (pc : Nat) (i : Instr) (hi : cd pc = some i) : ∃ len : Nat, decode b pc = .ok (i, len) ∧ (ix_len i = 0 ∨ ix_len i = len) := by
  have hp : pc < n := by
    rcases Nat.lt_or_ge pc n with h | h
    · exact h
    · rw [hn pc (Nat.not_lt.mpr h)] at hi; cases hi
  unfold ix_cdok at h
  simp only [Bool.and_eq_true] at h
  obtain ⟨⟨h1, h2⟩, h3⟩ := h
  have h2 := Nat.eq_of_beq_eq_true h2
  by_cases hz : ix_len i = 0
  · unfold ix_sw at h3
    simp only [Bool.and_eq_true] at h3
    have h4 := List.all_eq_true.mp h3.1 pc (List.mem_range.mpr hp)
    rw [hi] at h4
    simp only [hz] at h4
    have h5 := List.all_eq_true.mp h3.2 pc (by simpa using h4)
    rw [hi] at h5
    simp only at h5
    split at h5
    · rename_i j len hd
      exact ⟨len, by rw [hd, of_decide_eq_true h5], Or.inl hz⟩
    · cases h5
  · exact ⟨ix_len i, ix_scan_ok (pc := 0) rfl h1 pc i (Nat.zero_le _) (by rw [h2]; exact hp) hi hz, Or.inr rfl⟩
end
section
/-! ===== the same interpreter, laid out so that the kernel works it fast ===== -/
/-- what one instruction does -/
noncomputable def ix_sem (T : ix_T) (f : ix_F) (M : ix_M) (i : Instr) (pc : Nat) (ls : ix_L) (st : List Value) (hp : ix_H) : Option (ix_S ⊕ (Option Value × ix_H)) := match ix_ret M.2.2.2.2.1 i st with
      | some rv => some (.inr (rv, hp))
      | none => match ix_alu i st with
        | some st' => some (.inl (pc + ix_len i, ls, st', hp))
        | none => match ix_loc i M.2.2.2.1 ls st with
          | some (ls', st') => some (.inl (pc + ix_len i, ls', st', hp))
          | none => match ix_hp T M.1 M.2.2.2.2.2.1 i st hp with
            | some (st', hp') => some (.inl (pc + ix_len i, ls, st', hp'))
            | none => match ix_br i pc st with
              | some (pc', st') => some (.inl (pc', ls, st', hp))
              | none => match ix_cal T f M.1 i st hp with
                | some (st', hp') => some (.inl (pc + ix_len i, ls, st', hp'))
                | none => none
theorem ix_one_sem (T : ix_T) (f : ix_F) (M : ix_M) (pc : Nat) (ls : ix_L) (st : List Value) (hp : ix_H) {i : Instr} (hi : M.2.2.2.2.2.2 pc = some i) : ix_one T f M (pc, ls, st, hp) = ix_sem T f M i pc ls st hp := by
  show (match M.2.2.2.2.2.2 pc with
    | none => none
    | some i => ix_sem T f M i pc ls st hp) = _
  rw [hi]
section IYF
variable {T : ix_T} {f : ix_F} {M : ix_M} {pc : Nat} {ls : ix_L} {st : List Value} {hp : ix_H} {res : ix_S ⊕ (Option Value × ix_H)}
noncomputable def fx_iadd (pc : Nat) (ls : ix_L) (st : List Value) (hp : ix_H) : Option (ix_S ⊕ (Option Value × ix_H)) := match st with
  | .int y :: .int x :: r => some (.inl (pc + 1, ls, .int (x + y) :: r, hp))
  | _ => none
theorem fxk_iadd (h : fx_iadd pc ls st hp = some res) : ix_sem T f M (.iadd) pc ls st hp = some res := by
  unfold fx_iadd at h
  repeat' (split at h)
  all_goals first | (cases h; done) | (cases h; rfl)
noncomputable def fx_isub (pc : Nat) (ls : ix_L) (st : List Value) (hp : ix_H) : Option (ix_S ⊕ (Option Value × ix_H)) := match st with
  | .int y :: .int x :: r => some (.inl (pc + 1, ls, .int (x - y) :: r, hp))
  | _ => none
theorem fxk_isub (h : fx_isub pc ls st hp = some res) : ix_sem T f M (.isub) pc ls st hp = some res := by
  unfold fx_isub at h
  repeat' (split at h)
  all_goals first | (cases h; done) | (cases h; rfl)
noncomputable def fx_imul (pc : Nat) (ls : ix_L) (st : List Value) (hp : ix_H) : Option (ix_S ⊕ (Option Value × ix_H)) := match st with
  | .int y :: .int x :: r => some (.inl (pc + 1, ls, .int (x * y) :: r, hp))
  | _ => none
theorem fxk_imul (h : fx_imul pc ls st hp = some res) : ix_sem T f M (.imul) pc ls st hp = some res := by
  unfold fx_imul at h
  repeat' (split at h)
  all_goals first | (cases h; done) | (cases h; rfl)
noncomputable def fx_iand (pc : Nat) (ls : ix_L) (st : List Value) (hp : ix_H) : Option (ix_S ⊕ (Option Value × ix_H)) := match st with
  | .int y :: .int x :: r => some (.inl (pc + 1, ls, .int (x &&& y) :: r, hp))
  | _ => none
theorem fxk_iand (h : fx_iand pc ls st hp = some res) : ix_sem T f M (.iand) pc ls st hp = some res := by
  unfold fx_iand at h
  repeat' (split at h)
  all_goals first | (cases h; done) | (cases h; rfl)
noncomputable def fx_ior (pc : Nat) (ls : ix_L) (st : List Value) (hp : ix_H) : Option (ix_S ⊕ (Option Value × ix_H)) := match st with
  | .int y :: .int x :: r => some (.inl (pc + 1, ls, .int (x ||| y) :: r, hp))
  | _ => none
theorem fxk_ior (h : fx_ior pc ls st hp = some res) : ix_sem T f M (.ior) pc ls st hp = some res := by
  unfold fx_ior at h
  repeat' (split at h)
  all_goals first | (cases h; done) | (cases h; rfl)
noncomputable def fx_ixor (pc : Nat) (ls : ix_L) (st : List Value) (hp : ix_H) : Option (ix_S ⊕ (Option Value × ix_H)) := match st with
  | .int y :: .int x :: r => some (.inl (pc + 1, ls, .int (x ^^^ y) :: r, hp))
  | _ => none
theorem fxk_ixor (h : fx_ixor pc ls st hp = some res) : ix_sem T f M (.ixor) pc ls st hp = some res := by
  unfold fx_ixor at h
  repeat' (split at h)
  all_goals first | (cases h; done) | (cases h; rfl)
noncomputable def fx_ishl (pc : Nat) (ls : ix_L) (st : List Value) (hp : ix_H) : Option (ix_S ⊕ (Option Value × ix_H)) := match st with
  | .int y :: .int x :: r => some (.inl (pc + 1, ls, .int (x <<< (y &&& 31)) :: r, hp))
  | _ => none
theorem fxk_ishl (h : fx_ishl pc ls st hp = some res) : ix_sem T f M (.ishl) pc ls st hp = some res := by
  unfold fx_ishl at h
  repeat' (split at h)
  all_goals first | (cases h; done) | (cases h; rfl)
noncomputable def fx_ishr (pc : Nat) (ls : ix_L) (st : List Value) (hp : ix_H) : Option (ix_S ⊕ (Option Value × ix_H)) := match st with
  | .int y :: .int x :: r => some (.inl (pc + 1, ls, .int (x >>> (y &&& 31)) :: r, hp))
  | _ => none
theorem fxk_ishr (h : fx_ishr pc ls st hp = some res) : ix_sem T f M (.ishr) pc ls st hp = some res := by
  unfold fx_ishr at h
  repeat' (split at h)
  all_goals first | (cases h; done) | (cases h; rfl)
noncomputable def fx_iushr (pc : Nat) (ls : ix_L) (st : List Value) (hp : ix_H) : Option (ix_S ⊕ (Option Value × ix_H)) := match st with
  | .int y :: .int x :: r => some (.inl (pc + 1, ls, .int ((x.toUInt32 >>> (y.toUInt32 &&& Int32.toUInt32 31)).toInt32) :: r, hp))
  | _ => none
theorem fxk_iushr (h : fx_iushr pc ls st hp = some res) : ix_sem T f M (.iushr) pc ls st hp = some res := by
  unfold fx_iushr at h
  repeat' (split at h)
  all_goals first | (cases h; done) | (cases h; rfl)
noncomputable def fx_ladd (pc : Nat) (ls : ix_L) (st : List Value) (hp : ix_H) : Option (ix_S ⊕ (Option Value × ix_H)) := match st with
  | .long y :: .long x :: r => some (.inl (pc + 1, ls, .long (x + y) :: r, hp))
  | _ => none
theorem fxk_ladd (h : fx_ladd pc ls st hp = some res) : ix_sem T f M (.ladd) pc ls st hp = some res := by
  unfold fx_ladd at h
  repeat' (split at h)
  all_goals first | (cases h; done) | (cases h; rfl)
noncomputable def fx_lsub (pc : Nat) (ls : ix_L) (st : List Value) (hp : ix_H) : Option (ix_S ⊕ (Option Value × ix_H)) := match st with
  | .long y :: .long x :: r => some (.inl (pc + 1, ls, .long (x - y) :: r, hp))
  | _ => none
theorem fxk_lsub (h : fx_lsub pc ls st hp = some res) : ix_sem T f M (.lsub) pc ls st hp = some res := by
  unfold fx_lsub at h
  repeat' (split at h)
  all_goals first | (cases h; done) | (cases h; rfl)
noncomputable def fx_lmul (pc : Nat) (ls : ix_L) (st : List Value) (hp : ix_H) : Option (ix_S ⊕ (Option Value × ix_H)) := match st with
  | .long y :: .long x :: r => some (.inl (pc + 1, ls, .long (x * y) :: r, hp))
  | _ => none
theorem fxk_lmul (h : fx_lmul pc ls st hp = some res) : ix_sem T f M (.lmul) pc ls st hp = some res := by
  unfold fx_lmul at h
  repeat' (split at h)
  all_goals first | (cases h; done) | (cases h; rfl)
noncomputable def fx_land (pc : Nat) (ls : ix_L) (st : List Value) (hp : ix_H) : Option (ix_S ⊕ (Option Value × ix_H)) := match st with
  | .long y :: .long x :: r => some (.inl (pc + 1, ls, .long (x &&& y) :: r, hp))
  | _ => none
theorem fxk_land (h : fx_land pc ls st hp = some res) : ix_sem T f M (.land) pc ls st hp = some res := by
  unfold fx_land at h
  repeat' (split at h)
  all_goals first | (cases h; done) | (cases h; rfl)
noncomputable def fx_lor (pc : Nat) (ls : ix_L) (st : List Value) (hp : ix_H) : Option (ix_S ⊕ (Option Value × ix_H)) := match st with
  | .long y :: .long x :: r => some (.inl (pc + 1, ls, .long (x ||| y) :: r, hp))
  | _ => none
theorem fxk_lor (h : fx_lor pc ls st hp = some res) : ix_sem T f M (.lor) pc ls st hp = some res := by
  unfold fx_lor at h
  repeat' (split at h)
  all_goals first | (cases h; done) | (cases h; rfl)
noncomputable def fx_lxor (pc : Nat) (ls : ix_L) (st : List Value) (hp : ix_H) : Option (ix_S ⊕ (Option Value × ix_H)) := match st with
  | .long y :: .long x :: r => some (.inl (pc + 1, ls, .long (x ^^^ y) :: r, hp))
  | _ => none
theorem fxk_lxor (h : fx_lxor pc ls st hp = some res) : ix_sem T f M (.lxor) pc ls st hp = some res := by
  unfold fx_lxor at h
  repeat' (split at h)
  all_goals first | (cases h; done) | (cases h; rfl)
noncomputable def fx_idiv (pc : Nat) (ls : ix_L) (st : List Value) (hp : ix_H) : Option (ix_S ⊕ (Option Value × ix_H)) := match st with
  | .int y :: .int x :: r => if y = 0 then none else some (.inl (pc + 1, ls, .int (x / y) :: r, hp))
  | _ => none
theorem fxk_idiv (h : fx_idiv pc ls st hp = some res) : ix_sem T f M (.idiv) pc ls st hp = some res := by
  unfold fx_idiv at h
  split at h
  · split at h
    · cases h
    · rename_i hy
      cases h
      simp [ix_sem, ix_ret, ix_alu, hy, ix_len]
  · cases h
noncomputable def fx_irem (pc : Nat) (ls : ix_L) (st : List Value) (hp : ix_H) : Option (ix_S ⊕ (Option Value × ix_H)) := match st with
  | .int y :: .int x :: r => if y = 0 then none else some (.inl (pc + 1, ls, .int (x - x / y * y) :: r, hp))
  | _ => none
theorem fxk_irem (h : fx_irem pc ls st hp = some res) : ix_sem T f M (.irem) pc ls st hp = some res := by
  unfold fx_irem at h
  split at h
  · split at h
    · cases h
    · rename_i hy
      cases h
      simp [ix_sem, ix_ret, ix_alu, hy, ix_len]
  · cases h
noncomputable def fx_ldiv (pc : Nat) (ls : ix_L) (st : List Value) (hp : ix_H) : Option (ix_S ⊕ (Option Value × ix_H)) := match st with
  | .long y :: .long x :: r => if y = 0 then none else some (.inl (pc + 1, ls, .long (x / y) :: r, hp))
  | _ => none
theorem fxk_ldiv (h : fx_ldiv pc ls st hp = some res) : ix_sem T f M (.ldiv) pc ls st hp = some res := by
  unfold fx_ldiv at h
  split at h
  · split at h
    · cases h
    · rename_i hy
      cases h
      simp [ix_sem, ix_ret, ix_alu, hy, ix_len]
  · cases h
noncomputable def fx_lrem (pc : Nat) (ls : ix_L) (st : List Value) (hp : ix_H) : Option (ix_S ⊕ (Option Value × ix_H)) := match st with
  | .long y :: .long x :: r => if y = 0 then none else some (.inl (pc + 1, ls, .long (x - x / y * y) :: r, hp))
  | _ => none
theorem fxk_lrem (h : fx_lrem pc ls st hp = some res) : ix_sem T f M (.lrem) pc ls st hp = some res := by
  unfold fx_lrem at h
  split at h
  · split at h
    · cases h
    · rename_i hy
      cases h
      simp [ix_sem, ix_ret, ix_alu, hy, ix_len]
  · cases h
noncomputable def fx_lshl (pc : Nat) (ls : ix_L) (st : List Value) (hp : ix_H) : Option (ix_S ⊕ (Option Value × ix_H)) := match st with
  | .int y :: .long x :: r => some (.inl (pc + 1, ls, .long (x <<< (y.toInt64 &&& 63)) :: r, hp))
  | _ => none
theorem fxk_lshl (h : fx_lshl pc ls st hp = some res) : ix_sem T f M (.lshl) pc ls st hp = some res := by
  unfold fx_lshl at h
  repeat' (split at h)
  all_goals first | (cases h; done) | (cases h; rfl)
noncomputable def fx_lshr (pc : Nat) (ls : ix_L) (st : List Value) (hp : ix_H) : Option (ix_S ⊕ (Option Value × ix_H)) := match st with
  | .int y :: .long x :: r => some (.inl (pc + 1, ls, .long (x >>> (y.toInt64 &&& 63)) :: r, hp))
  | _ => none
theorem fxk_lshr (h : fx_lshr pc ls st hp = some res) : ix_sem T f M (.lshr) pc ls st hp = some res := by
  unfold fx_lshr at h
  repeat' (split at h)
  all_goals first | (cases h; done) | (cases h; rfl)
noncomputable def fx_lushr (pc : Nat) (ls : ix_L) (st : List Value) (hp : ix_H) : Option (ix_S ⊕ (Option Value × ix_H)) := match st with
  | .int y :: .long x :: r => some (.inl (pc + 1, ls, .long ((x.toUInt64 >>> (y.toInt64.toUInt64 &&& Int64.toUInt64 63)).toInt64) :: r, hp))
  | _ => none
theorem fxk_lushr (h : fx_lushr pc ls st hp = some res) : ix_sem T f M (.lushr) pc ls st hp = some res := by
  unfold fx_lushr at h
  repeat' (split at h)
  all_goals first | (cases h; done) | (cases h; rfl)
noncomputable def fx_ineg (pc : Nat) (ls : ix_L) (st : List Value) (hp : ix_H) : Option (ix_S ⊕ (Option Value × ix_H)) := match st with
  | .int x :: r => some (.inl (pc + 1, ls, .int (-x) :: r, hp))
  | _ => none
theorem fxk_ineg (h : fx_ineg pc ls st hp = some res) : ix_sem T f M (.ineg) pc ls st hp = some res := by
  unfold fx_ineg at h
  repeat' (split at h)
  all_goals first | (cases h; done) | (cases h; rfl)
noncomputable def fx_lneg (pc : Nat) (ls : ix_L) (st : List Value) (hp : ix_H) : Option (ix_S ⊕ (Option Value × ix_H)) := match st with
  | .long x :: r => some (.inl (pc + 1, ls, .long (-x) :: r, hp))
  | _ => none
theorem fxk_lneg (h : fx_lneg pc ls st hp = some res) : ix_sem T f M (.lneg) pc ls st hp = some res := by
  unfold fx_lneg at h
  repeat' (split at h)
  all_goals first | (cases h; done) | (cases h; rfl)
noncomputable def fx_i2l (pc : Nat) (ls : ix_L) (st : List Value) (hp : ix_H) : Option (ix_S ⊕ (Option Value × ix_H)) := match st with
  | .int x :: r => some (.inl (pc + 1, ls, .long (x.toInt64) :: r, hp))
  | _ => none
theorem fxk_i2l (h : fx_i2l pc ls st hp = some res) : ix_sem T f M (.i2l) pc ls st hp = some res := by
  unfold fx_i2l at h
  repeat' (split at h)
  all_goals first | (cases h; done) | (cases h; rfl)
noncomputable def fx_l2i (pc : Nat) (ls : ix_L) (st : List Value) (hp : ix_H) : Option (ix_S ⊕ (Option Value × ix_H)) := match st with
  | .long x :: r => some (.inl (pc + 1, ls, .int (x.toInt32) :: r, hp))
  | _ => none
theorem fxk_l2i (h : fx_l2i pc ls st hp = some res) : ix_sem T f M (.l2i) pc ls st hp = some res := by
  unfold fx_l2i at h
  repeat' (split at h)
  all_goals first | (cases h; done) | (cases h; rfl)
noncomputable def fx_i2b (pc : Nat) (ls : ix_L) (st : List Value) (hp : ix_H) : Option (ix_S ⊕ (Option Value × ix_H)) := match st with
  | .int x :: r => some (.inl (pc + 1, ls, .int (x.toInt8.toInt32) :: r, hp))
  | _ => none
theorem fxk_i2b (h : fx_i2b pc ls st hp = some res) : ix_sem T f M (.i2b) pc ls st hp = some res := by
  unfold fx_i2b at h
  repeat' (split at h)
  all_goals first | (cases h; done) | (cases h; rfl)
noncomputable def fx_i2s (pc : Nat) (ls : ix_L) (st : List Value) (hp : ix_H) : Option (ix_S ⊕ (Option Value × ix_H)) := match st with
  | .int x :: r => some (.inl (pc + 1, ls, .int (x.toInt16.toInt32) :: r, hp))
  | _ => none
theorem fxk_i2s (h : fx_i2s pc ls st hp = some res) : ix_sem T f M (.i2s) pc ls st hp = some res := by
  unfold fx_i2s at h
  repeat' (split at h)
  all_goals first | (cases h; done) | (cases h; rfl)
noncomputable def fx_i2c (pc : Nat) (ls : ix_L) (st : List Value) (hp : ix_H) : Option (ix_S ⊕ (Option Value × ix_H)) := match st with
  | .int x :: r => some (.inl (pc + 1, ls, .int ((x.toUInt32 % 65536).toInt32) :: r, hp))
  | _ => none
theorem fxk_i2c (h : fx_i2c pc ls st hp = some res) : ix_sem T f M (.i2c) pc ls st hp = some res := by
  unfold fx_i2c at h
  repeat' (split at h)
  all_goals first | (cases h; done) | (cases h; rfl)
noncomputable def fx_lcmp (pc : Nat) (ls : ix_L) (st : List Value) (hp : ix_H) : Option (ix_S ⊕ (Option Value × ix_H)) := match st with
  | .long y :: .long x :: r => some (.inl (pc + 1, ls, .int (lg_cmp x y) :: r, hp))
  | _ => none
theorem fxk_lcmp (h : fx_lcmp pc ls st hp = some res) : ix_sem T f M (.lcmp) pc ls st hp = some res := by
  unfold fx_lcmp at h
  repeat' (split at h)
  all_goals first | (cases h; done) | (cases h; rfl)
noncomputable def fx_dup (pc : Nat) (ls : ix_L) (st : List Value) (hp : ix_H) : Option (ix_S ⊕ (Option Value × ix_H)) := match st with
  | a :: r => if a.category = 1 then some (.inl (pc + 1, ls, a :: a :: r, hp)) else none
  | _ => none
theorem fxk_dup (h : fx_dup pc ls st hp = some res) : ix_sem T f M (.dup) pc ls st hp = some res := by
  unfold fx_dup at h
  split at h
  · split at h
    · rename_i ha
      cases h
      simp [ix_sem, ix_ret, ix_alu, ha, ix_len]
    · cases h
  · cases h
noncomputable def fx_pop (pc : Nat) (ls : ix_L) (st : List Value) (hp : ix_H) : Option (ix_S ⊕ (Option Value × ix_H)) := match st with
  | a :: r => if a.category = 1 then some (.inl (pc + 1, ls, r, hp)) else none
  | _ => none
theorem fxk_pop (h : fx_pop pc ls st hp = some res) : ix_sem T f M (.pop) pc ls st hp = some res := by
  unfold fx_pop at h
  split at h
  · split at h
    · rename_i ha
      cases h
      simp [ix_sem, ix_ret, ix_alu, ha, ix_len]
    · cases h
  · cases h
noncomputable def fx_dup2 (pc : Nat) (ls : ix_L) (st : List Value) (hp : ix_H) : Option (ix_S ⊕ (Option Value × ix_H)) := match st with
  | a :: b :: r => if a.category = 1 ∧ b.category = 1 then some (.inl (pc + 1, ls, a :: b :: a :: b :: r, hp)) else none
  | _ => none
theorem fxk_dup2 (h : fx_dup2 pc ls st hp = some res) : ix_sem T f M (.dup2) pc ls st hp = some res := by
  unfold fx_dup2 at h
  split at h
  · split at h
    · rename_i ha
      cases h
      simp [ix_sem, ix_ret, ix_alu, ha, ix_len]
    · cases h
  · cases h
noncomputable def fx_iconst (v : Int) (pc : Nat) (ls : ix_L) (st : List Value) (hp : ix_H) : Option (ix_S ⊕ (Option Value × ix_H)) := some (.inl (pc + 1, ls, .int (Int32.ofInt v) :: st, hp))
theorem fxk_iconst {v : Int} (h : fx_iconst v pc ls st hp = some res) : ix_sem T f M (.iconst v) pc ls st hp = some res := by
  cases h
  rfl
noncomputable def fx_bipush (v : Int) (pc : Nat) (ls : ix_L) (st : List Value) (hp : ix_H) : Option (ix_S ⊕ (Option Value × ix_H)) := some (.inl (pc + 2, ls, .int ((Int8.ofInt v).toInt32) :: st, hp))
theorem fxk_bipush {v : Int} (h : fx_bipush v pc ls st hp = some res) : ix_sem T f M (.bipush v) pc ls st hp = some res := by
  cases h
  rfl
noncomputable def fx_sipush (v : Int) (pc : Nat) (ls : ix_L) (st : List Value) (hp : ix_H) : Option (ix_S ⊕ (Option Value × ix_H)) := some (.inl (pc + 3, ls, .int ((Int16.ofInt v).toInt32) :: st, hp))
theorem fxk_sipush {v : Int} (h : fx_sipush v pc ls st hp = some res) : ix_sem T f M (.sipush v) pc ls st hp = some res := by
  cases h
  rfl
noncomputable def fx_lconst (v : Fin 2) (pc : Nat) (ls : ix_L) (st : List Value) (hp : ix_H) : Option (ix_S ⊕ (Option Value × ix_H)) := some (.inl (pc + 1, ls, .long (Int64.ofNat (v : Nat)) :: st, hp))
theorem fxk_lconst {v : Fin 2} (h : fx_lconst v pc ls st hp = some res) : ix_sem T f M (.lconst v) pc ls st hp = some res := by
  cases h
  rfl
noncomputable def fx_iload (k len : Nat) (pc : Nat) (ls : ix_L) (st : List Value) (hp : ix_H) : Option (ix_S ⊕ (Option Value × ix_H)) := match ix_ld ls k with
  | some (.int x) => some (.inl (pc + len, ls, .int x :: st, hp))
  | _ => none
theorem fxk_iload {k : Nat} (h : fx_iload k 2 pc ls st hp = some res) : ix_sem T f M (.iload k) pc ls st hp = some res := by
  unfold fx_iload at h
  split at h
  · rename_i hx
    cases h
    simp [ix_sem, ix_ret, ix_alu, ix_loc, hx, ix_len]
  · cases h
theorem fxk_iload_n {k : Fin 4} (h : fx_iload k.val 1 pc ls st hp = some res) : ix_sem T f M (.iload_n k) pc ls st hp = some res := by
  unfold fx_iload at h
  split at h
  · rename_i hx
    cases h
    simp [ix_sem, ix_ret, ix_alu, ix_loc, hx, ix_len]
  · cases h
noncomputable def fx_istore (k len nL : Nat) (pc : Nat) (ls : ix_L) (st : List Value) (hp : ix_H) : Option (ix_S ⊕ (Option Value × ix_H)) := match st with
  | .int x :: r => if k < nL then some (.inl (pc + len, ix_st1 ls k (.int x), r, hp)) else none
  | _ => none
theorem fxk_istore {k : Nat} (h : fx_istore k 2 M.2.2.2.1 pc ls st hp = some res) : ix_sem T f M (.istore k) pc ls st hp = some res := by
  unfold fx_istore at h
  split at h
  · split at h
    · rename_i hx
      cases h
      simp [ix_sem, ix_ret, ix_alu, ix_loc, hx, ix_len]
    · cases h
  · cases h
theorem fxk_istore_n {k : Fin 4} (h : fx_istore k.val 1 M.2.2.2.1 pc ls st hp = some res) : ix_sem T f M (.istore_n k) pc ls st hp = some res := by
  unfold fx_istore at h
  split at h
  · split at h
    · rename_i hx
      cases h
      simp [ix_sem, ix_ret, ix_alu, ix_loc, hx, ix_len]
    · cases h
  · cases h
noncomputable def fx_lload (k len : Nat) (pc : Nat) (ls : ix_L) (st : List Value) (hp : ix_H) : Option (ix_S ⊕ (Option Value × ix_H)) := match ix_ld ls k with
  | some (.long x) => some (.inl (pc + len, ls, .long x :: st, hp))
  | _ => none
theorem fxk_lload {k : Nat} (h : fx_lload k 2 pc ls st hp = some res) : ix_sem T f M (.lload k) pc ls st hp = some res := by
  unfold fx_lload at h
  split at h
  · rename_i hx
    cases h
    simp [ix_sem, ix_ret, ix_alu, ix_loc, hx, ix_len]
  · cases h
theorem fxk_lload_n {k : Fin 4} (h : fx_lload k.val 1 pc ls st hp = some res) : ix_sem T f M (.lload_n k) pc ls st hp = some res := by
  unfold fx_lload at h
  split at h
  · rename_i hx
    cases h
    simp [ix_sem, ix_ret, ix_alu, ix_loc, hx, ix_len]
  · cases h
noncomputable def fx_lstore (k len nL : Nat) (pc : Nat) (ls : ix_L) (st : List Value) (hp : ix_H) : Option (ix_S ⊕ (Option Value × ix_H)) := match st with
  | .long x :: r => if k + 1 < nL then some (.inl (pc + len, ix_st2 ls k (.long x), r, hp)) else none
  | _ => none
theorem fxk_lstore {k : Nat} (h : fx_lstore k 2 M.2.2.2.1 pc ls st hp = some res) : ix_sem T f M (.lstore k) pc ls st hp = some res := by
  unfold fx_lstore at h
  split at h
  · split at h
    · rename_i hx
      cases h
      simp [ix_sem, ix_ret, ix_alu, ix_loc, hx, ix_len]
    · cases h
  · cases h
theorem fxk_lstore_n {k : Fin 4} (h : fx_lstore k.val 1 M.2.2.2.1 pc ls st hp = some res) : ix_sem T f M (.lstore_n k) pc ls st hp = some res := by
  unfold fx_lstore at h
  split at h
  · split at h
    · rename_i hx
      cases h
      simp [ix_sem, ix_ret, ix_alu, ix_loc, hx, ix_len]
    · cases h
  · cases h
noncomputable def fx_aload (k len : Nat) (pc : Nat) (ls : ix_L) (st : List Value) (hp : ix_H) : Option (ix_S ⊕ (Option Value × ix_H)) := match ix_ld ls k with
  | some (.ref x) => some (.inl (pc + len, ls, .ref x :: st, hp))
  | _ => none
theorem fxk_aload {k : Nat} (h : fx_aload k 2 pc ls st hp = some res) : ix_sem T f M (.aload k) pc ls st hp = some res := by
  unfold fx_aload at h
  split at h
  · rename_i hx
    cases h
    simp [ix_sem, ix_ret, ix_alu, ix_loc, hx, ix_len]
  · cases h
theorem fxk_aload_n {k : Fin 4} (h : fx_aload k.val 1 pc ls st hp = some res) : ix_sem T f M (.aload_n k) pc ls st hp = some res := by
  unfold fx_aload at h
  split at h
  · rename_i hx
    cases h
    simp [ix_sem, ix_ret, ix_alu, ix_loc, hx, ix_len]
  · cases h
noncomputable def fx_astore (k len nL : Nat) (pc : Nat) (ls : ix_L) (st : List Value) (hp : ix_H) : Option (ix_S ⊕ (Option Value × ix_H)) := match st with
  | .ref x :: r => if k < nL then some (.inl (pc + len, ix_st1 ls k (.ref x), r, hp)) else none
  | _ => none
theorem fxk_astore {k : Nat} (h : fx_astore k 2 M.2.2.2.1 pc ls st hp = some res) : ix_sem T f M (.astore k) pc ls st hp = some res := by
  unfold fx_astore at h
  split at h
  · split at h
    · rename_i hx
      cases h
      simp [ix_sem, ix_ret, ix_alu, ix_loc, hx, ix_len]
    · cases h
  · cases h
theorem fxk_astore_n {k : Fin 4} (h : fx_astore k.val 1 M.2.2.2.1 pc ls st hp = some res) : ix_sem T f M (.astore_n k) pc ls st hp = some res := by
  unfold fx_astore at h
  split at h
  · split at h
    · rename_i hx
      cases h
      simp [ix_sem, ix_ret, ix_alu, ix_loc, hx, ix_len]
    · cases h
  · cases h
noncomputable def fx_iinc (k : Nat) (v : Int) (nL : Nat) (pc : Nat) (ls : ix_L) (st : List Value) (hp : ix_H) : Option (ix_S ⊕ (Option Value × ix_H)) := match ix_ld ls k with
  | some (.int x) => if k < nL then some (.inl (pc + 3, ix_st1 ls k (.int (x + Int32.ofInt v)), st, hp)) else none
  | _ => none
theorem fxk_iinc {k : Nat} {v : Int} (h : fx_iinc k v M.2.2.2.1 pc ls st hp = some res) : ix_sem T f M (.iinc k v) pc ls st hp = some res := by
  unfold fx_iinc at h
  split at h
  · rename_i hx
    split at h
    · rename_i hk
      cases h
      simp [ix_sem, ix_ret, ix_alu, ix_loc, hx, hk, ix_len]
    · cases h
  · cases h
end IYF
end
