/-! ===== the same interpreter, laid out so that the kernel works it fast ===== -/
/-- what one instruction does -/
def ix_sem (T : ix_T) (f : ix_F) (M : ix_M) (i : Instr) (pc : Nat) (ls : ix_L) (st : List Value) (hp : ix_H) : Option (ix_S ⊕ (Option Value × ix_H)) := match ix_ret M.2.2.2.2.1 i st with
      | some rv => some (.inr (rv, hp))
      | none => match ix_alu i st with
        | some st' => some (.inl (pc + ix_len i, ls, st', hp))
        | none => match ix_loc i M.2.2.2.1 ls st with
          | some (ls', st') => some (.inl (pc + ix_len i, ls', st', hp))
          | none => match ix_hp T M.1 M.2.2.2.2.2.1 i st hp with
            | some (st', hp') => some (.inl (pc + ix_len i, ls, st', hp'))
            | none => match ix_br i pc st with
              | some (pc', st') => some (.inl (pc', ls, st', hp))
              | none => match ix_cal T f M.1 i st hp with
                | some (st', hp') => some (.inl (pc + ix_len i, ls, st', hp'))
                | none => none
theorem ix_one_sem (T : ix_T) (f : ix_F) (M : ix_M) (pc : Nat) (ls : ix_L) (st : List Value) (hp : ix_H) {i : Instr} (hi : M.2.2.2.2.2.2 pc = some i) : ix_one T f M (pc, ls, st, hp) = ix_sem T f M i pc ls st hp := by
  show (match M.2.2.2.2.2.2 pc with
    | none => none
    | some i => ix_sem T f M i pc ls st hp) = _
  rw [hi]
section IYF
variable {T : ix_T} {f : ix_F} {M : ix_M} {pc : Nat} {ls : ix_L} {st : List Value} {hp : ix_H} {res : ix_S ⊕ (Option Value × ix_H)}
def fx_iadd (pc : Nat) (ls : ix_L) (st : List Value) (hp : ix_H) : Option (ix_S ⊕ (Option Value × ix_H)) := match st with
  | .int y :: .int x :: r => some (.inl (pc + 1, ls, .int (x + y) :: r, hp))
  | _ => none
theorem fxk_iadd (h : fx_iadd pc ls st hp = some res) : ix_sem T f M (.iadd) pc ls st hp = some res := by
  unfold fx_iadd at h
  repeat' (split at h)
  all_goals first | (cases h; done) | (cases h; rfl)
def fx_isub (pc : Nat) (ls : ix_L) (st : List Value) (hp : ix_H) : Option (ix_S ⊕ (Option Value × ix_H)) := match st with
  | .int y :: .int x :: r => some (.inl (pc + 1, ls, .int (x - y) :: r, hp))
  | _ => none
theorem fxk_isub (h : fx_isub pc ls st hp = some res) : ix_sem T f M (.isub) pc ls st hp = some res := by
  unfold fx_isub at h
  repeat' (split at h)
  all_goals first | (cases h; done) | (cases h; rfl)
def fx_imul (pc : Nat) (ls : ix_L) (st : List Value) (hp : ix_H) : Option (ix_S ⊕ (Option Value × ix_H)) := match st with
  | .int y :: .int x :: r => some (.inl (pc + 1, ls, .int (x * y) :: r, hp))
  | _ => none
theorem fxk_imul (h : fx_imul pc ls st hp = some res) : ix_sem T f M (.imul) pc ls st hp = some res := by
  unfold fx_imul at h
  repeat' (split at h)
  all_goals first | (cases h; done) | (cases h; rfl)
def fx_iand (pc : Nat) (ls : ix_L) (st : List Value) (hp : ix_H) : Option (ix_S ⊕ (Option Value × ix_H)) := match st with
  | .int y :: .int x :: r => some (.inl (pc + 1, ls, .int (x &&& y) :: r, hp))
  | _ => none
theorem fxk_iand (h : fx_iand pc ls st hp = some res) : ix_sem T f M (.iand) pc ls st hp = some res := by
  unfold fx_iand at h
  repeat' (split at h)
  all_goals first | (cases h; done) | (cases h; rfl)
def fx_ior (pc : Nat) (ls : ix_L) (st : List Value) (hp : ix_H) : Option (ix_S ⊕ (Option Value × ix_H)) := match st with
  | .int y :: .int x :: r => some (.inl (pc + 1, ls, .int (x ||| y) :: r, hp))
  | _ => none
theorem fxk_ior (h : fx_ior pc ls st hp = some res) : ix_sem T f M (.ior) pc ls st hp = some res := by
  unfold fx_ior at h
  repeat' (split at h)
  all_goals first | (cases h; done) | (cases h; rfl)
def fx_ixor (pc : Nat) (ls : ix_L) (st : List Value) (hp : ix_H) : Option (ix_S ⊕ (Option Value × ix_H)) := match st with
  | .int y :: .int x :: r => some (.inl (pc + 1, ls, .int (x ^^^ y) :: r, hp))
  | _ => none
theorem fxk_ixor (h : fx_ixor pc ls st hp = some res) : ix_sem T f M (.ixor) pc ls st hp = some res := by
  unfold fx_ixor at h
  repeat' (split at h)
  all_goals first | (cases h; done) | (cases h; rfl)
def fx_ishl (pc : Nat) (ls : ix_L) (st : List Value) (hp : ix_H) : Option (ix_S ⊕ (Option Value × ix_H)) := match st with
  | .int y :: .int x :: r => some (.inl (pc + 1, ls, .int (x <<< (y &&& 31)) :: r, hp))
  | _ => none
theorem fxk_ishl (h : fx_ishl pc ls st hp = some res) : ix_sem T f M (.ishl) pc ls st hp = some res := by
  unfold fx_ishl at h
  repeat' (split at h)
  all_goals first | (cases h; done) | (cases h; rfl)
def fx_ishr (pc : Nat) (ls : ix_L) (st : List Value) (hp : ix_H) : Option (ix_S ⊕ (Option Value × ix_H)) := match st with
  | .int y :: .int x :: r => some (.inl (pc + 1, ls, .int (x >>> (y &&& 31)) :: r, hp))
  | _ => none
theorem fxk_ishr (h : fx_ishr pc ls st hp = some res) : ix_sem T f M (.ishr) pc ls st hp = some res := by
  unfold fx_ishr at h
  repeat' (split at h)
  all_goals first | (cases h; done) | (cases h; rfl)
def fx_iushr (pc : Nat) (ls : ix_L) (st : List Value) (hp : ix_H) : Option (ix_S ⊕ (Option Value × ix_H)) := match st with
  | .int y :: .int x :: r => some (.inl (pc + 1, ls, .int ((x.toUInt32 >>> (y.toUInt32 &&& Int32.toUInt32 31)).toInt32) :: r, hp))
  | _ => none
theorem fxk_iushr (h : fx_iushr pc ls st hp = some res) : ix_sem T f M (.iushr) pc ls st hp = some res := by
  unfold fx_iushr at h
  repeat' (split at h)
  all_goals first | (cases h; done) | (cases h; rfl)
def fx_ladd (pc : Nat) (ls : ix_L) (st : List Value) (hp : ix_H) : Option (ix_S ⊕ (Option Value × ix_H)) := match st with
  | .long y :: .long x :: r => some (.inl (pc + 1, ls, .long (x + y) :: r, hp))
  | _ => none
theorem fxk_ladd (h : fx_ladd pc ls st hp = some res) : ix_sem T f M (.ladd) pc ls st hp = some res := by
  unfold fx_ladd at h
  repeat' (split at h)
  all_goals first | (cases h; done) | (cases h; rfl)
def fx_lsub (pc : Nat) (ls : ix_L) (st : List Value) (hp : ix_H) : Option (ix_S ⊕ (Option Value × ix_H)) := match st with
  | .long y :: .long x :: r => some (.inl (pc + 1, ls, .long (x - y) :: r, hp))
  | _ => none
theorem fxk_lsub (h : fx_lsub pc ls st hp = some res) : ix_sem T f M (.lsub) pc ls st hp = some res := by
  unfold fx_lsub at h
  repeat' (split at h)
  all_goals first | (cases h; done) | (cases h; rfl)
def fx_lmul (pc : Nat) (ls : ix_L) (st : List Value) (hp : ix_H) : Option (ix_S ⊕ (Option Value × ix_H)) := match st with
  | .long y :: .long x :: r => some (.inl (pc + 1, ls, .long (x * y) :: r, hp))
  | _ => none
theorem fxk_lmul (h : fx_lmul pc ls st hp = some res) : ix_sem T f M (.lmul) pc ls st hp = some res := by
  unfold fx_lmul at h
  repeat' (split at h)
  all_goals first | (cases h; done) | (cases h; rfl)
def fx_land (pc : Nat) (ls : ix_L) (st : List Value) (hp : ix_H) : Option (ix_S ⊕ (Option Value × ix_H)) := match st with
  | .long y :: .long x :: r => some (.inl (pc + 1, ls, .long (x &&& y) :: r, hp))
  | _ => none
theorem fxk_land (h : fx_land pc ls st hp = some res) : ix_sem T f M (.land) pc ls st hp = some res := by
  unfold fx_land at h
  repeat' (split at h)
  all_goals first | (cases h; done) | (cases h; rfl)
def fx_lor (pc : Nat) (ls : ix_L) (st : List Value) (hp : ix_H) : Option (ix_S ⊕ (Option Value × ix_H)) := match st with
  | .long y :: .long x :: r => some (.inl (pc + 1, ls, .long (x ||| y) :: r, hp))
  | _ => none
theorem fxk_lor (h : fx_lor pc ls st hp = some res) : ix_sem T f M (.lor) pc ls st hp = some res := by
  unfold fx_lor at h
  repeat' (split at h)
  all_goals first | (cases h; done) | (cases h; rfl)
def fx_lxor (pc : Nat) (ls : ix_L) (st : List Value) (hp : ix_H) : Option (ix_S ⊕ (Option Value × ix_H)) := match st with
  | .long y :: .long x :: r => some (.inl (pc + 1, ls, .long (x ^^^ y) :: r, hp))
  | _ => none
theorem fxk_lxor (h : fx_lxor pc ls st hp = some res) : ix_sem T f M (.lxor) pc ls st hp = some res := by
  unfold fx_lxor at h
  repeat' (split at h)
  all_goals first | (cases h; done) | (cases h; rfl)
def fx_idiv (pc : Nat) (ls : ix_L) (st : List Value) (hp : ix_H) : Option (ix_S ⊕ (Option Value × ix_H)) := match st with
  | .int y :: .int x :: r => if y = 0 then none else some (.inl (pc + 1, ls, .int (x / y) :: r, hp))
  | _ => none
theorem fxk_idiv (h : fx_idiv pc ls st hp = some res) : ix_sem T f M (.idiv) pc ls st hp = some res := by
  unfold fx_idiv at h
  split at h
  · split at h
    · cases h
    · rename_i hy
      cases h
      simp [ix_sem, ix_ret, ix_alu, hy, ix_len]
  · cases h
def fx_irem (pc : Nat) (ls : ix_L) (st : List Value) (hp : ix_H) : Option (ix_S ⊕ (Option Value × ix_H)) := match st with
  | .int y :: .int x :: r => if y = 0 then none else some (.inl (pc + 1, ls, .int (x - x / y * y) :: r, hp))
  | _ => none
theorem fxk_irem (h : fx_irem pc ls st hp = some res) : ix_sem T f M (.irem) pc ls st hp = some res := by
  unfold fx_irem at h
  split at h
  · split at h
    · cases h
    · rename_i hy
      cases h
      simp [ix_sem, ix_ret, ix_alu, hy, ix_len]
  · cases h
def fx_ldiv (pc : Nat) (ls : ix_L) (st : List Value) (hp : ix_H) : Option (ix_S ⊕ (Option Value × ix_H)) := match st with
  | .long y :: .long x :: r => if y = 0 then none else some (.inl (pc + 1, ls, .long (x / y) :: r, hp))
  | _ => none
theorem fxk_ldiv (h : fx_ldiv pc ls st hp = some res) : ix_sem T f M (.ldiv) pc ls st hp = some res := by
  unfold fx_ldiv at h
  split at h
  · split at h
    · cases h
    · rename_i hy
      cases h
      simp [ix_sem, ix_ret, ix_alu, hy, ix_len]
  · cases h
def fx_lrem (pc : Nat) (ls : ix_L) (st : List Value) (hp : ix_H) : Option (ix_S ⊕ (Option Value × ix_H)) := match st with
  | .long y :: .long x :: r => if y = 0 then none else some (.inl (pc + 1, ls, .long (x - x / y * y) :: r, hp))
  | _ => none
theorem fxk_lrem (h : fx_lrem pc ls st hp = some res) : ix_sem T f M (.lrem) pc ls st hp = some res := by
  unfold fx_lrem at h
  split at h
  · split at h
    · cases h
    · rename_i hy
      cases h
      simp [ix_sem, ix_ret, ix_alu, hy, ix_len]
  · cases h
def fx_lshl (pc : Nat) (ls : ix_L) (st : List Value) (hp : ix_H) : Option (ix_S ⊕ (Option Value × ix_H)) := match st with
  | .int y :: .long x :: r => some (.inl (pc + 1, ls, .long (x <<< (y.toInt64 &&& 63)) :: r, hp))
  | _ => none
theorem fxk_lshl (h : fx_lshl pc ls st hp = some res) : ix_sem T f M (.lshl) pc ls st hp = some res := by
  unfold fx_lshl at h
  repeat' (split at h)
  all_goals first | (cases h; done) | (cases h; rfl)
def fx_lshr (pc : Nat) (ls : ix_L) (st : List Value) (hp : ix_H) : Option (ix_S ⊕ (Option Value × ix_H)) := match st with
  | .int y :: .long x :: r => some (.inl (pc + 1, ls, .long (x >>> (y.toInt64 &&& 63)) :: r, hp))
  | _ => none
theorem fxk_lshr (h : fx_lshr pc ls st hp = some res) : ix_sem T f M (.lshr) pc ls st hp = some res := by
  unfold fx_lshr at h
  repeat' (split at h)
  all_goals first | (cases h; done) | (cases h; rfl)
def fx_lushr (pc : Nat) (ls : ix_L) (st : List Value) (hp : ix_H) : Option (ix_S ⊕ (Option Value × ix_H)) := match st with
  | .int y :: .long x :: r => some (.inl (pc + 1, ls, .long ((x.toUInt64 >>> (y.toInt64.toUInt64 &&& Int64.toUInt64 63)).toInt64) :: r, hp))
  | _ => none
theorem fxk_lushr (h : fx_lushr pc ls st hp = some res) : ix_sem T f M (.lushr) pc ls st hp = some res := by
  unfold fx_lushr at h
  repeat' (split at h)
  all_goals first | (cases h; done) | (cases h; rfl)
def fx_ineg (pc : Nat) (ls : ix_L) (st : List Value) (hp : ix_H) : Option (ix_S ⊕ (Option Value × ix_H)) := match st with
  | .int x :: r => some (.inl (pc + 1, ls, .int (-x) :: r, hp))
  | _ => none
theorem fxk_ineg (h : fx_ineg pc ls st hp = some res) : ix_sem T f M (.ineg) pc ls st hp = some res := by
  unfold fx_ineg at h
  repeat' (split at h)
  all_goals first | (cases h; done) | (cases h; rfl)
def fx_lneg (pc : Nat) (ls : ix_L) (st : List Value) (hp : ix_H) : Option (ix_S ⊕ (Option Value × ix_H)) := match st with
  | .long x :: r => some (.inl (pc + 1, ls, .long (-x) :: r, hp))
  | _ => none
theorem fxk_lneg (h : fx_lneg pc ls st hp = some res) : ix_sem T f M (.lneg) pc ls st hp = some res := by
  unfold fx_lneg at h
  repeat' (split at h)
  all_goals first | (cases h; done) | (cases h; rfl)
def fx_i2l (pc : Nat) (ls : ix_L) (st : List Value) (hp : ix_H) : Option (ix_S ⊕ (Option Value × ix_H)) := match st with
  | .int x :: r => some (.inl (pc + 1, ls, .long (x.toInt64) :: r, hp))
  | _ => none
theorem fxk_i2l (h : fx_i2l pc ls st hp = some res) : ix_sem T f M (.i2l) pc ls st hp = some res := by
  unfold fx_i2l at h
  repeat' (split at h)
  all_goals first | (cases h; done) | (cases h; rfl)
def fx_l2i (pc : Nat) (ls : ix_L) (st : List Value) (hp : ix_H) : Option (ix_S ⊕ (Option Value × ix_H)) := match st with
  | .long x :: r => some (.inl (pc + 1, ls, .int (x.toInt32) :: r, hp))
  | _ => none
theorem fxk_l2i (h : fx_l2i pc ls st hp = some res) : ix_sem T f M (.l2i) pc ls st hp = some res := by
  unfold fx_l2i at h
  repeat' (split at h)
  all_goals first | (cases h; done) | (cases h; rfl)
def fx_i2b (pc : Nat) (ls : ix_L) (st : List Value) (hp : ix_H) : Option (ix_S ⊕ (Option Value × ix_H)) := match st with
  | .int x :: r => some (.inl (pc + 1, ls, .int (x.toInt8.toInt32) :: r, hp))
  | _ => none
theorem fxk_i2b (h : fx_i2b pc ls st hp = some res) : ix_sem T f M (.i2b) pc ls st hp = some res := by
  unfold fx_i2b at h
  repeat' (split at h)
  all_goals first | (cases h; done) | (cases h; rfl)
def fx_i2s (pc : Nat) (ls : ix_L) (st : List Value) (hp : ix_H) : Option (ix_S ⊕ (Option Value × ix_H)) := match st with
  | .int x :: r => some (.inl (pc + 1, ls, .int (x.toInt16.toInt32) :: r, hp))
  | _ => none
theorem fxk_i2s (h : fx_i2s pc ls st hp = some res) : ix_sem T f M (.i2s) pc ls st hp = some res := by
  unfold fx_i2s at h
  repeat' (split at h)
  all_goals first | (cases h; done) | (cases h; rfl)
def fx_i2c (pc : Nat) (ls : ix_L) (st : List Value) (hp : ix_H) : Option (ix_S ⊕ (Option Value × ix_H)) := match st with
  | .int x :: r => some (.inl (pc + 1, ls, .int ((x.toUInt32 % 65536).toInt32) :: r, hp))
  | _ => none
theorem fxk_i2c (h : fx_i2c pc ls st hp = some res) : ix_sem T f M (.i2c) pc ls st hp = some res := by
  unfold fx_i2c at h
  repeat' (split at h)
  all_goals first | (cases h; done) | (cases h; rfl)
def fx_lcmp (pc : Nat) (ls : ix_L) (st : List Value) (hp : ix_H) : Option (ix_S ⊕ (Option Value × ix_H)) := match st with
  | .long y :: .long x :: r => some (.inl (pc + 1, ls, .int (lg_cmp x y) :: r, hp))
  | _ => none
theorem fxk_lcmp (h : fx_lcmp pc ls st hp = some res) : ix_sem T f M (.lcmp) pc ls st hp = some res := by
  unfold fx_lcmp at h
  repeat' (split at h)
  all_goals first | (cases h; done) | (cases h; rfl)
def fx_dup (pc : Nat) (ls : ix_L) (st : List Value) (hp : ix_H) : Option (ix_S ⊕ (Option Value × ix_H)) := match st with
  | a :: r => if a.category = 1 then some (.inl (pc + 1, ls, a :: a :: r, hp)) else none
  | _ => none
theorem fxk_dup (h : fx_dup pc ls st hp = some res) : ix_sem T f M (.dup) pc ls st hp = some res := by
  unfold fx_dup at h
  split at h
  · split at h
    · rename_i ha
      cases h
      simp [ix_sem, ix_ret, ix_alu, ha, ix_len]
    · cases h
  · cases h
def fx_pop (pc : Nat) (ls : ix_L) (st : List Value) (hp : ix_H) : Option (ix_S ⊕ (Option Value × ix_H)) := match st with
  | a :: r => if a.category = 1 then some (.inl (pc + 1, ls, r, hp)) else none
  | _ => none
theorem fxk_pop (h : fx_pop pc ls st hp = some res) : ix_sem T f M (.pop) pc ls st hp = some res := by
  unfold fx_pop at h
  split at h
  · split at h
    · rename_i ha
      cases h
      simp [ix_sem, ix_ret, ix_alu, ha, ix_len]
    · cases h
  · cases h
def fx_dup2 (pc : Nat) (ls : ix_L) (st : List Value) (hp : ix_H) : Option (ix_S ⊕ (Option Value × ix_H)) := match st with
  | a :: b :: r => if a.category = 1 ∧ b.category = 1 then some (.inl (pc + 1, ls, a :: b :: a :: b :: r, hp)) else none
  | _ => none
theorem fxk_dup2 (h : fx_dup2 pc ls st hp = some res) : ix_sem T f M (.dup2) pc ls st hp = some res := by
  unfold fx_dup2 at h
  split at h
  · split at h
    · rename_i ha
      cases h
      simp [ix_sem, ix_ret, ix_alu, ha, ix_len]
    · cases h
  · cases h
def fx_iconst (v : Int) (pc : Nat) (ls : ix_L) (st : List Value) (hp : ix_H) : Option (ix_S ⊕ (Option Value × ix_H)) := some (.inl (pc + 1, ls, .int (Int32.ofInt v) :: st, hp))
theorem fxk_iconst {v : Int} (h : fx_iconst v pc ls st hp = some res) : ix_sem T f M (.iconst v) pc ls st hp = some res := by
  cases h
  rfl
def fx_bipush (v : Int) (pc : Nat) (ls : ix_L) (st : List Value) (hp : ix_H) : Option (ix_S ⊕ (Option Value × ix_H)) := some (.inl (pc + 2, ls, .int ((Int8.ofInt v).toInt32) :: st, hp))
theorem fxk_bipush {v : Int} (h : fx_bipush v pc ls st hp = some res) : ix_sem T f M (.bipush v) pc ls st hp = some res := by
  cases h
  rfl
def fx_sipush (v : Int) (pc : Nat) (ls : ix_L) (st : List Value) (hp : ix_H) : Option (ix_S ⊕ (Option Value × ix_H)) := some (.inl (pc + 3, ls, .int ((Int16.ofInt v).toInt32) :: st, hp))
theorem fxk_sipush {v : Int} (h : fx_sipush v pc ls st hp = some res) : ix_sem T f M (.sipush v) pc ls st hp = some res := by
  cases h
  rfl
def fx_lconst (v : Fin 2) (pc : Nat) (ls : ix_L) (st : List Value) (hp : ix_H) : Option (ix_S ⊕ (Option Value × ix_H)) := some (.inl (pc + 1, ls, .long (Int64.ofNat (v : Nat)) :: st, hp))
theorem fxk_lconst {v : Fin 2} (h : fx_lconst v pc ls st hp = some res) : ix_sem T f M (.lconst v) pc ls st hp = some res := by
  cases h
  rfl
def fx_iload (k len : Nat) (pc : Nat) (ls : ix_L) (st : List Value) (hp : ix_H) : Option (ix_S ⊕ (Option Value × ix_H)) := match ix_ld ls k with
  | some (.int x) => some (.inl (pc + len, ls, .int x :: st, hp))
  | _ => none
theorem fxk_iload {k : Nat} (h : fx_iload k 2 pc ls st hp = some res) : ix_sem T f M (.iload k) pc ls st hp = some res := by
  unfold fx_iload at h
  split at h
  · rename_i hx
    cases h
    simp [ix_sem, ix_ret, ix_alu, ix_loc, hx, ix_len]
  · cases h
theorem fxk_iload_n {k : Fin 4} (h : fx_iload k.val 1 pc ls st hp = some res) : ix_sem T f M (.iload_n k) pc ls st hp = some res := by
  unfold fx_iload at h
  split at h
  · rename_i hx
    cases h
    simp [ix_sem, ix_ret, ix_alu, ix_loc, hx, ix_len]
  · cases h
def fx_istore (k len nL : Nat) (pc : Nat) (ls : ix_L) (st : List Value) (hp : ix_H) : Option (ix_S ⊕ (Option Value × ix_H)) := match st with
  | .int x :: r => if k < nL then some (.inl (pc + len, ix_st1 ls k (.int x), r, hp)) else none
  | _ => none
theorem fxk_istore {k : Nat} (h : fx_istore k 2 M.2.2.2.1 pc ls st hp = some res) : ix_sem T f M (.istore k) pc ls st hp = some res := by
  unfold fx_istore at h
  split at h
  · split at h
    · rename_i hx
      cases h
      simp [ix_sem, ix_ret, ix_alu, ix_loc, hx, ix_len]
    · cases h
  · cases h
theorem fxk_istore_n {k : Fin 4} (h : fx_istore k.val 1 M.2.2.2.1 pc ls st hp = some res) : ix_sem T f M (.istore_n k) pc ls st hp = some res := by
  unfold fx_istore at h
  split at h
  · split at h
    · rename_i hx
      cases h
      simp [ix_sem, ix_ret, ix_alu, ix_loc, hx, ix_len]
    · cases h
  · cases h
def fx_lload (k len : Nat) (pc : Nat) (ls : ix_L) (st : List Value) (hp : ix_H) : Option (ix_S ⊕ (Option Value × ix_H)) := match ix_ld ls k with
  | some (.long x) => some (.inl (pc + len, ls, .long x :: st, hp))
  | _ => none
theorem fxk_lload {k : Nat} (h : fx_lload k 2 pc ls st hp = some res) : ix_sem T f M (.lload k) pc ls st hp = some res := by
  unfold fx_lload at h
  split at h
  · rename_i hx
    cases h
    simp [ix_sem, ix_ret, ix_alu, ix_loc, hx, ix_len]
  · cases h
theorem fxk_lload_n {k : Fin 4} (h : fx_lload k.val 1 pc ls st hp = some res) : ix_sem T f M (.lload_n k) pc ls st hp = some res := by
  unfold fx_lload at h
  split at h
  · rename_i hx
    cases h
    simp [ix_sem, ix_ret, ix_alu, ix_loc, hx, ix_len]
  · cases h
def fx_lstore (k len nL : Nat) (pc : Nat) (ls : ix_L) (st : List Value) (hp : ix_H) : Option (ix_S ⊕ (Option Value × ix_H)) := match st with
  | .long x :: r => if k + 1 < nL then some (.inl (pc + len, ix_st2 ls k (.long x), r, hp)) else none
  | _ => none
theorem fxk_lstore {k : Nat} (h : fx_lstore k 2 M.2.2.2.1 pc ls st hp = some res) : ix_sem T f M (.lstore k) pc ls st hp = some res := by
  unfold fx_lstore at h
  split at h
  · split at h
    · rename_i hx
      cases h
      simp [ix_sem, ix_ret, ix_alu, ix_loc, hx, ix_len]
    · cases h
  · cases h
theorem fxk_lstore_n {k : Fin 4} (h : fx_lstore k.val 1 M.2.2.2.1 pc ls st hp = some res) : ix_sem T f M (.lstore_n k) pc ls st hp = some res := by
  unfold fx_lstore at h
  split at h
  · split at h
    · rename_i hx
      cases h
      simp [ix_sem, ix_ret, ix_alu, ix_loc, hx, ix_len]
    · cases h
  · cases h
def fx_aload (k len : Nat) (pc : Nat) (ls : ix_L) (st : List Value) (hp : ix_H) : Option (ix_S ⊕ (Option Value × ix_H)) := match ix_ld ls k with
  | some (.ref x) => some (.inl (pc + len, ls, .ref x :: st, hp))
  | _ => none
theorem fxk_aload {k : Nat} (h : fx_aload k 2 pc ls st hp = some res) : ix_sem T f M (.aload k) pc ls st hp = some res := by
  unfold fx_aload at h
  split at h
  · rename_i hx
    cases h
    simp [ix_sem, ix_ret, ix_alu, ix_loc, hx, ix_len]
  · cases h
theorem fxk_aload_n {k : Fin 4} (h : fx_aload k.val 1 pc ls st hp = some res) : ix_sem T f M (.aload_n k) pc ls st hp = some res := by
  unfold fx_aload at h
  split at h
  · rename_i hx
    cases h
    simp [ix_sem, ix_ret, ix_alu, ix_loc, hx, ix_len]
  · cases h
def fx_astore (k len nL : Nat) (pc : Nat) (ls : ix_L) (st : List Value) (hp : ix_H) : Option (ix_S ⊕ (Option Value × ix_H)) := match st with
  | .ref x :: r => if k < nL then some (.inl (pc + len, ix_st1 ls k (.ref x), r, hp)) else none
  | _ => none
theorem fxk_astore {k : Nat} (h : fx_astore k 2 M.2.2.2.1 pc ls st hp = some res) : ix_sem T f M (.astore k) pc ls st hp = some res := by
  unfold fx_astore at h
  split at h
  · split at h
    · rename_i hx
      cases h
      simp [ix_sem, ix_ret, ix_alu, ix_loc, hx, ix_len]
    · cases h
  · cases h
theorem fxk_astore_n {k : Fin 4} (h : fx_astore k.val 1 M.2.2.2.1 pc ls st hp = some res) : ix_sem T f M (.astore_n k) pc ls st hp = some res := by
  unfold fx_astore at h
  split at h
  · split at h
    · rename_i hx
      cases h
      simp [ix_sem, ix_ret, ix_alu, ix_loc, hx, ix_len]
    · cases h
  · cases h
def fx_iinc (k : Nat) (v : Int) (nL : Nat) (pc : Nat) (ls : ix_L) (st : List Value) (hp : ix_H) : Option (ix_S ⊕ (Option Value × ix_H)) := match ix_ld ls k with
  | some (.int x) => if k < nL then some (.inl (pc + 3, ix_st1 ls k (.int (x + Int32.ofInt v)), st, hp)) else none
  | _ => none
theorem fxk_iinc {k : Nat} {v : Int} (h : fx_iinc k v M.2.2.2.1 pc ls st hp = some res) : ix_sem T f M (.iinc k v) pc ls st hp = some res := by
  unfold fx_iinc at h
  split at h
  · rename_i hx
    split at h
    · rename_i hk
      cases h
      simp [ix_sem, ix_ret, ix_alu, ix_loc, hx, hk, ix_len]
    · cases h
  · cases h
def fx_goto (off : Int) (pc : Nat) (ls : ix_L) (st : List Value) (hp : ix_H) : Option (ix_S ⊕ (Option Value × ix_H)) := match ix_tg pc off with
  | some t => some (.inl (t, ls, st, hp))
  | none => none
theorem fxk_goto {off : Int} (h : fx_goto off pc ls st hp = some res) : ix_sem T f M (.goto off) pc ls st hp = some res := by
  unfold fx_goto at h
  split at h
  · rename_i hx
    cases h
    simp [ix_sem, ix_ret, ix_alu, ix_loc, ix_hp, ix_br, hx]
  · cases h
def fx_if (cd : Jvm.ClassFile.Cond) (off : Int) (pc : Nat) (ls : ix_L) (st : List Value) (hp : ix_H) : Option (ix_S ⊕ (Option Value × ix_H)) := match st with
  | .int x :: r => (match ix_tg pc off with
    | some t => bif ix_cb cd x 0 then some (.inl (t, ls, r, hp)) else some (.inl (pc + 3, ls, r, hp))
    | none => none)
  | _ => none
theorem fxk_if {cd : Jvm.ClassFile.Cond} {off : Int} (h : fx_if cd off pc ls st hp = some res) : ix_sem T f M (.ifCond cd off) pc ls st hp = some res := by
  unfold fx_if at h
  split at h
  · rename_i x r
    split at h
    · rename_i hx
      cases hc : ix_cb cd x 0 <;> (rw [hc] at h; cases h; simp [ix_sem, ix_ret, ix_alu, ix_loc, ix_hp, ix_br, hx, hc])
    · cases h
  · cases h
def fx_icmp (cd : Jvm.ClassFile.Cond) (off : Int) (pc : Nat) (ls : ix_L) (st : List Value) (hp : ix_H) : Option (ix_S ⊕ (Option Value × ix_H)) := match st with
  | .int y :: .int x :: r => (match ix_tg pc off with
    | some t => bif ix_cb cd x y then some (.inl (t, ls, r, hp)) else some (.inl (pc + 3, ls, r, hp))
    | none => none)
  | _ => none
theorem fxk_icmp {cd : Jvm.ClassFile.Cond} {off : Int} (h : fx_icmp cd off pc ls st hp = some res) : ix_sem T f M (.if_icmp cd off) pc ls st hp = some res := by
  unfold fx_icmp at h
  split at h
  · rename_i y x r
    split at h
    · rename_i hx
      cases hc : ix_cb cd x y <;> (rw [hc] at h; cases h; simp [ix_sem, ix_ret, ix_alu, ix_loc, ix_hp, ix_br, hx, hc])
    · cases h
  · cases h
def fx_tsw (dflt lo hi : Int) (offs : Array Int) (pc : Nat) (ls : ix_L) (st : List Value) (hp : ix_H) : Option (ix_S ⊕ (Option Value × ix_H)) := match st with
  | .int x :: r => if x.toInt < lo ∨ hi < x.toInt then (match ix_tg pc dflt with
    | some t => some (.inl (t, ls, r, hp))
    | none => none) else (match offs[(x.toInt - lo).toNat]? with
    | some off => (match ix_tg pc off with
      | some t => some (.inl (t, ls, r, hp))
      | none => none)
    | none => none)
  | _ => none
theorem fxk_tsw {dflt lo hi : Int} {offs : Array Int} (h : fx_tsw dflt lo hi offs pc ls st hp = some res) : ix_sem T f M (.tableswitch dflt lo hi offs) pc ls st hp = some res := by
  unfold fx_tsw at h
  split at h
  · split at h
    · rename_i hc
      split at h
      · rename_i ht
        cases h
        simp [ix_sem, ix_ret, ix_alu, ix_loc, ix_hp, ix_br, hc, ht]
      · cases h
    · rename_i hc
      split at h
      · rename_i off ho
        split at h
        · rename_i ht
          cases h
          simp [ix_sem, ix_ret, ix_alu, ix_loc, ix_hp, ix_br, hc, ht, ho]
        · cases h
      · cases h
  · cases h
def fx_getfield (T : ix_T) (oc : Nat) (ini : Bool) (idx : Nat) (pc : Nat) (ls : ix_L) (st : List Value) (hp : ix_H) : Option (ix_S ⊕ (Option Value × ix_H)) := match st with
  | .ref a :: r => (match ix_tF T oc idx, ix_obj hp a with
    | some (ci, j), some (c, fs) => if c = ci then (match fs[j]? with
      | some v => some (.inl (pc + 3, ls, v :: r, hp))
      | none => none) else none
    | _, _ => none)
  | _ => none
theorem fxk_getfield {idx : Nat} (h : fx_getfield T M.1 M.2.2.2.2.2.1 idx pc ls st hp = some res) : ix_sem T f M (.getfield idx) pc ls st hp = some res := by
  unfold fx_getfield at h
  repeat' (split at h)
  all_goals first | (cases h; done) | (rename_i h1 h2; cases h; simp [ix_sem, ix_ret, ix_alu, ix_loc, ix_hp, ix_len, h1, if_neg h2]; done) | (rename_i h0 _ _ _ h1 h2; cases h; simp [ix_sem, ix_ret, ix_alu, ix_loc, ix_hp, ix_len, h0, h1, if_neg h2]; done) | (cases h; simp_all [ix_sem, ix_ret, ix_alu, ix_loc, ix_hp, ix_len]; done)
def fx_putfield (T : ix_T) (oc : Nat) (ini : Bool) (idx : Nat) (pc : Nat) (ls : ix_L) (st : List Value) (hp : ix_H) : Option (ix_S ⊕ (Option Value × ix_H)) := match st with
  | v :: .ref a :: r => (match ix_tF T oc idx, ix_obj hp a with
    | some (ci, j), some (c, fs) => if c = ci ∧ j < fs.length ∧ narrow ((ix_tD T ci).2 j).1 v = v ∧ fits ((ix_tD T ci).2 j).1 v = true ∧ (((ix_tD T ci).2 j).2 = false ∨ (ini = true ∧ ci = oc)) then some (.inl (pc + 3, ls, r, ix_put hp a (.inr (c, fs.set j v)))) else none
    | _, _ => none)
  | _ => none
theorem fxk_putfield {idx : Nat} (h : fx_putfield T M.1 M.2.2.2.2.2.1 idx pc ls st hp = some res) : ix_sem T f M (.putfield idx) pc ls st hp = some res := by
  unfold fx_putfield at h
  repeat' (split at h)
  all_goals first | (cases h; done) | (rename_i h1 h2; cases h; simp [ix_sem, ix_ret, ix_alu, ix_loc, ix_hp, ix_len, h1, if_neg h2]; done) | (rename_i h0 _ _ _ h1 h2; cases h; simp [ix_sem, ix_ret, ix_alu, ix_loc, ix_hp, ix_len, h0, h1, if_neg h2]; done) | (cases h; simp_all [ix_sem, ix_ret, ix_alu, ix_loc, ix_hp, ix_len]; done)
def fx_arraylength (T : ix_T) (oc : Nat) (ini : Bool)  (pc : Nat) (ls : ix_L) (st : List Value) (hp : ix_H) : Option (ix_S ⊕ (Option Value × ix_H)) := match st with
  | .ref a :: r => (match ix_arr hp a with
    | some (t, n, _) => if t < 3 ∨ (ix_tE T t).isSome = true then some (.inl (pc + 1, ls, .int (Int32.ofNat n) :: r, hp)) else none
    | none => match ix_cns T a with
      | some (n, _) => some (.inl (pc + 1, ls, .int (Int32.ofNat n) :: r, hp))
      | none => none)
  | _ => none
theorem fxk_arraylength  (h : fx_arraylength T M.1 M.2.2.2.2.2.1  pc ls st hp = some res) : ix_sem T f M (.arraylength) pc ls st hp = some res := by
  unfold fx_arraylength at h
  repeat' (split at h)
  all_goals first | (cases h; done) | (rename_i h1 h2; cases h; simp [ix_sem, ix_ret, ix_alu, ix_loc, ix_hp, ix_len, h1, if_neg h2]; done) | (rename_i h0 _ _ _ h1 h2; cases h; simp [ix_sem, ix_ret, ix_alu, ix_loc, ix_hp, ix_len, h0, h1, if_neg h2]; done) | (cases h; simp_all [ix_sem, ix_ret, ix_alu, ix_loc, ix_hp, ix_len]; done)
def fx_iaload (T : ix_T) (oc : Nat) (ini : Bool)  (pc : Nat) (ls : ix_L) (st : List Value) (hp : ix_H) : Option (ix_S ⊕ (Option Value × ix_H)) := match st with
  | .int i :: .ref a :: r => (match ix_arr hp a with
    | some (0, n, .inl f) => if i < 0 ∨ n ≤ i.toNatClampNeg then none else some (.inl (pc + 1, ls, .int (f i.toNatClampNeg) :: r, hp))
    | some _ => none
    | none => match ix_cns T a with
      | some (n, f) => if i < 0 ∨ n ≤ i.toNatClampNeg then none else some (.inl (pc + 1, ls, .int (f i.toNatClampNeg) :: r, hp))
      | none => none)
  | _ => none
theorem fxk_iaload  (h : fx_iaload T M.1 M.2.2.2.2.2.1  pc ls st hp = some res) : ix_sem T f M (.iaload) pc ls st hp = some res := by
  unfold fx_iaload at h
  repeat' (split at h)
  all_goals first | (cases h; done) | (rename_i h1 h2; cases h; simp [ix_sem, ix_ret, ix_alu, ix_loc, ix_hp, ix_len, h1, if_neg h2]; done) | (rename_i h0 _ _ _ h1 h2; cases h; simp [ix_sem, ix_ret, ix_alu, ix_loc, ix_hp, ix_len, h0, h1, if_neg h2]; done) | (cases h; simp_all [ix_sem, ix_ret, ix_alu, ix_loc, ix_hp, ix_len]; done)
def fx_getstatic (T : ix_T) (oc : Nat) (_ : Bool) (idx : Nat) (pc : Nat) (ls : ix_L) (st : List Value) (hp : ix_H) : Option (ix_S ⊕ (Option Value × ix_H)) := match ix_tS T oc idx with
  | some v => some (.inl (pc + 3, ls, v :: st, hp))
  | none => none
theorem fxk_getstatic {idx : Nat} (h : fx_getstatic T M.1 M.2.2.2.2.2.1 idx pc ls st hp = some res) : ix_sem T f M (.getstatic idx) pc ls st hp = some res := by
  unfold fx_getstatic at h
  repeat' (split at h)
  all_goals first | (cases h; done) | (rename_i h1 h2; cases h; simp [ix_sem, ix_ret, ix_alu, ix_loc, ix_hp, ix_len, h1, if_neg h2]; done) | (rename_i h0 _ _ _ h1 h2; cases h; simp [ix_sem, ix_ret, ix_alu, ix_loc, ix_hp, ix_len, h0, h1, if_neg h2]; done) | (cases h; simp_all [ix_sem, ix_ret, ix_alu, ix_loc, ix_hp, ix_len]; done)
def fx_laload (T : ix_T) (oc : Nat) (ini : Bool)  (pc : Nat) (ls : ix_L) (st : List Value) (hp : ix_H) : Option (ix_S ⊕ (Option Value × ix_H)) := match st with
  | .int i :: .ref a :: r => (match ix_arr hp a with
    | some (1, n, .inr (.inl f)) => if i < 0 ∨ n ≤ i.toNatClampNeg then none else some (.inl (pc + 1, ls, .long (f i.toNatClampNeg) :: r, hp))
    | _ => none)
  | _ => none
theorem fxk_laload  (h : fx_laload T M.1 M.2.2.2.2.2.1  pc ls st hp = some res) : ix_sem T f M (.laload) pc ls st hp = some res := by
  unfold fx_laload at h
  repeat' (split at h)
  all_goals first | (cases h; done) | (rename_i h1 h2; cases h; simp [ix_sem, ix_ret, ix_alu, ix_loc, ix_hp, ix_len, h1, if_neg h2]; done) | (rename_i h0 _ _ _ h1 h2; cases h; simp [ix_sem, ix_ret, ix_alu, ix_loc, ix_hp, ix_len, h0, h1, if_neg h2]; done) | (cases h; simp_all [ix_sem, ix_ret, ix_alu, ix_loc, ix_hp, ix_len]; done)
def fx_baload (T : ix_T) (oc : Nat) (ini : Bool)  (pc : Nat) (ls : ix_L) (st : List Value) (hp : ix_H) : Option (ix_S ⊕ (Option Value × ix_H)) := match st with
  | .int i :: .ref a :: r => (match ix_arr hp a with
    | some (2, n, .inl f) => if i < 0 ∨ n ≤ i.toNatClampNeg then none else some (.inl (pc + 1, ls, .int (f i.toNatClampNeg) :: r, hp))
    | _ => none)
  | _ => none
theorem fxk_baload  (h : fx_baload T M.1 M.2.2.2.2.2.1  pc ls st hp = some res) : ix_sem T f M (.baload) pc ls st hp = some res := by
  unfold fx_baload at h
  repeat' (split at h)
  all_goals first | (cases h; done) | (rename_i h1 h2; cases h; simp [ix_sem, ix_ret, ix_alu, ix_loc, ix_hp, ix_len, h1, if_neg h2]; done) | (rename_i h0 _ _ _ h1 h2; cases h; simp [ix_sem, ix_ret, ix_alu, ix_loc, ix_hp, ix_len, h0, h1, if_neg h2]; done) | (cases h; simp_all [ix_sem, ix_ret, ix_alu, ix_loc, ix_hp, ix_len]; done)
def fx_aaload (T : ix_T) (oc : Nat) (ini : Bool)  (pc : Nat) (ls : ix_L) (st : List Value) (hp : ix_H) : Option (ix_S ⊕ (Option Value × ix_H)) := match st with
  | .int i :: .ref a :: r => (match ix_arr hp a with
    | some (t, n, .inr (.inr (.inr (.inr f)))) => if (ix_tE T t).isSome = true ∧ ¬ (i < 0 ∨ n ≤ i.toNatClampNeg) then some (.inl (pc + 1, ls, va_rf (f i.toNatClampNeg) :: r, hp)) else none
    | _ => none)
  | _ => none
theorem fxk_aaload  (h : fx_aaload T M.1 M.2.2.2.2.2.1  pc ls st hp = some res) : ix_sem T f M (.aaload) pc ls st hp = some res := by
  unfold fx_aaload at h
  repeat' (split at h)
  all_goals first | (cases h; done) | (rename_i h1 h2; cases h; simp [ix_sem, ix_ret, ix_alu, ix_loc, ix_hp, ix_len, h1, if_neg h2]; done) | (rename_i h0 _ _ _ h1 h2; cases h; simp [ix_sem, ix_ret, ix_alu, ix_loc, ix_hp, ix_len, h0, h1, if_neg h2]; done) | (cases h; simp_all [ix_sem, ix_ret, ix_alu, ix_loc, ix_hp, ix_len]; done)
def fx_iastore (T : ix_T) (oc : Nat) (ini : Bool)  (pc : Nat) (ls : ix_L) (st : List Value) (hp : ix_H) : Option (ix_S ⊕ (Option Value × ix_H)) := match st with
  | .int x :: .int i :: .ref a :: r => (match ix_arr hp a with
    | some (0, n, .inl f) => if i < 0 ∨ n ≤ i.toNatClampNeg then none else some (.inl (pc + 1, ls, r, ix_put hp a (.inl (0, n, .inl (upd f i.toNatClampNeg x)))))
    | _ => none)
  | _ => none
theorem fxk_iastore  (h : fx_iastore T M.1 M.2.2.2.2.2.1  pc ls st hp = some res) : ix_sem T f M (.iastore) pc ls st hp = some res := by
  unfold fx_iastore at h
  repeat' (split at h)
  all_goals first | (cases h; done) | (rename_i h1 h2; cases h; simp [ix_sem, ix_ret, ix_alu, ix_loc, ix_hp, ix_len, h1, if_neg h2]; done) | (rename_i h0 _ _ _ h1 h2; cases h; simp [ix_sem, ix_ret, ix_alu, ix_loc, ix_hp, ix_len, h0, h1, if_neg h2]; done) | (cases h; simp_all [ix_sem, ix_ret, ix_alu, ix_loc, ix_hp, ix_len]; done)
def fx_lastore (T : ix_T) (oc : Nat) (ini : Bool)  (pc : Nat) (ls : ix_L) (st : List Value) (hp : ix_H) : Option (ix_S ⊕ (Option Value × ix_H)) := match st with
  | .long x :: .int i :: .ref a :: r => (match ix_arr hp a with
    | some (1, n, .inr (.inl f)) => if i < 0 ∨ n ≤ i.toNatClampNeg then none else some (.inl (pc + 1, ls, r, ix_put hp a (.inl (1, n, .inr (.inl (vp_updL f i.toNatClampNeg x))))))
    | _ => none)
  | _ => none
theorem fxk_lastore  (h : fx_lastore T M.1 M.2.2.2.2.2.1  pc ls st hp = some res) : ix_sem T f M (.lastore) pc ls st hp = some res := by
  unfold fx_lastore at h
  repeat' (split at h)
  all_goals first | (cases h; done) | (rename_i h1 h2; cases h; simp [ix_sem, ix_ret, ix_alu, ix_loc, ix_hp, ix_len, h1, if_neg h2]; done) | (rename_i h0 _ _ _ h1 h2; cases h; simp [ix_sem, ix_ret, ix_alu, ix_loc, ix_hp, ix_len, h0, h1, if_neg h2]; done) | (cases h; simp_all [ix_sem, ix_ret, ix_alu, ix_loc, ix_hp, ix_len]; done)
def fx_bastore (T : ix_T) (oc : Nat) (ini : Bool)  (pc : Nat) (ls : ix_L) (st : List Value) (hp : ix_H) : Option (ix_S ⊕ (Option Value × ix_H)) := match st with
  | .int x :: .int i :: .ref a :: r => (match ix_arr hp a with
    | some (2, n, .inl f) => if i < 0 ∨ n ≤ i.toNatClampNeg then none else some (.inl (pc + 1, ls, r, ix_put hp a (.inl (2, n, .inl (upd f i.toNatClampNeg (vp_nar .boolean x))))))
    | _ => none)
  | _ => none
theorem fxk_bastore  (h : fx_bastore T M.1 M.2.2.2.2.2.1  pc ls st hp = some res) : ix_sem T f M (.bastore) pc ls st hp = some res := by
  unfold fx_bastore at h
  repeat' (split at h)
  all_goals first | (cases h; done) | (rename_i h1 h2; cases h; simp [ix_sem, ix_ret, ix_alu, ix_loc, ix_hp, ix_len, h1, if_neg h2]; done) | (rename_i h0 _ _ _ h1 h2; cases h; simp [ix_sem, ix_ret, ix_alu, ix_loc, ix_hp, ix_len, h0, h1, if_neg h2]; done) | (cases h; simp_all [ix_sem, ix_ret, ix_alu, ix_loc, ix_hp, ix_len]; done)
def fx_aastore (T : ix_T) (oc : Nat) (ini : Bool)  (pc : Nat) (ls : ix_L) (st : List Value) (hp : ix_H) : Option (ix_S ⊕ (Option Value × ix_H)) := match st with
  | .ref v :: .int i :: .ref a :: r => (match ix_arr hp a, ix_obj hp v with
    | some (t, n, .inr (.inr (.inr (.inr f)))), some (c, _) => if ix_tE T t = some c ∧ ¬ (i < 0 ∨ n ≤ i.toNatClampNeg) then some (.inl (pc + 1, ls, r, ix_put hp a (.inl (t, n, .inr (.inr (.inr (.inr (va_up f i.toNatClampNeg (some v))))))))) else none
    | _, _ => none)
  | _ => none
theorem fxk_aastore  (h : fx_aastore T M.1 M.2.2.2.2.2.1  pc ls st hp = some res) : ix_sem T f M (.aastore) pc ls st hp = some res := by
  unfold fx_aastore at h
  repeat' (split at h)
  all_goals first | (cases h; done) | (rename_i h1 h2; cases h; simp [ix_sem, ix_ret, ix_alu, ix_loc, ix_hp, ix_len, h1, if_neg h2]; done) | (rename_i h0 _ _ _ h1 h2; cases h; simp [ix_sem, ix_ret, ix_alu, ix_loc, ix_hp, ix_len, h0, h1, if_neg h2]; done) | (cases h; simp_all [ix_sem, ix_ret, ix_alu, ix_loc, ix_hp, ix_len]; done)
def fx_new (T : ix_T) (oc : Nat) (_ : Bool) (idx : Nat) (pc : Nat) (ls : ix_L) (st : List Value) (hp : ix_H) : Option (ix_S ⊕ (Option Value × ix_H)) := match ix_tC T oc idx with
  | some (ci, _) => if hp.1 < 1000000 then some (.inl (pc + 3, ls, .ref hp.1 :: st, ix_new hp (ix_tD T ci).1 (.inr (ci, (List.range (ix_tD T ci).1).map (fun j => defaultValue ((ix_tD T ci).2 j).1))))) else none
  | _ => none
theorem fxk_new {idx : Nat} (h : fx_new T M.1 M.2.2.2.2.2.1 idx pc ls st hp = some res) : ix_sem T f M (.new idx) pc ls st hp = some res := by
  unfold fx_new at h
  repeat' (split at h)
  all_goals first | (cases h; done) | (cases h; simp_all [ix_sem, ix_ret, ix_alu, ix_loc, ix_hp, ix_len]; done)
def fx_newarray (T : ix_T) (oc : Nat) (_ : Bool) (aty : ArrayType) (pc : Nat) (ls : ix_L) (st : List Value) (hp : ix_H) : Option (ix_S ⊕ (Option Value × ix_H)) := match st with
  | .int n :: r => (match ix_zero (ix_aty aty) n.toNatClampNeg with
    | some x => if ¬ n < 0 ∧ n.toNatClampNeg ≤ 1000000 ∧ hp.1 < 1000000 then some (.inl (pc + 2, ls, .ref hp.1 :: r, ix_new hp n.toNatClampNeg (.inl x))) else none
    | none => none)
  | _ => none
theorem fxk_newarray {aty : ArrayType} (h : fx_newarray T M.1 M.2.2.2.2.2.1 aty pc ls st hp = some res) : ix_sem T f M (.newarray aty) pc ls st hp = some res := by
  unfold fx_newarray at h
  repeat' (split at h)
  all_goals first | (cases h; done) | (cases h; simp_all [ix_sem, ix_ret, ix_alu, ix_loc, ix_hp, ix_len]; done)
def fx_anewarray (T : ix_T) (oc : Nat) (_ : Bool) (idx : Nat) (pc : Nat) (ls : ix_L) (st : List Value) (hp : ix_H) : Option (ix_S ⊕ (Option Value × ix_H)) := match st with
  | .int n :: r => (match ix_tC T oc idx with
    | some (_, t) => if ¬ n < 0 ∧ n.toNatClampNeg ≤ 1000000 ∧ hp.1 < 1000000 ∧ ¬ t = 0 then some (.inl (pc + 3, ls, .ref hp.1 :: r, ix_new hp n.toNatClampNeg (.inl (t, n.toNatClampNeg, .inr (.inr (.inr (.inr (fun _ => none)))))))) else none
    | _ => none)
  | _ => none
theorem fxk_anewarray {idx : Nat} (h : fx_anewarray T M.1 M.2.2.2.2.2.1 idx pc ls st hp = some res) : ix_sem T f M (.anewarray idx) pc ls st hp = some res := by
  unfold fx_anewarray at h
  repeat' (split at h)
  all_goals first | (cases h; done) | (cases h; simp_all [ix_sem, ix_ret, ix_alu, ix_loc, ix_hp, ix_len]; done)
def fx_ldc (T : ix_T) (oc : Nat) (_ : Bool) (idx : Nat) (pc : Nat) (ls : ix_L) (st : List Value) (hp : ix_H) : Option (ix_S ⊕ (Option Value × ix_H)) := match ix_tK T oc idx with
  | some (.int v) => some (.inl (pc + 2, ls, .int v :: st, hp))
  | _ => none
theorem fxk_ldc {idx : Nat} (h : fx_ldc T M.1 M.2.2.2.2.2.1 idx pc ls st hp = some res) : ix_sem T f M (.ldc idx) pc ls st hp = some res := by
  unfold fx_ldc at h
  repeat' (split at h)
  all_goals first | (cases h; done) | (cases h; simp_all [ix_sem, ix_ret, ix_alu, ix_loc, ix_hp, ix_len]; done)
def fx_ldc_w (T : ix_T) (oc : Nat) (_ : Bool) (idx : Nat) (pc : Nat) (ls : ix_L) (st : List Value) (hp : ix_H) : Option (ix_S ⊕ (Option Value × ix_H)) := match ix_tK T oc idx with
  | some (.int v) => some (.inl (pc + 3, ls, .int v :: st, hp))
  | _ => none
theorem fxk_ldc_w {idx : Nat} (h : fx_ldc_w T M.1 M.2.2.2.2.2.1 idx pc ls st hp = some res) : ix_sem T f M (.ldc_w idx) pc ls st hp = some res := by
  unfold fx_ldc_w at h
  repeat' (split at h)
  all_goals first | (cases h; done) | (cases h; simp_all [ix_sem, ix_ret, ix_alu, ix_loc, ix_hp, ix_len]; done)
def fx_ldc2_w (T : ix_T) (oc : Nat) (_ : Bool) (idx : Nat) (pc : Nat) (ls : ix_L) (st : List Value) (hp : ix_H) : Option (ix_S ⊕ (Option Value × ix_H)) := match ix_tK T oc idx with
  | some (.long v) => some (.inl (pc + 3, ls, .long v :: st, hp))
  | _ => none
theorem fxk_ldc2_w {idx : Nat} (h : fx_ldc2_w T M.1 M.2.2.2.2.2.1 idx pc ls st hp = some res) : ix_sem T f M (.ldc2_w idx) pc ls st hp = some res := by
  unfold fx_ldc2_w at h
  repeat' (split at h)
  all_goals first | (cases h; done) | (cases h; simp_all [ix_sem, ix_ret, ix_alu, ix_loc, ix_hp, ix_len]; done)
def fx_return (ret : Option FieldType) (st : List Value) (hp : ix_H) : Option (ix_S ⊕ (Option Value × ix_H)) := match st, ret with
  | [], none => some (.inr (none, hp))
  | _, _ => none
theorem fxk_return (h : fx_return M.2.2.2.2.1 st hp = some res) : ix_sem T f M .return_ pc ls st hp = some res := by
  unfold fx_return at h
  split at h
  · rename_i hr
    cases h
    simp [ix_sem, ix_ret, hr]
  · cases h
def fx_ireturn (ret : Option FieldType) (st : List Value) (hp : ix_H) : Option (ix_S ⊕ (Option Value × ix_H)) := match st, ret with
  | [.int v], some ty => if narrow ty (.int v) = .int v then some (.inr (some (.int v), hp)) else none
  | _, _ => none
theorem fxk_ireturn (h : fx_ireturn M.2.2.2.2.1 st hp = some res) : ix_sem T f M .ireturn pc ls st hp = some res := by
  unfold fx_ireturn at h
  split at h
  · rename_i hr
    split at h
    · rename_i hn
      cases h
      simp [ix_sem, ix_ret, hr, hn]
    · cases h
  · cases h
def fx_lreturn (ret : Option FieldType) (st : List Value) (hp : ix_H) : Option (ix_S ⊕ (Option Value × ix_H)) := match st with
  | [.long v] => if ret = some .long then some (.inr (some (.long v), hp)) else none
  | _ => none
theorem fxk_lreturn (h : fx_lreturn M.2.2.2.2.1 st hp = some res) : ix_sem T f M .lreturn pc ls st hp = some res := by
  unfold fx_lreturn at h
  split at h
  · split at h
    · rename_i hn
      cases h
      simp [ix_sem, ix_ret, hn]
    · cases h
  · cases h
/-- calls: as they stand -/
def fx_call (T : ix_T) (f : ix_F) (oc : Nat) (i : Instr) (pc : Nat) (ls : ix_L) (st : List Value) (hp : ix_H) : Option (ix_S ⊕ (Option Value × ix_H)) := match ix_cal T f oc i st hp with
  | some (st', hp') => some (.inl (pc + 3, ls, st', hp'))
  | none => none
theorem fxk_call {i : Instr} (hi : (∃ n, i = .invokevirtual n) ∨ (∃ n, i = .invokespecial n) ∨ ∃ n, i = .invokestatic n) (h : fx_call T f M.1 i pc ls st hp = some res) : ix_sem T f M i pc ls st hp = some res := by
  unfold fx_call at h
  split at h
  · rename_i hc
    cases h
    rcases hi with ⟨n, rfl⟩ | ⟨n, rfl⟩ | ⟨n, rfl⟩ <;> simp [ix_sem, ix_ret, ix_alu, ix_loc, ix_hp, ix_br, hc, ix_len]
  · cases h
end IYF
def iy_sem (T : ix_T) (f : ix_F) (M : ix_M) (i : Instr) (pc : Nat) (ls : ix_L) (st : List Value) (hp : ix_H) : Option (ix_S ⊕ (Option Value × ix_H)) := match i with
  | .iadd => fx_iadd pc ls st hp
  | .isub => fx_isub pc ls st hp
  | .imul => fx_imul pc ls st hp
  | .iand => fx_iand pc ls st hp
  | .ior => fx_ior pc ls st hp
  | .ixor => fx_ixor pc ls st hp
  | .ishl => fx_ishl pc ls st hp
  | .ishr => fx_ishr pc ls st hp
  | .iushr => fx_iushr pc ls st hp
  | .ladd => fx_ladd pc ls st hp
  | .lsub => fx_lsub pc ls st hp
  | .lmul => fx_lmul pc ls st hp
  | .land => fx_land pc ls st hp
  | .lor => fx_lor pc ls st hp
  | .lxor => fx_lxor pc ls st hp
  | .idiv => fx_idiv pc ls st hp
  | .irem => fx_irem pc ls st hp
  | .ldiv => fx_ldiv pc ls st hp
  | .lrem => fx_lrem pc ls st hp
  | .lshl => fx_lshl pc ls st hp
  | .lshr => fx_lshr pc ls st hp
  | .lushr => fx_lushr pc ls st hp
  | .ineg => fx_ineg pc ls st hp
  | .lneg => fx_lneg pc ls st hp
  | .i2l => fx_i2l pc ls st hp
  | .l2i => fx_l2i pc ls st hp
  | .i2b => fx_i2b pc ls st hp
  | .i2s => fx_i2s pc ls st hp
  | .i2c => fx_i2c pc ls st hp
  | .lcmp => fx_lcmp pc ls st hp
  | .dup => fx_dup pc ls st hp
  | .pop => fx_pop pc ls st hp
  | .dup2 => fx_dup2 pc ls st hp
  | .iconst v => fx_iconst v pc ls st hp
  | .bipush v => fx_bipush v pc ls st hp
  | .sipush v => fx_sipush v pc ls st hp
  | .lconst v => fx_lconst v pc ls st hp
  | .iload k => fx_iload k 2 pc ls st hp
  | .iload_n k => fx_iload k.val 1 pc ls st hp
  | .istore k => fx_istore k 2 M.2.2.2.1 pc ls st hp
  | .istore_n k => fx_istore k.val 1 M.2.2.2.1 pc ls st hp
  | .lload k => fx_lload k 2 pc ls st hp
  | .lload_n k => fx_lload k.val 1 pc ls st hp
  | .lstore k => fx_lstore k 2 M.2.2.2.1 pc ls st hp
  | .lstore_n k => fx_lstore k.val 1 M.2.2.2.1 pc ls st hp
  | .aload k => fx_aload k 2 pc ls st hp
  | .aload_n k => fx_aload k.val 1 pc ls st hp
  | .astore k => fx_astore k 2 M.2.2.2.1 pc ls st hp
  | .astore_n k => fx_astore k.val 1 M.2.2.2.1 pc ls st hp
  | .iinc k v => fx_iinc k v M.2.2.2.1 pc ls st hp
  | .goto off => fx_goto off pc ls st hp
  | .ifCond cd off => fx_if cd off pc ls st hp
  | .if_icmp cd off => fx_icmp cd off pc ls st hp
  | .tableswitch dflt lo hi offs => fx_tsw dflt lo hi offs pc ls st hp
  | .getfield idx => fx_getfield T M.1 M.2.2.2.2.2.1 idx pc ls st hp
  | .putfield idx => fx_putfield T M.1 M.2.2.2.2.2.1 idx pc ls st hp
  | .arraylength => fx_arraylength T M.1 M.2.2.2.2.2.1  pc ls st hp
  | .iaload => fx_iaload T M.1 M.2.2.2.2.2.1  pc ls st hp
  | .getstatic idx => fx_getstatic T M.1 M.2.2.2.2.2.1 idx pc ls st hp
  | .laload => fx_laload T M.1 M.2.2.2.2.2.1  pc ls st hp
  | .baload => fx_baload T M.1 M.2.2.2.2.2.1  pc ls st hp
  | .aaload => fx_aaload T M.1 M.2.2.2.2.2.1  pc ls st hp
  | .iastore => fx_iastore T M.1 M.2.2.2.2.2.1  pc ls st hp
  | .lastore => fx_lastore T M.1 M.2.2.2.2.2.1  pc ls st hp
  | .bastore => fx_bastore T M.1 M.2.2.2.2.2.1  pc ls st hp
  | .aastore => fx_aastore T M.1 M.2.2.2.2.2.1  pc ls st hp
  | .new idx => fx_new T M.1 M.2.2.2.2.2.1 idx pc ls st hp
  | .newarray aty => fx_newarray T M.1 M.2.2.2.2.2.1 aty pc ls st hp
  | .anewarray idx => fx_anewarray T M.1 M.2.2.2.2.2.1 idx pc ls st hp
  | .ldc idx => fx_ldc T M.1 M.2.2.2.2.2.1 idx pc ls st hp
  | .ldc_w idx => fx_ldc_w T M.1 M.2.2.2.2.2.1 idx pc ls st hp
  | .ldc2_w idx => fx_ldc2_w T M.1 M.2.2.2.2.2.1 idx pc ls st hp
  | .return_ => fx_return M.2.2.2.2.1 st hp
  | .ireturn => fx_ireturn M.2.2.2.2.1 st hp
  | .lreturn => fx_lreturn M.2.2.2.2.1 st hp
  | .invokevirtual n => fx_call T f M.1 (.invokevirtual n) pc ls st hp
  | .invokespecial n => fx_call T f M.1 (.invokespecial n) pc ls st hp
  | .invokestatic n => fx_call T f M.1 (.invokestatic n) pc ls st hp
  | _ => none
theorem iy_sem_ok {T : ix_T} {f : ix_F} {M : ix_M} {i : Instr} {pc : Nat} {ls : ix_L} {st : List Value} {hp : ix_H} {res : ix_S ⊕ (Option Value × ix_H)} (h : iy_sem T f M i pc ls st hp = some res) : ix_sem T f M i pc ls st hp = some res := by
  unfold iy_sem at h
  split at h
  · exact fxk_iadd h
  · exact fxk_isub h
  · exact fxk_imul h
  · exact fxk_iand h
  · exact fxk_ior h
  · exact fxk_ixor h
  · exact fxk_ishl h
  · exact fxk_ishr h
  · exact fxk_iushr h
  · exact fxk_ladd h
  · exact fxk_lsub h
  · exact fxk_lmul h
  · exact fxk_land h
  · exact fxk_lor h
  · exact fxk_lxor h
  · exact fxk_idiv h
  · exact fxk_irem h
  · exact fxk_ldiv h
  · exact fxk_lrem h
  · exact fxk_lshl h
  · exact fxk_lshr h
  · exact fxk_lushr h
  · exact fxk_ineg h
  · exact fxk_lneg h
  · exact fxk_i2l h
  · exact fxk_l2i h
  · exact fxk_i2b h
  · exact fxk_i2s h
  · exact fxk_i2c h
  · exact fxk_lcmp h
  · exact fxk_dup h
  · exact fxk_pop h
  · exact fxk_dup2 h
  · exact fxk_iconst h
  · exact fxk_bipush h
  · exact fxk_sipush h
  · exact fxk_lconst h
  · exact fxk_iload h
  · exact fxk_iload_n h
  · exact fxk_istore h
  · exact fxk_istore_n h
  · exact fxk_lload h
  · exact fxk_lload_n h
  · exact fxk_lstore h
  · exact fxk_lstore_n h
  · exact fxk_aload h
  · exact fxk_aload_n h
  · exact fxk_astore h
  · exact fxk_astore_n h
  · exact fxk_iinc h
  · exact fxk_goto h
  · exact fxk_if h
  · exact fxk_icmp h
  · exact fxk_tsw h
  · exact fxk_getfield h
  · exact fxk_putfield h
  · exact fxk_arraylength h
  · exact fxk_iaload h
  · exact fxk_getstatic h
  · exact fxk_laload h
  · exact fxk_baload h
  · exact fxk_aaload h
  · exact fxk_iastore h
  · exact fxk_lastore h
  · exact fxk_bastore h
  · exact fxk_aastore h
  · exact fxk_new h
  · exact fxk_newarray h
  · exact fxk_anewarray h
  · exact fxk_ldc h
  · exact fxk_ldc_w h
  · exact fxk_ldc2_w h
  · exact fxk_return h
  · exact fxk_ireturn h
  · exact fxk_lreturn h
  · exact fxk_call (Or.inl ⟨_, rfl⟩) h
  · exact fxk_call (Or.inr (Or.inl ⟨_, rfl⟩)) h
  · exact fxk_call (Or.inr (Or.inr ⟨_, rfl⟩)) h
  · cases h
def iy_iter (T : ix_T) (f : ix_F) (M : ix_M) : Nat → ix_S → Option (ix_S ⊕ (Option Value × ix_H))
  | 0, (pc, ls, st, hp) => match M.2.2.2.2.2.2 pc with
    | none => none
    | some i => iy_sem T f M i pc ls st hp
  | k + 1, σ => match iy_iter T f M k σ with
    | some (.inl σ') => iy_iter T f M k σ'
    | x => x
theorem ix_cal_sub {T : ix_T} {f g : ix_F} (hfg : ∀ (mid : Nat) (av : List Value) (hp : ix_H) (r : Option Value × ix_H), f mid av hp = some r → g mid av hp = some r) {oc : Nat} {i : Instr} {st : List Value} {hp : ix_H} {r : List Value × ix_H} (h : ix_cal T f oc i st hp = some r) : ix_cal T g oc i st hp = some r := by
  unfold ix_cal at h ⊢
  split at h
  · split at h
    · exact h
    · rename_i hne h1
      split at h
      · rename_i hk
        split at h
        · rename_i hd
          split at h
          · rename_i hc
            split at h
            · rename_i hr
              simp only [if_pos hk, hd, if_pos hc, hfg _ _ _ _ hr]
              exact h
            · cases h
          · cases h
        · cases h
      · cases h
    · cases h
  · split at h
    · split at h
      · rename_i hk
        split at h
        · rename_i hd hM
          split at h
          · rename_i ho
            split at h
            · rename_i hc
              split at h
              · rename_i hr
                simp only [if_pos hk, hd, hM, ho, if_pos hc, hfg _ _ _ _ hr]
                exact h
              · cases h
            · cases h
          · cases h
        · cases h
      · rename_i hk
        split at h
        · rename_i hk8
          split at h
          · rename_i hd
            split at h
            · rename_i ho
              split at h
              · rename_i hc
                split at h
                · rename_i hr
                  simp only [if_neg hk, if_pos hk8, hd, ho, if_pos hc, hfg _ _ _ _ hr]
                  exact h
                · cases h
              · cases h
            · cases h
          · cases h
        · cases h
    · cases h
  · split at h
    · exact h
    · split at h
      · rename_i hk
        split at h
        · rename_i hr
          simp only [if_pos hk, hfg _ _ _ _ hr]
          exact h
        · cases h
      · rename_i hk
        simp only [if_neg hk]
        exact h
    · cases h
  · cases h
theorem ix_sem_sub {T : ix_T} {f g : ix_F} (hfg : ∀ (mid : Nat) (av : List Value) (hp : ix_H) (r : Option Value × ix_H), f mid av hp = some r → g mid av hp = some r) {M : ix_M} {i : Instr} {pc : Nat} {ls : ix_L} {st : List Value} {hp : ix_H} {res : ix_S ⊕ (Option Value × ix_H)} (h : ix_sem T f M i pc ls st hp = some res) : ix_sem T g M i pc ls st hp = some res := by
  unfold ix_sem at h ⊢
  split at h
  · exact h
  · split at h
    · exact h
    · split at h
      · exact h
      · split at h
        · exact h
        · split at h
          · exact h
          · split at h
            · rename_i hc
              rw [ix_cal_sub hfg hc]
              exact h
            · cases h
theorem iy_iter_ok {T : ix_T} {f g : ix_F} (hfg : ∀ (mid : Nat) (av : List Value) (hp : ix_H) (r : Option Value × ix_H), f mid av hp = some r → g mid av hp = some r) {M : ix_M} : ∀ (k : Nat) (σ : ix_S) (res : ix_S ⊕ (Option Value × ix_H)), iy_iter T f M k σ = some res → ix_iter T g M k σ = some res
  | 0, (pc, ls, st, hp), res, h => by
    unfold iy_iter at h
    split at h
    · cases h
    · rename_i i hi
      show ix_one T g M (pc, ls, st, hp) = some res
      rw [ix_one_sem T g M pc ls st hp hi]
      exact ix_sem_sub hfg (iy_sem_ok h)
  | k + 1, σ, res, h => by
    unfold iy_iter at h
    unfold ix_iter
    split at h
    · rename_i σ' h1
      rw [iy_iter_ok hfg k σ _ h1]
      exact iy_iter_ok hfg k σ' res h
    · rename_i hne
      have h2 := iy_iter_ok hfg k σ res h
      rw [h2]
      split
      · rename_i σ' h3
        exact absurd (h.trans h3) (hne σ')
      · rfl
def iy_run (T : ix_T) (k : Nat) : Nat → ix_F
  | 0, _, _, _ => none
  | d + 1, mid, args, hp => match ix_tM T mid with
    | none => none
    | some M => if (lg_sl args).length ≤ M.2.2.2.1 then (match iy_iter T (iy_run T k d) M k (0, lv_args 0 args, [], hp) with
      | some (.inr r) => some r
      | _ => none) else none
theorem iy_run_ok (T : ix_T) (k : Nat) : ∀ (d mid : Nat) (av : List Value) (hp : ix_H) (r : Option Value × ix_H), iy_run T k d mid av hp = some r → ix_run T k d mid av hp = some r
  | 0, mid, av, hp, r, h => by cases h
  | d + 1, mid, av, hp, r, h => by
    unfold iy_run at h
    unfold ix_run
    split at h
    · cases h
    · rename_i M hM
      rw [hM]
      simp only at h ⊢
      split at h
      · rename_i hl
        rw [if_pos hl]
        split at h
        · rename_i hr
          rw [iy_iter_ok (iy_run_ok T k d) _ _ _ hr]
          exact h
        · cases h
      · cases h
