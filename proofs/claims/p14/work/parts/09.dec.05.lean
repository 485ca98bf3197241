section
section IYF
variable {T : ix_T} {f : ix_F} {M : ix_M} {pc : Nat} {ls : ix_L} {st : List Value} {hp : ix_H} {res : ix_S ⊕ (Option Value × ix_H)}
noncomputable def fx_lshl (pc : Nat) (ls : ix_L) (st : List Value) (hp : ix_H) : Option (ix_S ⊕ (Option Value × ix_H)) := match st with
  | .int y :: .long x :: r => some (.inl (pc + 1, ls, .long (x <<< (y.toInt64 &&& 63)) :: r, hp))
  | _ => none
theorem fxk_lshl (h : fx_lshl pc ls st hp = some res) : ix_sem T f M (.lshl) pc ls st hp = some res := by
  unfold fx_lshl at h
  repeat' (split at h)
  all_goals first | (cases h; done) | (cases h; rfl)
noncomputable def fx_lshr (pc : Nat) (ls : ix_L) (st : List Value) (hp : ix_H) : Option (ix_S ⊕ (Option Value × ix_H)) := match st with
  | .int y :: .long x :: r => some (.inl (pc + 1, ls, .long (x >>> (y.toInt64 &&& 63)) :: r, hp))
  | _ => none
theorem fxk_lshr (h : fx_lshr pc ls st hp = some res) : ix_sem T f M (.lshr) pc ls st hp = some res := by
  unfold fx_lshr at h
  repeat' (split at h)
  all_goals first | (cases h; done) | (cases h; rfl)
noncomputable def fx_lushr (pc : Nat) (ls : ix_L) (st : List Value) (hp : ix_H) : Option (ix_S ⊕ (Option Value × ix_H)) := match st with
  | .int y :: .long x :: r => some (.inl (pc + 1, ls, .long ((x.toUInt64 >>> (y.toInt64.toUInt64 &&& Int64.toUInt64 63)).toInt64) :: r, hp))
  | _ => none
theorem fxk_lushr (h : fx_lushr pc ls st hp = some res) : ix_sem T f M (.lushr) pc ls st hp = some res := by
  unfold fx_lushr at h
  repeat' (split at h)
  all_goals first | (cases h; done) | (cases h; rfl)
noncomputable def fx_ineg (pc : Nat) (ls : ix_L) (st : List Value) (hp : ix_H) : Option (ix_S ⊕ (Option Value × ix_H)) := match st with
  | .int x :: r => some (.inl (pc + 1, ls, .int (-x) :: r, hp))
  | _ => none
theorem fxk_ineg (h : fx_ineg pc ls st hp = some res) : ix_sem T f M (.ineg) pc ls st hp = some res := by
  unfold fx_ineg at h
  repeat' (split at h)
  all_goals first | (cases h; done) | (cases h; rfl)
noncomputable def fx_lneg (pc : Nat) (ls : ix_L) (st : List Value) (hp : ix_H) : Option (ix_S ⊕ (Option Value × ix_H)) := match st with
  | .long x :: r => some (.inl (pc + 1, ls, .long (-x) :: r, hp))
  | _ => none
theorem fxk_lneg (h : fx_lneg pc ls st hp = some res) : ix_sem T f M (.lneg) pc ls st hp = some res := by
  unfold fx_lneg at h
  repeat' (split at h)
  all_goals first | (cases h; done) | (cases h; rfl)
noncomputable def fx_i2l (pc : Nat) (ls : ix_L) (st : List Value) (hp : ix_H) : Option (ix_S ⊕ (Option Value × ix_H)) := match st with
  | .int x :: r => some (.inl (pc + 1, ls, .long (x.toInt64) :: r, hp))
  | _ => none
theorem fxk_i2l (h : fx_i2l pc ls st hp = some res) : ix_sem T f M (.i2l) pc ls st hp = some res := by
  unfold fx_i2l at h
  repeat' (split at h)
  all_goals first | (cases h; done) | (cases h; rfl)
noncomputable def fx_l2i (pc : Nat) (ls : ix_L) (st : List Value) (hp : ix_H) : Option (ix_S ⊕ (Option Value × ix_H)) := match st with
  | .long x :: r => some (.inl (pc + 1, ls, .int (x.toInt32) :: r, hp))
  | _ => none
theorem fxk_l2i (h : fx_l2i pc ls st hp = some res) : ix_sem T f M (.l2i) pc ls st hp = some res := by
  unfold fx_l2i at h
  repeat' (split at h)
  all_goals first | (cases h; done) | (cases h; rfl)
noncomputable def fx_i2b (pc : Nat) (ls : ix_L) (st : List Value) (hp : ix_H) : Option (ix_S ⊕ (Option Value × ix_H)) := match st with
  | .int x :: r => some (.inl (pc + 1, ls, .int (x.toInt8.toInt32) :: r, hp))
  | _ => none
theorem fxk_i2b (h : fx_i2b pc ls st hp = some res) : ix_sem T f M (.i2b) pc ls st hp = some res := by
  unfold fx_i2b at h
  repeat' (split at h)
  all_goals first | (cases h; done) | (cases h; rfl)
noncomputable def fx_i2s (pc : Nat) (ls : ix_L) (st : List Value) (hp : ix_H) : Option (ix_S ⊕ (Option Value × ix_H)) := match st with
  | .int x :: r => some (.inl (pc + 1, ls, .int (x.toInt16.toInt32) :: r, hp))
  | _ => none
theorem fxk_i2s (h : fx_i2s pc ls st hp = some res) : ix_sem T f M (.i2s) pc ls st hp = some res := by
  unfold fx_i2s at h
  repeat' (split at h)
  all_goals first | (cases h; done) | (cases h; rfl)
noncomputable def fx_i2c (pc : Nat) (ls : ix_L) (st : List Value) (hp : ix_H) : Option (ix_S ⊕ (Option Value × ix_H)) := match st with
  | .int x :: r => some (.inl (pc + 1, ls, .int ((x.toUInt32 % 65536).toInt32) :: r, hp))
  | _ => none
theorem fxk_i2c (h : fx_i2c pc ls st hp = some res) : ix_sem T f M (.i2c) pc ls st hp = some res := by
  unfold fx_i2c at h
  repeat' (split at h)
  all_goals first | (cases h; done) | (cases h; rfl)
noncomputable def fx_lcmp (pc : Nat) (ls : ix_L) (st : List Value) (hp : ix_H) : Option (ix_S ⊕ (Option Value × ix_H)) := match st with
  | .long y :: .long x :: r => some (.inl (pc + 1, ls, .int (lg_cmp x y) :: r, hp))
  | _ => none
theorem fxk_lcmp (h : fx_lcmp pc ls st hp = some res) : ix_sem T f M (.lcmp) pc ls st hp = some res := by
  unfold fx_lcmp at h
  repeat' (split at h)
  all_goals first | (cases h; done) | (cases h; rfl)
noncomputable def fx_dup (pc : Nat) (ls : ix_L) (st : List Value) (hp : ix_H) : Option (ix_S ⊕ (Option Value × ix_H)) := match st with
  | a :: r => if a.category = 1 then some (.inl (pc + 1, ls, a :: a :: r, hp)) else none
  | _ => none
theorem fxk_dup (h : fx_dup pc ls st hp = some res) : ix_sem T f M (.dup) pc ls st hp = some res := by
  unfold fx_dup at h
  split at h
  · split at h
    · rename_i ha
      cases h
      simp [ix_sem, ix_ret, ix_alu, ha, ix_len]
    · cases h
  · cases h
noncomputable def fx_pop (pc : Nat) (ls : ix_L) (st : List Value) (hp : ix_H) : Option (ix_S ⊕ (Option Value × ix_H)) := match st with
  | a :: r => if a.category = 1 then some (.inl (pc + 1, ls, r, hp)) else none
  | _ => none
theorem fxk_pop (h : fx_pop pc ls st hp = some res) : ix_sem T f M (.pop) pc ls st hp = some res := by
  unfold fx_pop at h
  split at h
  · split at h
    · rename_i ha
      cases h
      simp [ix_sem, ix_ret, ix_alu, ha, ix_len]
    · cases h
  · cases h
noncomputable def fx_dup2 (pc : Nat) (ls : ix_L) (st : List Value) (hp : ix_H) : Option (ix_S ⊕ (Option Value × ix_H)) := match st with
  | a :: b :: r => if a.category = 1 ∧ b.category = 1 then some (.inl (pc + 1, ls, a :: b :: a :: b :: r, hp)) else none
  | _ => none
theorem fxk_dup2 (h : fx_dup2 pc ls st hp = some res) : ix_sem T f M (.dup2) pc ls st hp = some res := by
  unfold fx_dup2 at h
  split at h
  · split at h
    · rename_i ha
      cases h
      simp [ix_sem, ix_ret, ix_alu, ha, ix_len]
    · cases h
  · cases h
noncomputable def fx_iconst (v : Int) (pc : Nat) (ls : ix_L) (st : List Value) (hp : ix_H) : Option (ix_S ⊕ (Option Value × ix_H)) := some (.inl (pc + 1, ls, .int (Int32.ofInt v) :: st, hp))
theorem fxk_iconst {v : Int} (h : fx_iconst v pc ls st hp = some res) : ix_sem T f M (.iconst v) pc ls st hp = some res := by
  cases h
  rfl
noncomputable def fx_bipush (v : Int) (pc : Nat) (ls : ix_L) (st : List Value) (hp : ix_H) : Option (ix_S ⊕ (Option Value × ix_H)) := some (.inl (pc + 2, ls, .int ((Int8.ofInt v).toInt32) :: st, hp))
theorem fxk_bipush {v : Int} (h : fx_bipush v pc ls st hp = some res) : ix_sem T f M (.bipush v) pc ls st hp = some res := by
  cases h
  rfl
noncomputable def fx_sipush (v : Int) (pc : Nat) (ls : ix_L) (st : List Value) (hp : ix_H) : Option (ix_S ⊕ (Option Value × ix_H)) := some (.inl (pc + 3, ls, .int ((Int16.ofInt v).toInt32) :: st, hp))
theorem fxk_sipush {v : Int} (h : fx_sipush v pc ls st hp = some res) : ix_sem T f M (.sipush v) pc ls st hp = some res := by
  cases h
  rfl
noncomputable def fx_lconst (v : Fin 2) (pc : Nat) (ls : ix_L) (st : List Value) (hp : ix_H) : Option (ix_S ⊕ (Option Value × ix_H)) := some (.inl (pc + 1, ls, .long (Int64.ofNat (v : Nat)) :: st, hp))
theorem fxk_lconst {v : Fin 2} (h : fx_lconst v pc ls st hp = some res) : ix_sem T f M (.lconst v) pc ls st hp = some res := by
  cases h
  rfl
noncomputable def fx_iload (k len : Nat) (pc : Nat) (ls : ix_L) (st : List Value) (hp : ix_H) : Option (ix_S ⊕ (Option Value × ix_H)) := match ix_ld ls k with
  | some (.int x) => some (.inl (pc + len, ls, .int x :: st, hp))
  | _ => none
theorem fxk_iload {k : Nat} (h : fx_iload k 2 pc ls st hp = some res) : ix_sem T f M (.iload k) pc ls st hp = some res := by
  unfold fx_iload at h
  split at h
  · rename_i hx
    cases h
    simp [ix_sem, ix_ret, ix_alu, ix_loc, hx, ix_len]
  · cases h
theorem fxk_iload_n {k : Fin 4} (h : fx_iload k.val 1 pc ls st hp = some res) : ix_sem T f M (.iload_n k) pc ls st hp = some res := by
  unfold fx_iload at h
  split at h
  · rename_i hx
    cases h
    simp [ix_sem, ix_ret, ix_alu, ix_loc, hx, ix_len]
  · cases h
noncomputable def fx_istore (k len nL : Nat) (pc : Nat) (ls : ix_L) (st : List Value) (hp : ix_H) : Option (ix_S ⊕ (Option Value × ix_H)) := match st with
  | .int x :: r => if k < nL then some (.inl (pc + len, ix_st1 ls k (.int x), r, hp)) else none
  | _ => none
theorem fxk_istore {k : Nat} (h : fx_istore k 2 M.2.2.2.1 pc ls st hp = some res) : ix_sem T f M (.istore k) pc ls st hp = some res := by
  unfold fx_istore at h
  split at h
  · split at h
    · rename_i hx
      cases h
      simp [ix_sem, ix_ret, ix_alu, ix_loc, hx, ix_len]
    · cases h
  · cases h
theorem fxk_istore_n {k : Fin 4} (h : fx_istore k.val 1 M.2.2.2.1 pc ls st hp = some res) : ix_sem T f M (.istore_n k) pc ls st hp = some res := by
  unfold fx_istore at h
  split at h
  · split at h
    · rename_i hx
      cases h
      simp [ix_sem, ix_ret, ix_alu, ix_loc, hx, ix_len]
    · cases h
  · cases h
noncomputable def fx_lload (k len : Nat) (pc : Nat) (ls : ix_L) (st : List Value) (hp : ix_H) : Option (ix_S ⊕ (Option Value × ix_H)) := match ix_ld ls k with
  | some (.long x) => some (.inl (pc + len, ls, .long x :: st, hp))
  | _ => none
theorem fxk_lload {k : Nat} (h : fx_lload k 2 pc ls st hp = some res) : ix_sem T f M (.lload k) pc ls st hp = some res := by
  unfold fx_lload at h
  split at h
  · rename_i hx
    cases h
    simp [ix_sem, ix_ret, ix_alu, ix_loc, hx, ix_len]
  · cases h
theorem fxk_lload_n {k : Fin 4} (h : fx_lload k.val 1 pc ls st hp = some res) : ix_sem T f M (.lload_n k) pc ls st hp = some res := by
  unfold fx_lload at h
  split at h
  · rename_i hx
    cases h
    simp [ix_sem, ix_ret, ix_alu, ix_loc, hx, ix_len]
  · cases h
noncomputable def fx_lstore (k len nL : Nat) (pc : Nat) (ls : ix_L) (st : List Value) (hp : ix_H) : Option (ix_S ⊕ (Option Value × ix_H)) := match st with
  | .long x :: r => if k + 1 < nL then some (.inl (pc + len, ix_st2 ls k (.long x), r, hp)) else none
  | _ => none
theorem fxk_lstore {k : Nat} (h : fx_lstore k 2 M.2.2.2.1 pc ls st hp = some res) : ix_sem T f M (.lstore k) pc ls st hp = some res := by
  unfold fx_lstore at h
  split at h
  · split at h
    · rename_i hx
      cases h
      simp [ix_sem, ix_ret, ix_alu, ix_loc, hx, ix_len]
    · cases h
  · cases h
theorem fxk_lstore_n {k : Fin 4} (h : fx_lstore k.val 1 M.2.2.2.1 pc ls st hp = some res) : ix_sem T f M (.lstore_n k) pc ls st hp = some res := by
  unfold fx_lstore at h
  split at h
  · split at h
    · rename_i hx
      cases h
      simp [ix_sem, ix_ret, ix_alu, ix_loc, hx, ix_len]
    · cases h
  · cases h
noncomputable def fx_aload (k len : Nat) (pc : Nat) (ls : ix_L) (st : List Value) (hp : ix_H) : Option (ix_S ⊕ (Option Value × ix_H)) := match ix_ld ls k with
  | some (.ref x) => some (.inl (pc + len, ls, .ref x :: st, hp))
  | _ => none
theorem fxk_aload {k : Nat} (h : fx_aload k 2 pc ls st hp = some res) : ix_sem T f M (.aload k) pc ls st hp = some res := by
  unfold fx_aload at h
  split at h
  · rename_i hx
    cases h
    simp [ix_sem, ix_ret, ix_alu, ix_loc, hx, ix_len]
  · cases h
theorem fxk_aload_n {k : Fin 4} (h : fx_aload k.val 1 pc ls st hp = some res) : ix_sem T f M (.aload_n k) pc ls st hp = some res := by
  unfold fx_aload at h
  split at h
  · rename_i hx
    cases h
    simp [ix_sem, ix_ret, ix_alu, ix_loc, hx, ix_len]
  · cases h
noncomputable def fx_astore (k len nL : Nat) (pc : Nat) (ls : ix_L) (st : List Value) (hp : ix_H) : Option (ix_S ⊕ (Option Value × ix_H)) := match st with
  | .ref x :: r => if k < nL then some (.inl (pc + len, ix_st1 ls k (.ref x), r, hp)) else none
  | _ => none
end IYF
end
