section
theorem ix_bno {α : Type} {n pc : Nat} (x : Option α) (h : ¬ pc < n) : (bif Nat.blt pc n then x else none) = none := by
  cases hb : Nat.blt pc n with
  | false => rfl
  | true => exact absurd (Nat.blt_eq.mp hb) h
/-- the switches, each by itself -/
noncomputable def ix_sw (b : ByteArray) (cd : Nat → Option Instr) (n : Nat) (pcs : List Nat) : Bool := (List.range n).all (fun pc => match cd pc with
  | none => true
  | some i => bif Nat.beq (ix_len i) 0 then pcs.contains pc else true) && pcs.all (fun pc => match cd pc with
  | none => true
  | some i => match decode b pc with
    | .ok (j, _) => decide (j = i)
    | .error _ => false)
noncomputable def ix_cdok (b : ByteArray) (cd : Nat → Option Instr) (n : Nat) (pcs : List Nat) : Bool := ix_scan cd 0 b.data.toList && Nat.beq b.data.toList.length n && ix_sw b cd n pcs
theorem ix_cd_ok {b : ByteArray} {cd : Nat → Option Instr} {n : Nat} {pcs : List Nat} (h : ix_cdok b cd n pcs = true) (hn : ∀ pc, ¬ pc < n → cd pc = none) (pc : Nat) (i : Instr) (hi : cd pc = some i) : ∃ len : Nat, decode b pc = .ok (i, len) ∧ (ix_len i = 0 ∨ ix_len i = len) := by
  have hp : pc < n := by
    rcases Nat.lt_or_ge pc n with h | h
    · exact h
    · rw [hn pc (Nat.not_lt.mpr h)] at hi; cases hi
  unfold ix_cdok at h
  simp only [Bool.and_eq_true] at h
  obtain ⟨⟨h1, h2⟩, h3⟩ := h
  have h2 := Nat.eq_of_beq_eq_true h2
  by_cases hz : ix_len i = 0
  · unfold ix_sw at h3
    simp only [Bool.and_eq_true] at h3
    have h4 := List.all_eq_true.mp h3.1 pc (List.mem_range.mpr hp)
    rw [hi] at h4
    simp only [hz] at h4
    have h5 := List.all_eq_true.mp h3.2 pc (by simpa using h4)
    rw [hi] at h5
    simp only at h5
    split at h5
    · rename_i j len hd
      exact ⟨len, by rw [hd, of_decide_eq_true h5], Or.inl hz⟩
    · cases h5
  · exact ⟨ix_len i, ix_scan_ok (pc := 0) rfl h1 pc i (Nat.zero_le _) (by rw [h2]; exact hp) hi hz, Or.inr rfl⟩
end
section
/-! ===== the same interpreter, laid out so that the kernel works it fast ===== -/
/-- what one instruction does -/
noncomputable def ix_sem (T : ix_T) (f : ix_F) (M : ix_M) (i : Instr) (pc : Nat) (ls : ix_L) (st : List Value) (hp : ix_H) : Option (ix_S ⊕ (Option Value × ix_H)) := match ix_ret M.2.2.2.2.1 i st with
      | some rv => some (.inr (rv, hp))
      | none => match ix_alu i st with
        | some st' => some (.inl (pc + ix_len i, ls, st', hp))
        | none => match ix_loc i M.2.2.2.1 ls st with
          | some (ls', st') => some (.inl (pc + ix_len i, ls', st', hp))
          | none => match ix_hp T M.1 M.2.2.2.2.2.1 i st hp with
            | some (st', hp') => some (.inl (pc + ix_len i, ls, st', hp'))
            | none => match ix_br i pc st with
              | some (pc', st') => some (.inl (pc', ls, st', hp))
              | none => match ix_cal T f M.1 i st hp with
                | some (st', hp') => some (.inl (pc + ix_len i, ls, st', hp'))
                | none => none
theorem ix_one_sem (T : ix_T) (f : ix_F) (M : ix_M) (pc : Nat) (ls : ix_L) (st : List Value) (hp : ix_H) {i : Instr} (hi : M.2.2.2.2.2.2 pc = some i) : ix_one T f M (pc, ls, st, hp) = ix_sem T f M i pc ls st hp := by
  show (match M.2.2.2.2.2.2 pc with
    | none => none
    | some i => ix_sem T f M i pc ls st hp) = _
  rw [hi]
section IYF
variable {T : ix_T} {f : ix_F} {M : ix_M} {pc : Nat} {ls : ix_L} {st : List Value} {hp : ix_H} {res : ix_S ⊕ (Option Value × ix_H)}
noncomputable def fx_iadd (pc : Nat) (ls : ix_L) (st : List Value) (hp : ix_H) : Option (ix_S ⊕ (Option Value × ix_H)) := match st with
  | .int y :: .int x :: r => some (.inl (pc + 1, ls, .int (x + y) :: r, hp))
  | _ => none
theorem fxk_iadd (h : fx_iadd pc ls st hp = some res) : ix_sem T f M (.iadd) pc ls st hp = some res := by
  unfold fx_iadd at h
  repeat' (split at h)
  all_goals first | (cases h; done) | (cases h; rfl)
noncomputable def fx_isub (pc : Nat) (ls : ix_L) (st : List Value) (hp : ix_H) : Option (ix_S ⊕ (Option Value × ix_H)) := match st with
  | .int y :: .int x :: r => some (.inl (pc + 1, ls, .int (x - y) :: r, hp))
  | _ => none
theorem fxk_isub (h : fx_isub pc ls st hp = some res) : ix_sem T f M (.isub) pc ls st hp = some res := by
  unfold fx_isub at h
  repeat' (split at h)
  all_goals first | (cases h; done) | (cases h; rfl)
noncomputable def fx_imul (pc : Nat) (ls : ix_L) (st : List Value) (hp : ix_H) : Option (ix_S ⊕ (Option Value × ix_H)) := match st with
  | .int y :: .int x :: r => some (.inl (pc + 1, ls, .int (x * y) :: r, hp))
  | _ => none
theorem fxk_imul (h : fx_imul pc ls st hp = some res) : ix_sem T f M (.imul) pc ls st hp = some res := by
  unfold fx_imul at h
  repeat' (split at h)
  all_goals first | (cases h; done) | (cases h; rfl)
noncomputable def fx_iand (pc : Nat) (ls : ix_L) (st : List Value) (hp : ix_H) : Option (ix_S ⊕ (Option Value × ix_H)) := match st with
  | .int y :: .int x :: r => some (.inl (pc + 1, ls, .int (x &&& y) :: r, hp))
  | _ => none
theorem fxk_iand (h : fx_iand pc ls st hp = some res) : ix_sem T f M (.iand) pc ls st hp = some res := by
  unfold fx_iand at h
  repeat' (split at h)
  all_goals first | (cases h; done) | (cases h; rfl)
noncomputable def fx_ior (pc : Nat) (ls : ix_L) (st : List Value) (hp : ix_H) : Option (ix_S ⊕ (Option Value × ix_H)) := match st with
  | .int y :: .int x :: r => some (.inl (pc + 1, ls, .int (x ||| y) :: r, hp))
  | _ => none
theorem fxk_ior (h : fx_ior pc ls st hp = some res) : ix_sem T f M (.ior) pc ls st hp = some res := by
  unfold fx_ior at h
  repeat' (split at h)
  all_goals first | (cases h; done) | (cases h; rfl)
noncomputable def fx_ixor (pc : Nat) (ls : ix_L) (st : List Value) (hp : ix_H) : Option (ix_S ⊕ (Option Value × ix_H)) := match st with
  | .int y :: .int x :: r => some (.inl (pc + 1, ls, .int (x ^^^ y) :: r, hp))
  | _ => none
theorem fxk_ixor (h : fx_ixor pc ls st hp = some res) : ix_sem T f M (.ixor) pc ls st hp = some res := by
  unfold fx_ixor at h
  repeat' (split at h)
  all_goals first | (cases h; done) | (cases h; rfl)
noncomputable def fx_ishl (pc : Nat) (ls : ix_L) (st : List Value) (hp : ix_H) : Option (ix_S ⊕ (Option Value × ix_H)) := match st with
  | .int y :: .int x :: r => some (.inl (pc + 1, ls, .int (x <<< (y &&& 31)) :: r, hp))
  | _ => none
theorem fxk_ishl (h : fx_ishl pc ls st hp = some res) : ix_sem T f M (.ishl) pc ls st hp = some res := by
  unfold fx_ishl at h
  repeat' (split at h)
  all_goals first | (cases h; done) | (cases h; rfl)
noncomputable def fx_ishr (pc : Nat) (ls : ix_L) (st : List Value) (hp : ix_H) : Option (ix_S ⊕ (Option Value × ix_H)) := match st with
  | .int y :: .int x :: r => some (.inl (pc + 1, ls, .int (x >>> (y &&& 31)) :: r, hp))
  | _ => none
theorem fxk_ishr (h : fx_ishr pc ls st hp = some res) : ix_sem T f M (.ishr) pc ls st hp = some res := by
  unfold fx_ishr at h
  repeat' (split at h)
  all_goals first | (cases h; done) | (cases h; rfl)
noncomputable def fx_iushr (pc : Nat) (ls : ix_L) (st : List Value) (hp : ix_H) : Option (ix_S ⊕ (Option Value × ix_H)) := match st with
  | .int y :: .int x :: r => some (.inl (pc + 1, ls, .int ((x.toUInt32 >>> (y.toUInt32 &&& Int32.toUInt32 31)).toInt32) :: r, hp))
  | _ => none
theorem fxk_iushr (h : fx_iushr pc ls st hp = some res) : ix_sem T f M (.iushr) pc ls st hp = some res := by
  unfold fx_iushr at h
  repeat' (split at h)
  all_goals first | (cases h; done) | (cases h; rfl)
noncomputable def fx_ladd (pc : Nat) (ls : ix_L) (st : List Value) (hp : ix_H) : Option (ix_S ⊕ (Option Value × ix_H)) := match st with
  | .long y :: .long x :: r => some (.inl (pc + 1, ls, .long (x + y) :: r, hp))
  | _ => none
theorem fxk_ladd (h : fx_ladd pc ls st hp = some res) : ix_sem T f M (.ladd) pc ls st hp = some res := by
  unfold fx_ladd at h
  repeat' (split at h)
  all_goals first | (cases h; done) | (cases h; rfl)
noncomputable def fx_lsub (pc : Nat) (ls : ix_L) (st : List Value) (hp : ix_H) : Option (ix_S ⊕ (Option Value × ix_H)) := match st with
  | .long y :: .long x :: r => some (.inl (pc + 1, ls, .long (x - y) :: r, hp))
  | _ => none
theorem fxk_lsub (h : fx_lsub pc ls st hp = some res) : ix_sem T f M (.lsub) pc ls st hp = some res := by
  unfold fx_lsub at h
  repeat' (split at h)
  all_goals first | (cases h; done) | (cases h; rfl)
noncomputable def fx_lmul (pc : Nat) (ls : ix_L) (st : List Value) (hp : ix_H) : Option (ix_S ⊕ (Option Value × ix_H)) := match st with
  | .long y :: .long x :: r => some (.inl (pc + 1, ls, .long (x * y) :: r, hp))
  | _ => none
theorem fxk_lmul (h : fx_lmul pc ls st hp = some res) : ix_sem T f M (.lmul) pc ls st hp = some res := by
  unfold fx_lmul at h
  repeat' (split at h)
  all_goals first | (cases h; done) | (cases h; rfl)
noncomputable def fx_land (pc : Nat) (ls : ix_L) (st : List Value) (hp : ix_H) : Option (ix_S ⊕ (Option Value × ix_H)) := match st with
  | .long y :: .long x :: r => some (.inl (pc + 1, ls, .long (x &&& y) :: r, hp))
  | _ => none
theorem fxk_land (h : fx_land pc ls st hp = some res) : ix_sem T f M (.land) pc ls st hp = some res := by
  unfold fx_land at h
  repeat' (split at h)
  all_goals first | (cases h; done) | (cases h; rfl)
noncomputable def fx_lor (pc : Nat) (ls : ix_L) (st : List Value) (hp : ix_H) : Option (ix_S ⊕ (Option Value × ix_H)) := match st with
  | .long y :: .long x :: r => some (.inl (pc + 1, ls, .long (x ||| y) :: r, hp))
  | _ => none
theorem fxk_lor (h : fx_lor pc ls st hp = some res) : ix_sem T f M (.lor) pc ls st hp = some res := by
  unfold fx_lor at h
  repeat' (split at h)
  all_goals first | (cases h; done) | (cases h; rfl)
noncomputable def fx_lxor (pc : Nat) (ls : ix_L) (st : List Value) (hp : ix_H) : Option (ix_S ⊕ (Option Value × ix_H)) := match st with
  | .long y :: .long x :: r => some (.inl (pc + 1, ls, .long (x ^^^ y) :: r, hp))
  | _ => none
theorem fxk_lxor (h : fx_lxor pc ls st hp = some res) : ix_sem T f M (.lxor) pc ls st hp = some res := by
  unfold fx_lxor at h
  repeat' (split at h)
  all_goals first | (cases h; done) | (cases h; rfl)
noncomputable def fx_idiv (pc : Nat) (ls : ix_L) (st : List Value) (hp : ix_H) : Option (ix_S ⊕ (Option Value × ix_H)) := match st with
  | .int y :: .int x :: r => if y = 0 then none else some (.inl (pc + 1, ls, .int (x / y) :: r, hp))
  | _ => none
theorem fxk_idiv (h : fx_idiv pc ls st hp = some res) : ix_sem T f M (.idiv) pc ls st hp = some res := by
  unfold fx_idiv at h
  split at h
  · split at h
    · cases h
    · rename_i hy
      cases h
      simp [ix_sem, ix_ret, ix_alu, hy, ix_len]
  · cases h
noncomputable def fx_irem (pc : Nat) (ls : ix_L) (st : List Value) (hp : ix_H) : Option (ix_S ⊕ (Option Value × ix_H)) := match st with
  | .int y :: .int x :: r => if y = 0 then none else some (.inl (pc + 1, ls, .int (x - x / y * y) :: r, hp))
  | _ => none
theorem fxk_irem (h : fx_irem pc ls st hp = some res) : ix_sem T f M (.irem) pc ls st hp = some res := by
  unfold fx_irem at h
  split at h
  · split at h
    · cases h
    · rename_i hy
      cases h
      simp [ix_sem, ix_ret, ix_alu, hy, ix_len]
  · cases h
noncomputable def fx_ldiv (pc : Nat) (ls : ix_L) (st : List Value) (hp : ix_H) : Option (ix_S ⊕ (Option Value × ix_H)) := match st with
  | .long y :: .long x :: r => if y = 0 then none else some (.inl (pc + 1, ls, .long (x / y) :: r, hp))
  | _ => none
theorem fxk_ldiv (h : fx_ldiv pc ls st hp = some res) : ix_sem T f M (.ldiv) pc ls st hp = some res := by
  unfold fx_ldiv at h
  split at h
  · split at h
    · cases h
    · rename_i hy
      cases h
      simp [ix_sem, ix_ret, ix_alu, hy, ix_len]
  · cases h
noncomputable def fx_lrem (pc : Nat) (ls : ix_L) (st : List Value) (hp : ix_H) : Option (ix_S ⊕ (Option Value × ix_H)) := match st with
  | .long y :: .long x :: r => if y = 0 then none else some (.inl (pc + 1, ls, .long (x - x / y * y) :: r, hp))
  | _ => none
theorem fxk_lrem (h : fx_lrem pc ls st hp = some res) : ix_sem T f M (.lrem) pc ls st hp = some res := by
  unfold fx_lrem at h
  split at h
  · split at h
    · cases h
    · rename_i hy
      cases h
      simp [ix_sem, ix_ret, ix_alu, hy, ix_len]
  · cases h
end IYF
end
