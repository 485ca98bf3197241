/-! ===== fewer locals, in another order: the run is the same ===== -/
def ix_uqb : ix_L → Bool
  | [] => true
  | q :: r => !(r.any (fun p => Nat.beq p.1 q.1)) && ix_uqb r
theorem ix_uqb_c {q : Nat × Value} {r : ix_L} (h : ix_uqb (q :: r) = true) : (∀ p ∈ r, p.1 ≠ q.1) ∧ ix_uqb r = true := by
  unfold ix_uqb at h
  rw [Bool.and_eq_true, Bool.not_eq_true'] at h
  refine ⟨fun p hp e => ?_, h.2⟩
  have := List.any_eq_false.mp h.1 p hp
  rw [e] at this
  exact this (by simp)
theorem ix_uqb_k {q : Nat × Value} {r : ix_L} (h1 : ∀ p ∈ r, p.1 ≠ q.1) (h2 : ix_uqb r = true) : ix_uqb (q :: r) = true := by
  unfold ix_uqb
  rw [Bool.and_eq_true, Bool.not_eq_true']
  refine ⟨List.any_eq_false.mpr (fun p hp e => h1 p hp (Nat.eq_of_beq_eq_true e)), h2⟩
theorem ix_ld_uq : ∀ {ls : ix_L} {k : Nat} {v : Value}, ix_uqb ls = true → (k, v) ∈ ls → ix_ld ls k = some v
  | [], _, _, _, h => by cases h
  | q :: r, k, v, hu, h => by
    obtain ⟨h1, h2⟩ := ix_uqb_c hu
    unfold ix_ld
    rcases List.mem_cons.mp h with e | h
    · subst e
      simp
    · have hne : Nat.beq q.1 k = false := by
        cases hb : Nat.beq q.1 k with
        | false => rfl
        | true => exact absurd (Nat.eq_of_beq_eq_true hb).symm (h1 _ h)
      rw [hne]
      exact ix_ld_uq h2 h
theorem ix_uqb_f (P : Nat × Value → Bool) : ∀ {ls : ix_L}, ix_uqb ls = true → ix_uqb (ls.filter P) = true
  | [], _ => rfl
  | q :: r, hu => by
    obtain ⟨h1, h2⟩ := ix_uqb_c hu
    rw [List.filter_cons]
    split
    · exact ix_uqb_k (fun p hp => h1 p (List.mem_filter.mp hp).1) (ix_uqb_f P h2)
    · exact ix_uqb_f P h2
theorem ix_st1_uq {ls : ix_L} (i : Nat) (v : Value) (hu : ix_uqb ls = true) : ix_uqb (ix_st1 ls i v) = true := by
  refine ix_uqb_k (fun p hp e => ?_) (ix_uqb_f _ hu)
  have := (List.mem_filter.mp hp).2
  simp only [Bool.and_eq_true, Bool.not_eq_true', beq_eq_false_iff_ne] at this
  exact this.1 e
theorem ix_st2_uq {ls : ix_L} (i : Nat) (v : Value) (hu : ix_uqb ls = true) : ix_uqb (ix_st2 ls i v) = true := by
  refine ix_uqb_k (fun p hp e => ?_) (ix_uqb_f _ hu)
  have := (List.mem_filter.mp hp).2
  simp only [Bool.and_eq_true, Bool.not_eq_true', beq_eq_false_iff_ne] at this
  exact this.1 e
theorem ix_st1_le {ls ls' : ix_L} (i : Nat) (v : Value) (h : ∀ q ∈ ls, q ∈ ls') : ∀ q ∈ ix_st1 ls i v, q ∈ ix_st1 ls' i v := by
  intro q hq
  rcases List.mem_cons.mp hq with e | hq
  · rw [e]; exact List.mem_cons_self
  · obtain ⟨a, b⟩ := List.mem_filter.mp hq
    exact List.mem_cons_of_mem _ (List.mem_filter.mpr ⟨h q a, b⟩)
theorem ix_st2_le {ls ls' : ix_L} (i : Nat) (v : Value) (h : ∀ q ∈ ls, q ∈ ls') : ∀ q ∈ ix_st2 ls i v, q ∈ ix_st2 ls' i v := by
  intro q hq
  rcases List.mem_cons.mp hq with e | hq
  · rw [e]; exact List.mem_cons_self
  · obtain ⟨a, b⟩ := List.mem_filter.mp hq
    exact List.mem_cons_of_mem _ (List.mem_filter.mpr ⟨h q a, b⟩)
theorem ix_ld_le {ls ls' : ix_L} {k : Nat} {v : Value} (hu : ix_uqb ls' = true) (h : ∀ q ∈ ls, q ∈ ls') (e : ix_ld ls k = some v) : ix_ld ls' k = some v := ix_ld_uq hu (h _ (ix_ld_mem e))
theorem ix_loc_le {i : Instr} {nL : Nat} {ls ls' ls1 : ix_L} {st st1 : List Value} (hu : ix_uqb ls' = true) (h : ∀ q ∈ ls, q ∈ ls') (e : ix_loc i nL ls st = some (ls1, st1)) : ∃ ls1', ix_loc i nL ls' st = some (ls1', st1) ∧ ix_uqb ls1' = true ∧ ∀ q ∈ ls1, q ∈ ls1' := by
  unfold ix_loc at e ⊢
  split at e
  all_goals first
    | (split at e
       · rename_i hl
         cases e
         exact ⟨ls', by simp only [ix_ld_le hu h hl], hu, h⟩
       · cases e)
    | (split at e
       · rename_i hk
         cases e
         exact ⟨_, by simp only [if_pos hk], ix_st1_uq _ _ hu, ix_st1_le _ _ h⟩
       · cases e)
    | (split at e
       · rename_i hk
         cases e
         exact ⟨_, by simp only [if_pos hk], ix_st2_uq _ _ hu, ix_st2_le _ _ h⟩
       · cases e)
    | (split at e
       · rename_i hl
         split at e
         · rename_i hk
           cases e
           exact ⟨_, by simp only [ix_ld_le hu h hl, if_pos hk], ix_st1_uq _ _ hu, ix_st1_le _ _ h⟩
         · cases e
       · cases e)
    | cases e
theorem ix_loc_no {i : Instr} {nL : Nat} {ls ls' : ix_L} {st : List Value} (hu : ix_uqb ls = true) (h : ∀ q ∈ ls', q ∈ ls) (e : ix_loc i nL ls st = none) : ix_loc i nL ls' st = none := by
  cases hc : ix_loc i nL ls' st with
  | none => rfl
  | some x =>
    obtain ⟨a, b, -⟩ := ix_loc_le hu h hc
    rw [e] at b
    cases b
/-- an instruction that isn't on locals doesn't ask for them -/
theorem ix_loc_st (i : Instr) (nL : Nat) (ls : ix_L) (st : List Value) : (∃ x, ix_loc i nL ls st = some x) → ∀ (T : ix_T) (f : ix_F) (oc : Nat) (ini : Bool) (pc : Nat) (hp : ix_H), ix_hp T oc ini i st hp = none ∧ ix_br i pc st = none ∧ ix_cal T f oc i st hp = none := by
  intro ⟨x, hx⟩ T f oc ini pc hp
  unfold ix_loc at hx
  split at hx <;> first | exact ⟨rfl, rfl, rfl⟩ | cases hx
theorem ix_one_le {T : ix_T} {f : ix_F} {M : ix_M} {pc pc1 : Nat} {ls ls' ls1 : ix_L} {st st1 : List Value} {hp hp1 : ix_H} (hu : ix_uqb ls' = true) (h : ∀ q ∈ ls, q ∈ ls') (e : ix_one T f M (pc, ls, st, hp) = some (.inl (pc1, ls1, st1, hp1))) : ∃ ls1', ix_one T f M (pc, ls', st, hp) = some (.inl (pc1, ls1', st1, hp1)) ∧ ix_uqb ls1' = true ∧ ∀ q ∈ ls1, q ∈ ls1' := by
  unfold ix_one at e ⊢
  simp only at e ⊢
  split at e
  · cases e
  · rename_i i hi
    try simp only [hi]
    split at e
    · cases e
    · rename_i hr
      try simp only [hr]
      split at e
      · rename_i ha
        cases e
        exact ⟨ls', by simp only [ha], hu, h⟩
      · rename_i ha
        try simp only [ha]
        split at e
        · rename_i hl
          cases e
          obtain ⟨l2, a1, a2, a3⟩ := ix_loc_le hu h hl
          exact ⟨l2, by simp only [a1], a2, a3⟩
        · rename_i hl
          cases hc : ix_loc i M.2.2.2.1 ls' st with
          | some x =>
            obtain ⟨q1, q2, q3⟩ := ix_loc_st i M.2.2.2.1 ls' st ⟨x, hc⟩ T f M.1 M.2.2.2.2.2.1 pc hp
            simp only [q1, q2, q3] at e
            cases e
          | none =>
            simp only
            split at e
            · rename_i hh
              cases e
              exact ⟨ls', by simp only [hh], hu, h⟩
            · rename_i hh
              try simp only [hh]
              split at e
              · rename_i hbr
                cases e
                exact ⟨ls', by simp only [hbr], hu, h⟩
              · rename_i hbr
                try simp only [hbr]
                split at e
                · rename_i hcl
                  cases e
                  exact ⟨ls', by simp only [hcl], hu, h⟩
                · cases e
theorem ix_one_re {T : ix_T} {f : ix_F} {M : ix_M} {pc : Nat} {ls ls' : ix_L} {st : List Value} {hp : ix_H} {r : Option Value × ix_H} (e : ix_one T f M (pc, ls, st, hp) = some (.inr r)) : ix_one T f M (pc, ls', st, hp) = some (.inr r) := by
  unfold ix_one at e ⊢
  simp only at e ⊢
  split at e
  · cases e
  · rename_i i hi
    try simp only [hi]
    split at e
    · rename_i hr
      try simp only [hr]
      exact e
    · (repeat' (split at e)) <;> cases e
theorem ix_n_le {T : ix_T} {f : ix_F} {M : ix_M} {r : Option Value × ix_H} : ∀ {n pc : Nat} {ls ls' : ix_L} {st : List Value} {hp : ix_H}, ix_uqb ls' = true → (∀ q ∈ ls, q ∈ ls') → ix_n T f M n (pc, ls, st, hp) = some (.inr r) → ix_n T f M n (pc, ls', st, hp) = some (.inr r)
  | 0, _, _, _, _, _, _, _, e => by cases e
  | n + 1, pc, ls, ls', st, hp, hu, h, e => by
    cases ho : ix_one T f M (pc, ls, st, hp) with
    | none => rw [ix_n_x ho] at e; cases e
    | some x =>
      cases x with
      | inr r2 =>
        rw [ix_n_e ho] at e
        cases e
        exact ix_n_e (ix_one_re ho)
      | inl s1 =>
        obtain ⟨pc1, ls1, st1, hp1⟩ := s1
        rw [ix_n_s ho] at e
        obtain ⟨l2, a1, a2, a3⟩ := ix_one_le hu h ho
        rw [ix_n_s a1]
        exact ix_n_le a2 a3 e
theorem jr.pick {A : Nat → Option (Nat × (Nat → Int32))} {D : Nat} {m : ix_M} {pc : Nat} {ls ls' : ix_L} {st : List Value} {M : jm} {Q : Option Value → jm → Prop} (ps : List Nat) (hu : ix_uqb ls' = true) (h : ps.filterMap (fun i => ls'[i]?) = ls) (k : jr A D m pc ls st M Q) : jr A D m pc ls' st M Q := by
  have hs : ∀ q ∈ ls, q ∈ ls' := by
    intro q hq
    rw [← h] at hq
    obtain ⟨i, -, hi⟩ := List.mem_filterMap.mp hq
    exact List.mem_of_getElem? hi
  obtain ⟨K, N, rv, M1, h1, h2⟩ := k
  refine ⟨K, N, rv, M1, fun K' hK D' hD => ?_, h2⟩
  obtain ⟨n, a, b⟩ := h1 K' hK D' hD
  exact ⟨n, a, ix_n_le hu hs b⟩
