/-! ===== a run that doesn't read the script is the same over every script; sums without overflow ===== -/
theorem add_ok {x y : Int32} (h : -2147483648 ≤ x.toInt + y.toInt ∧ x.toInt + y.toInt ≤ 2147483647) : (x + y).toInt = x.toInt + y.toInt := by
  rw [Int32.toInt_add]
  exact Int.bmod_eq_of_le (by omega) (by omega)
theorem adds_ok {x y c : Int32} (h : -2147483648 ≤ x.toInt + y.toInt ∧ x.toInt + y.toInt ≤ 2147483647) (h2 : -2147483648 ≤ x.toInt + y.toInt - c.toInt ∧ x.toInt + y.toInt - c.toInt ≤ 2147483647) : (x + y - c).toInt = x.toInt + y.toInt - c.toInt := by
  rw [sub_ok (by rw [add_ok h]; exact h2), add_ok h]
theorem xcns0 (a : Nat) : ix_cns xt0 a = none := by
  unfold ix_cns
  cases Nat.blt a 1000000 <;> rfl
theorem xh_mono (A : Nat → Option (Nat × (Nat → Int32))) (oc : Nat) (ini : Bool) (i : Instr) (st : List Value) (hp : ix_H) : ix_hp (xT A) oc ini i st hp = ix_hp xt0 oc ini i st hp ∨ (ix_hp xt0 oc ini i st hp = none ∧ (i = .arraylength ∨ i = .iaload)) := by
  cases i
  case arraylength =>
    cases st with
    | nil => exact Or.inl rfl
    | cons v st =>
      cases v
      case ref a =>
        cases ha : ix_arr hp a with
        | some x =>
          obtain ⟨t, n, x⟩ := x
          left
          simp only [ix_hp, ha]
          rfl
        | none =>
          right
          refine ⟨?_, Or.inl rfl⟩
          simp only [ix_hp, ha, xcns0]
      all_goals exact Or.inl rfl
  case iaload =>
    by_cases h : ix_hp xt0 oc ini .iaload st hp = none
    · exact Or.inr ⟨h, Or.inr rfl⟩
    · left
      cases st with
      | nil => rfl
      | cons v st =>
        cases v
        case int j =>
          cases st with
          | nil => rfl
          | cons v st =>
            cases v
            case ref a =>
              cases ha : ix_arr hp a with
              | some x =>
                obtain ⟨t, n, y⟩ := x
                simp only [ix_hp, ha]
                rcases t with _ | t <;> rcases y with f | y <;> rfl
              | none =>
                exfalso
                apply h
                simp only [ix_hp, ha, xcns0]
            all_goals rfl
        all_goals rfl
  all_goals
    refine Or.inl ?_
    first
    | rfl
    | (rcases st with _ | ⟨v, st⟩
       · rfl
       · cases v <;> first
         | rfl
         | (rcases st with _ | ⟨v, st⟩
            · rfl
            · cases v <;> first
              | rfl
              | (rcases st with _ | ⟨v, st⟩
                 · rfl
                 · cases v <;> rfl)))
theorem xsem_mono (A : Nat → Option (Nat × (Nat → Int32))) {f : ix_F} {M : ix_M} {i : Instr} {pc : Nat} {ls : ix_L} {st : List Value} {hp : ix_H} {res : ix_S ⊕ (Option Value × ix_H)} (h : ix_sem xt0 f M i pc ls st hp = some res) : ix_sem (xT A) f M i pc ls st hp = some res := by
  have ec : ix_cal (xT A) f M.1 i st hp = ix_cal xt0 f M.1 i st hp := rfl
  rcases xh_mono A M.1 M.2.2.2.2.2.1 i st hp with e | ⟨e1, e2⟩
  · unfold ix_sem at h ⊢
    rw [e, ec]
    exact h
  · exfalso
    rcases e2 with rfl | rfl
    · unfold ix_sem at h
      rw [e1] at h
      simp [ix_ret, ix_alu, ix_loc, ix_br, ix_cal] at h
    · unfold ix_sem at h
      rw [e1] at h
      simp [ix_ret, ix_alu, ix_loc, ix_br, ix_cal] at h
theorem xiter_mono (A : Nat → Option (Nat × (Nat → Int32))) {f g : ix_F} (hfg : ∀ (mid : Nat) (av : List Value) (hp : ix_H) (r : Option Value × ix_H), f mid av hp = some r → g mid av hp = some r) {M : ix_M} : ∀ (k : Nat) (σ : ix_S) (res : ix_S ⊕ (Option Value × ix_H)), ix_iter xt0 f M k σ = some res → ix_iter (xT A) g M k σ = some res
  | 0, (pc, ls, st, hp), res, h => by
    show ix_one (xT A) g M (pc, ls, st, hp) = some res
    have h : ix_one xt0 f M (pc, ls, st, hp) = some res := h
    cases hi : M.2.2.2.2.2.2 pc with
    | none =>
      unfold ix_one at h
      simp only [hi] at h
      cases h
    | some i =>
      rw [ix_one_sem _ _ M pc ls st hp hi] at h ⊢
      exact xsem_mono A (ix_sem_sub hfg h)
  | k + 1, σ, res, h => by
    unfold ix_iter at h ⊢
    split at h
    · rename_i σ' h1
      rw [xiter_mono A hfg k σ _ h1]
      exact xiter_mono A hfg k σ' res h
    · rename_i hne
      have h2 := xiter_mono A hfg k σ res h
      rw [h2]
      split
      · rename_i σ' h3
        exact absurd (h.trans h3) (hne σ')
      · rfl
theorem xrun_mono (A : Nat → Option (Nat × (Nat → Int32))) (k : Nat) : ∀ (d mid : Nat) (av : List Value) (hp : ix_H) (r : Option Value × ix_H), ix_run xt0 k d mid av hp = some r → ix_run (xT A) k d mid av hp = some r
  | 0, mid, av, hp, r, h => by cases h
  | d + 1, mid, av, hp, r, h => by
    unfold ix_run at h ⊢
    have em : ix_tM (xT A) mid = ix_tM xt0 mid := rfl
    rw [em]
    split at h
    · cases h
    · rename_i M hM
      split at h
      · rename_i hl
        rw [if_pos hl]
        split at h
        · rename_i hr
          rw [xiter_mono A (xrun_mono A k d) _ _ _ hr]
          exact h
        · cases h
      · cases h
/-- two calls, one behind the other, worked by the kernel: the same answer -/
def xpair (mid1 mid2 : Nat) (av : List Value) : Bool := match iy_run xt0 14 8 mid1 (.ref 0 :: av) xhp0 with
  | some (some (.int v), n1, k1, h1) => Nat.beq n1 688 && Nat.beq k1 70427 && (match ix_obj (n1, k1, h1) 598 with
    | some (c, _) => Nat.beq c 12
    | none => false) && (match iy_run xt0 14 8 mid2 (.ref 598 :: av) (n1, k1, h1) with
    | some (some (.int w), n2, k2, _) => decide (v = w) && Nat.beq n2 688 && Nat.beq k2 70427
    | _ => false)
  | _ => false
theorem xpair_ok {mid1 mid2 : Nat} {av : List Value} (h : xpair mid1 mid2 av = true) : ∃ (v : Int32) (h1 h2 : Nat → ix_C) (fs : List Value), iy_run xt0 14 8 mid1 (.ref 0 :: av) xhp0 = some (some (.int v), (688, 70427, h1)) ∧ ix_obj (688, 70427, h1) 598 = some (12, fs) ∧ iy_run xt0 14 8 mid2 (.ref 598 :: av) (688, 70427, h1) = some (some (.int v), (688, 70427, h2)) := by
  unfold xpair at h
  split at h
  · rename_i v n1 k1 h1 hr
    simp only [Bool.and_eq_true] at h
    obtain ⟨⟨⟨a1, a2⟩, ho⟩, h⟩ := h
    have a1 := Nat.eq_of_beq_eq_true a1
    have a2 := Nat.eq_of_beq_eq_true a2
    subst a1
    subst a2
    split at ho
    · rename_i c fs hob
      have hc := Nat.eq_of_beq_eq_true ho
      subst hc
      split at h
      · rename_i w n2 k2 h2 hr2
        simp only [Bool.and_eq_true, decide_eq_true_eq] at h
        obtain ⟨⟨e, b1⟩, b2⟩ := h
        have b1 := Nat.eq_of_beq_eq_true b1
        have b2 := Nat.eq_of_beq_eq_true b2
        subst e
        subst b1
        subst b2
        exact ⟨_, h1, h2, fs, hr, hob, hr2⟩
      · cases h
    · cases ho
  · cases h
