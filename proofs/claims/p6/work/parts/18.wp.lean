/-! ===== runs by the number of their steps; a calculus ===== -/
def ix_n (T : ix_T) (f : ix_F) (M : ix_M) : Nat → ix_S → Option (ix_S ⊕ (Option Value × ix_H))
  | 0, σ => some (.inl σ)
  | n + 1, σ => match ix_one T f M σ with
    | some (.inl σ') => ix_n T f M n σ'
    | x => x
theorem ix_n_s {T : ix_T} {f : ix_F} {M : ix_M} {n : Nat} {σ σ' : ix_S} (h : ix_one T f M σ = some (.inl σ')) : ix_n T f M (n + 1) σ = ix_n T f M n σ' := by
  rw [ix_n, h]
theorem ix_n_e {T : ix_T} {f : ix_F} {M : ix_M} {n : Nat} {σ : ix_S} {r : Option Value × ix_H} (h : ix_one T f M σ = some (.inr r)) : ix_n T f M (n + 1) σ = some (.inr r) := by
  rw [ix_n, h]
theorem ix_n_x {T : ix_T} {f : ix_F} {M : ix_M} {n : Nat} {σ : ix_S} (h : ix_one T f M σ = none) : ix_n T f M (n + 1) σ = none := by
  rw [ix_n, h]
theorem ix_n_add (T : ix_T) (f : ix_F) (M : ix_M) : ∀ (a b : Nat) (σ : ix_S), ix_n T f M (a + b) σ = match ix_n T f M a σ with
    | some (.inl σ') => ix_n T f M b σ'
    | x => x
  | 0, b, σ => by rw [Nat.zero_add]; rfl
  | a + 1, b, σ => by
    rw [show a + 1 + b = (a + b) + 1 by omega]
    cases h : ix_one T f M σ with
    | none => rw [ix_n_x h, ix_n_x h]
    | some x =>
      cases x with
      | inl σ' => rw [ix_n_s h, ix_n_s h]; exact ix_n_add T f M a b σ'
      | inr r => rw [ix_n_e h, ix_n_e h]
theorem ix_n_iter (T : ix_T) (f : ix_F) (M : ix_M) : ∀ (k : Nat) (σ : ix_S), ix_iter T f M k σ = ix_n T f M (2 ^ k) σ
  | 0, σ => by
    show ix_one T f M σ = match ix_one T f M σ with
      | some (.inl σ') => some (.inl σ')
      | x => x
    cases h : ix_one T f M σ with
    | none => rfl
    | some x => cases x <;> rfl
  | k + 1, σ => by
    rw [show 2 ^ (k + 1) = 2 ^ k + 2 ^ k by rw [Nat.pow_succ]; omega, ix_n_add]
    unfold ix_iter
    rw [ix_n_iter T f M k σ]
    cases h : ix_n T f M (2 ^ k) σ with
    | none => rfl
    | some x =>
      cases x with
      | inl σ' => exact ix_n_iter T f M k σ'
      | inr r => rfl
/-- from σ the frame comes to its end with r, in at most N steps -/
def ix_R (T : ix_T) (f : ix_F) (M : ix_M) (N : Nat) (σ : ix_S) (r : Option Value × ix_H) : Prop := ∃ n, n ≤ N ∧ ix_n T f M n σ = some (.inr r)
section IXR
variable {T : ix_T} {f : ix_F} {M : ix_M} {N : Nat} {σ σ' : ix_S} {r : Option Value × ix_H}
theorem ix_R.step (a : Nat) (h : ix_n T f M a σ = some (.inl σ')) (k : ix_R T f M N σ' r) : ix_R T f M (a + N) σ r := by
  obtain ⟨n, h1, h2⟩ := k
  refine ⟨a + n, by omega, ?_⟩
  rw [ix_n_add, h]
  exact h2
theorem ix_R.fin (a : Nat) (h : ix_n T f M a σ = some (.inr r)) : ix_R T f M a σ r := ⟨a, Nat.le_refl _, h⟩
theorem ix_R.iter {k : Nat} (h : ix_R T f M N σ r) (hN : N ≤ 2 ^ k) : ix_iter T f M k σ = some (.inr r) := by
  obtain ⟨n, h1, h2⟩ := h
  rw [ix_n_iter, show 2 ^ k = n + (2 ^ k - n) by omega, ix_n_add, h2]
/-- a method's answer -/
theorem ix_R.run {K d mid : Nat} {av : List Value} {hp : ix_H} (hM : ix_tM T mid = some M) (hl : (lg_sl av).length ≤ M.2.2.2.1) (h : ix_R T (ix_run T K d) M N (0, lv_args 0 av, [], hp) r) (hN : N ≤ 2 ^ K) : ix_run T K (d + 1) mid av hp = some r := by
  unfold ix_run
  rw [hM]
  simp only [if_pos hl, h.iter hN]
/-- branches whose way is known by a hypothesis -/
theorem ix_n_if {pc t : Nat} {ls : ix_L} {st : List Value} {hp : ix_H} {cd : Jvm.ClassFile.Cond} {off : Int} {x : Int32} (hi : M.2.2.2.2.2.2 pc = some (.ifCond cd off)) (ht : ix_tg pc off = some t) : ix_n T f M 1 (pc, ls, .int x :: st, hp) = some (.inl (bif ix_cb cd x 0 then t else pc + 3, ls, st, hp)) := by
  refine ix_n_s ?_
  rw [ix_one_sem T f M pc ls _ hp hi, fxk_if (res := .inl (bif ix_cb cd x 0 then t else pc + 3, ls, st, hp)) (by
    unfold fx_if
    simp only [ht]
    cases hc : ix_cb cd x 0 <;> simp only [cond_true, cond_false])]
theorem ix_n_icmp {pc t : Nat} {ls : ix_L} {st : List Value} {hp : ix_H} {cd : Jvm.ClassFile.Cond} {off : Int} {x y : Int32} (hi : M.2.2.2.2.2.2 pc = some (.if_icmp cd off)) (ht : ix_tg pc off = some t) : ix_n T f M 1 (pc, ls, .int y :: .int x :: st, hp) = some (.inl (bif ix_cb cd x y then t else pc + 3, ls, st, hp)) := by
  refine ix_n_s ?_
  rw [ix_one_sem T f M pc ls _ hp hi, fxk_icmp (res := .inl (bif ix_cb cd x y then t else pc + 3, ls, st, hp)) (by
    unfold fx_icmp
    simp only [ht]
    cases hc : ix_cb cd x y <;> simp only [cond_true, cond_false])]
/-- a call whose answer is known -/
theorem ix_n_call {pc : Nat} {ls : ix_L} {st st' : List Value} {hp hp' : ix_H} {i : Instr} (hk : (∃ n, i = .invokevirtual n) ∨ (∃ n, i = .invokespecial n) ∨ ∃ n, i = .invokestatic n) (hi : M.2.2.2.2.2.2 pc = some i) (hc : ix_cal T f M.1 i st hp = some (st', hp')) : ix_n T f M 1 (pc, ls, st, hp) = some (.inl (pc + 3, ls, st', hp')) := by
  refine ix_n_s ?_
  rw [ix_one_sem T f M pc ls _ hp hi, fxk_call hk (res := .inl (pc + 3, ls, st', hp')) (by
    unfold fx_call
    rw [hc])]
end IXR
/-- the same by the fast interpreter -/
def iy_n (T : ix_T) (f : ix_F) (M : ix_M) : Nat → ix_S → Option (ix_S ⊕ (Option Value × ix_H))
  | 0, σ => some (.inl σ)
  | n + 1, (pc, ls, st, hp) => match M.2.2.2.2.2.2 pc with
    | none => none
    | some i => match iy_sem T f M i pc ls st hp with
      | some (.inl σ') => iy_n T f M n σ'
      | x => x
theorem iy_n_ok {T : ix_T} {f g : ix_F} (hfg : ∀ (mid : Nat) (av : List Value) (hp : ix_H) (r : Option Value × ix_H), f mid av hp = some r → g mid av hp = some r) {M : ix_M} : ∀ {n : Nat} {σ : ix_S} {res : ix_S ⊕ (Option Value × ix_H)}, iy_n T f M n σ = some res → ix_n T g M n σ = some res
  | 0, σ, res, h => h
  | n + 1, (pc, ls, st, hp), res, h => by
    unfold iy_n at h
    split at h
    · cases h
    · rename_i i hi
      split at h
      · rename_i σ' hs
        rw [ix_n_s (σ' := σ') (by rw [ix_one_sem T g M pc ls st hp hi]; exact ix_sem_sub hfg (iy_sem_ok hs))]
        exact iy_n_ok hfg h
      · rename_i hne
        cases hs : iy_sem T f M i pc ls st hp with
        | none => rw [hs] at h; cases h
        | some x =>
          cases x with
          | inl σ' => exact absurd hs (hne σ')
          | inr r =>
            rw [hs] at h
            cases h
            exact ix_n_e (by rw [ix_one_sem T g M pc ls st hp hi]; exact ix_sem_sub hfg (iy_sem_ok hs))
section IXB
variable {T : ix_T} {f : ix_F} {M : ix_M}
theorem ix_n_ift {pc t : Nat} {ls : ix_L} {st : List Value} {hp : ix_H} {cd : Jvm.ClassFile.Cond} {off : Int} {x : Int32} (hi : M.2.2.2.2.2.2 pc = some (.ifCond cd off)) (ht : ix_tg pc off = some t) (hc : ix_cb cd x 0 = true) : ix_n T f M 1 (pc, ls, .int x :: st, hp) = some (.inl (t, ls, st, hp)) := by
  rw [ix_n_if hi ht, hc]; rfl
theorem ix_n_iff {pc t : Nat} {ls : ix_L} {st : List Value} {hp : ix_H} {cd : Jvm.ClassFile.Cond} {off : Int} {x : Int32} (hi : M.2.2.2.2.2.2 pc = some (.ifCond cd off)) (ht : ix_tg pc off = some t) (hc : ix_cb cd x 0 = false) : ix_n T f M 1 (pc, ls, .int x :: st, hp) = some (.inl (pc + 3, ls, st, hp)) := by
  rw [ix_n_if hi ht, hc]; rfl
theorem ix_n_icmpt {pc t : Nat} {ls : ix_L} {st : List Value} {hp : ix_H} {cd : Jvm.ClassFile.Cond} {off : Int} {x y : Int32} (hi : M.2.2.2.2.2.2 pc = some (.if_icmp cd off)) (ht : ix_tg pc off = some t) (hc : ix_cb cd x y = true) : ix_n T f M 1 (pc, ls, .int y :: .int x :: st, hp) = some (.inl (t, ls, st, hp)) := by
  rw [ix_n_icmp hi ht, hc]; rfl
theorem ix_n_icmpf {pc t : Nat} {ls : ix_L} {st : List Value} {hp : ix_H} {cd : Jvm.ClassFile.Cond} {off : Int} {x y : Int32} (hi : M.2.2.2.2.2.2 pc = some (.if_icmp cd off)) (ht : ix_tg pc off = some t) (hc : ix_cb cd x y = false) : ix_n T f M 1 (pc, ls, .int y :: .int x :: st, hp) = some (.inl (pc + 3, ls, st, hp)) := by
  rw [ix_n_icmp hi ht, hc]; rfl
theorem ix_cal_v {oc idx kd mid na a cn : Nat} {st rest : List Value} {hp hp' : ix_H} {M' : ix_M} {fs : List Value} {rv : Option Value} (h1 : ix_tI T oc idx = some (kd, mid, na)) (hk : kd = 3 ∨ kd = 4) (h2 : st.drop na = .ref a :: rest) (h3 : ix_tM T mid = some M') (h4 : ix_obj hp a = some (cn, fs)) (h5 : cn = M'.1 ∧ ix_cats rest ≤ 8 ∧ na ≤ st.length) (h6 : f mid (.ref a :: (st.take na).reverse) hp = some (rv, hp')) : ix_cal T f oc (.invokevirtual idx) st hp = some (rv.toList ++ rest, hp') := by
  unfold ix_cal
  simp only [h1, if_pos hk, h2, h3, h4, if_pos h5, h6]
theorem ix_cal_s {oc idx kd mid na : Nat} {st : List Value} {hp hp' : ix_H} {rv : Option Value} (h1 : ix_tI T oc idx = some (kd, mid, na)) (hk : kd = 5 ∨ kd = 6) (h5 : ix_cats (st.drop na) ≤ 8 ∧ na ≤ st.length) (h6 : f mid (st.take na).reverse hp = some (rv, hp')) : ix_cal T f oc (.invokestatic idx) st hp = some (rv.toList ++ st.drop na, hp') := by
  unfold ix_cal
  rcases hk with rfl | rfl <;> simp only [h1] <;> simp [h5, h6]
end IXB
