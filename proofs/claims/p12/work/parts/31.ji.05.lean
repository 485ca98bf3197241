section
section JI
variable {A : Nat → Option (Nat × (Nat → Int32))} {D : Nat} {m : ix_M} {pc : Nat} {ls ls' : ix_L} {st : List Value} {M : jm} {Q : Option Value → jm → Prop}
theorem jr.icmp_eq {t : Nat} {off x y : Int} (hi : m.2.2.2.2.2.2 pc = some (.if_icmp .eq off)) (ht : ix_tg pc off = some t) (hx : -2147483648 ≤ x ∧ x ≤ 2147483647) (hy : -2147483648 ≤ y ∧ y ≤ 2147483647) (k1 : x = y → jr A D m t ls st M Q) (k2 : ¬ (x = y) → jr A D m (pc + 3) ls st M Q) : jr A D m pc ls (.int (Int32.ofInt y) :: .int (Int32.ofInt x) :: st) M Q := by
  by_cases h : x = y
  · exact jr_sem hi (fun f => fxk_icmp (by unfold fx_icmp; simp only [ht, j_cb_eq hx hy, decide_eq_true h, cond_true])) (k1 h)
  · exact jr_sem hi (fun f => fxk_icmp (by unfold fx_icmp; simp only [ht, j_cb_eq hx hy, decide_eq_false h, cond_false])) (k2 h)
theorem jr.if_eq {t : Nat} {off x : Int} (hi : m.2.2.2.2.2.2 pc = some (.ifCond .eq off)) (ht : ix_tg pc off = some t) (hx : -2147483648 ≤ x ∧ x ≤ 2147483647) (k1 : x = 0 → jr A D m t ls st M Q) (k2 : ¬ (x = 0) → jr A D m (pc + 3) ls st M Q) : jr A D m pc ls (.int (Int32.ofInt x) :: st) M Q := by
  have hy : (-2147483648 : Int) ≤ 0 ∧ (0 : Int) ≤ 2147483647 := by omega
  have e : ix_cb .eq (Int32.ofInt x) 0 = decide (x = 0) := j_cb_eq hx hy
  by_cases h : x = 0
  · exact jr_sem hi (fun f => fxk_if (by unfold fx_if; simp only [ht, e, decide_eq_true h, cond_true])) (k1 h)
  · exact jr_sem hi (fun f => fxk_if (by unfold fx_if; simp only [ht, e, decide_eq_false h, cond_false])) (k2 h)
theorem j_cb_ne {x y : Int} (hx : -2147483648 ≤ x ∧ x ≤ 2147483647) (hy : -2147483648 ≤ y ∧ y ≤ 2147483647) : ix_cb .ne (Int32.ofInt x) (Int32.ofInt y) = decide (¬ x = y) := by
  unfold ix_cb
  exact decide_eq_decide.mpr (not_congr (j_cb hx hy).1)
theorem jr.icmp_ne {t : Nat} {off x y : Int} (hi : m.2.2.2.2.2.2 pc = some (.if_icmp .ne off)) (ht : ix_tg pc off = some t) (hx : -2147483648 ≤ x ∧ x ≤ 2147483647) (hy : -2147483648 ≤ y ∧ y ≤ 2147483647) (k1 : ¬ x = y → jr A D m t ls st M Q) (k2 : ¬ (¬ x = y) → jr A D m (pc + 3) ls st M Q) : jr A D m pc ls (.int (Int32.ofInt y) :: .int (Int32.ofInt x) :: st) M Q := by
  by_cases h : ¬ x = y
  · exact jr_sem hi (fun f => fxk_icmp (by unfold fx_icmp; simp only [ht, j_cb_ne hx hy, decide_eq_true h, cond_true])) (k1 h)
  · exact jr_sem hi (fun f => fxk_icmp (by unfold fx_icmp; simp only [ht, j_cb_ne hx hy, decide_eq_false h, cond_false])) (k2 h)
theorem jr.if_ne {t : Nat} {off x : Int} (hi : m.2.2.2.2.2.2 pc = some (.ifCond .ne off)) (ht : ix_tg pc off = some t) (hx : -2147483648 ≤ x ∧ x ≤ 2147483647) (k1 : ¬ x = 0 → jr A D m t ls st M Q) (k2 : ¬ (¬ x = 0) → jr A D m (pc + 3) ls st M Q) : jr A D m pc ls (.int (Int32.ofInt x) :: st) M Q := by
  have hy : (-2147483648 : Int) ≤ 0 ∧ (0 : Int) ≤ 2147483647 := by omega
  have e : ix_cb .ne (Int32.ofInt x) 0 = decide (¬ x = 0) := j_cb_ne hx hy
  by_cases h : ¬ x = 0
  · exact jr_sem hi (fun f => fxk_if (by unfold fx_if; simp only [ht, e, decide_eq_true h, cond_true])) (k1 h)
  · exact jr_sem hi (fun f => fxk_if (by unfold fx_if; simp only [ht, e, decide_eq_false h, cond_false])) (k2 h)
theorem j_cb_lt {x y : Int} (hx : -2147483648 ≤ x ∧ x ≤ 2147483647) (hy : -2147483648 ≤ y ∧ y ≤ 2147483647) : ix_cb .lt (Int32.ofInt x) (Int32.ofInt y) = decide (x < y) := by
  unfold ix_cb
  exact decide_eq_decide.mpr (j_cb hx hy).2.1
theorem jr.icmp_lt {t : Nat} {off x y : Int} (hi : m.2.2.2.2.2.2 pc = some (.if_icmp .lt off)) (ht : ix_tg pc off = some t) (hx : -2147483648 ≤ x ∧ x ≤ 2147483647) (hy : -2147483648 ≤ y ∧ y ≤ 2147483647) (k1 : x < y → jr A D m t ls st M Q) (k2 : ¬ (x < y) → jr A D m (pc + 3) ls st M Q) : jr A D m pc ls (.int (Int32.ofInt y) :: .int (Int32.ofInt x) :: st) M Q := by
  by_cases h : x < y
  · exact jr_sem hi (fun f => fxk_icmp (by unfold fx_icmp; simp only [ht, j_cb_lt hx hy, decide_eq_true h, cond_true])) (k1 h)
  · exact jr_sem hi (fun f => fxk_icmp (by unfold fx_icmp; simp only [ht, j_cb_lt hx hy, decide_eq_false h, cond_false])) (k2 h)
end JI
end
