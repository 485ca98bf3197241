section
section JI
variable {A : Nat → Option (Nat × (Nat → Int32))} {D : Nat} {m : ix_M} {pc : Nat} {ls ls' : ix_L} {st : List Value} {M : jm} {Q : Option Value → jm → Prop}
theorem j_cb_le {x y : Int} (hx : -2147483648 ≤ x ∧ x ≤ 2147483647) (hy : -2147483648 ≤ y ∧ y ≤ 2147483647) : ix_cb .le (Int32.ofInt x) (Int32.ofInt y) = decide (x ≤ y) := by
  unfold ix_cb
  exact decide_eq_decide.mpr (j_cb hx hy).2.2
theorem jr.icmp_le {t : Nat} {off x y : Int} (hi : m.2.2.2.2.2.2 pc = some (.if_icmp .le off)) (ht : ix_tg pc off = some t) (hx : -2147483648 ≤ x ∧ x ≤ 2147483647) (hy : -2147483648 ≤ y ∧ y ≤ 2147483647) (k1 : x ≤ y → jr A D m t ls st M Q) (k2 : ¬ (x ≤ y) → jr A D m (pc + 3) ls st M Q) : jr A D m pc ls (.int (Int32.ofInt y) :: .int (Int32.ofInt x) :: st) M Q := by
  by_cases h : x ≤ y
  · exact jr_sem hi (fun f => fxk_icmp (by unfold fx_icmp; simp only [ht, j_cb_le hx hy, decide_eq_true h, cond_true])) (k1 h)
  · exact jr_sem hi (fun f => fxk_icmp (by unfold fx_icmp; simp only [ht, j_cb_le hx hy, decide_eq_false h, cond_false])) (k2 h)
theorem jr.if_le {t : Nat} {off x : Int} (hi : m.2.2.2.2.2.2 pc = some (.ifCond .le off)) (ht : ix_tg pc off = some t) (hx : -2147483648 ≤ x ∧ x ≤ 2147483647) (k1 : x ≤ 0 → jr A D m t ls st M Q) (k2 : ¬ (x ≤ 0) → jr A D m (pc + 3) ls st M Q) : jr A D m pc ls (.int (Int32.ofInt x) :: st) M Q := by
  have hy : (-2147483648 : Int) ≤ 0 ∧ (0 : Int) ≤ 2147483647 := by omega
  have e : ix_cb .le (Int32.ofInt x) 0 = decide (x ≤ 0) := j_cb_le hx hy
  by_cases h : x ≤ 0
  · exact jr_sem hi (fun f => fxk_if (by unfold fx_if; simp only [ht, e, decide_eq_true h, cond_true])) (k1 h)
  · exact jr_sem hi (fun f => fxk_if (by unfold fx_if; simp only [ht, e, decide_eq_false h, cond_false])) (k2 h)
theorem jl_cmp_r {x y : Int} (hx : -9223372036854775808 ≤ x ∧ x ≤ 9223372036854775807) (hy : -9223372036854775808 ≤ y ∧ y ≤ 9223372036854775807) : (jl_cmp x y = 1 ∧ y < x) ∨ (jl_cmp x y = 0 ∧ x = y) ∨ (jl_cmp x y = -1 ∧ x < y) := by
  rw [jl_cmp_lt hx hy]
  by_cases h1 : y < x
  · rw [if_pos h1]; omega
  · rw [if_neg h1]
    by_cases h2 : x = y
    · rw [if_pos h2]; omega
    · rw [if_neg h2]; omega
theorem jr.lcmp_eq {t : Nat} {off x y : Int} (hi : m.2.2.2.2.2.2 pc = some .lcmp) (hi2 : m.2.2.2.2.2.2 (pc + 1) = some (.ifCond .eq off)) (ht : ix_tg (pc + 1) off = some t) (hx : -9223372036854775808 ≤ x ∧ x ≤ 9223372036854775807) (hy : -9223372036854775808 ≤ y ∧ y ≤ 9223372036854775807) (k1 : x = y → jr A D m t ls st M Q) (k2 : ¬ (x = y) → jr A D m (pc + 4) ls st M Q) : jr A D m pc ls (.long (Int64.ofInt y) :: .long (Int64.ofInt x) :: st) M Q := by
  refine jr.lcmp hi ?_
  have hr := jl_cmp_r hx hy
  exact jr.if_eq hi2 ht (by omega) (fun h => k1 (by omega)) (fun h => k2 (by omega))
theorem jr.lcmp_ne {t : Nat} {off x y : Int} (hi : m.2.2.2.2.2.2 pc = some .lcmp) (hi2 : m.2.2.2.2.2.2 (pc + 1) = some (.ifCond .ne off)) (ht : ix_tg (pc + 1) off = some t) (hx : -9223372036854775808 ≤ x ∧ x ≤ 9223372036854775807) (hy : -9223372036854775808 ≤ y ∧ y ≤ 9223372036854775807) (k1 : ¬ x = y → jr A D m t ls st M Q) (k2 : ¬ (¬ x = y) → jr A D m (pc + 4) ls st M Q) : jr A D m pc ls (.long (Int64.ofInt y) :: .long (Int64.ofInt x) :: st) M Q := by
  refine jr.lcmp hi ?_
  have hr := jl_cmp_r hx hy
  exact jr.if_ne hi2 ht (by omega) (fun h => k1 (by omega)) (fun h => k2 (by omega))
theorem jr.lcmp_lt {t : Nat} {off x y : Int} (hi : m.2.2.2.2.2.2 pc = some .lcmp) (hi2 : m.2.2.2.2.2.2 (pc + 1) = some (.ifCond .lt off)) (ht : ix_tg (pc + 1) off = some t) (hx : -9223372036854775808 ≤ x ∧ x ≤ 9223372036854775807) (hy : -9223372036854775808 ≤ y ∧ y ≤ 9223372036854775807) (k1 : x < y → jr A D m t ls st M Q) (k2 : ¬ (x < y) → jr A D m (pc + 4) ls st M Q) : jr A D m pc ls (.long (Int64.ofInt y) :: .long (Int64.ofInt x) :: st) M Q := by
  refine jr.lcmp hi ?_
  have hr := jl_cmp_r hx hy
  exact jr.if_lt hi2 ht (by omega) (fun h => k1 (by omega)) (fun h => k2 (by omega))
end JI
end
