section
section JI
variable {A : Nat → Option (Nat × (Nat → Int32))} {D : Nat} {m : ix_M} {pc : Nat} {ls ls' : ix_L} {st : List Value} {M : jm} {Q : Option Value → jm → Prop}
theorem jr.icmp_ge {t : Nat} {off x y : Int} (hi : m.2.2.2.2.2.2 pc = some (.if_icmp .ge off)) (ht : ix_tg pc off = some t) (hx : -2147483648 ≤ x ∧ x ≤ 2147483647) (hy : -2147483648 ≤ y ∧ y ≤ 2147483647) (k1 : y ≤ x → jr A D m t ls st M Q) (k2 : ¬ (y ≤ x) → jr A D m (pc + 3) ls st M Q) : jr A D m pc ls (.int (Int32.ofInt y) :: .int (Int32.ofInt x) :: st) M Q := by
  by_cases h : y ≤ x
  · exact jr_sem hi (fun f => fxk_icmp (by unfold fx_icmp; simp only [ht, j_cb_ge hx hy, decide_eq_true h, cond_true])) (k1 h)
  · exact jr_sem hi (fun f => fxk_icmp (by unfold fx_icmp; simp only [ht, j_cb_ge hx hy, decide_eq_false h, cond_false])) (k2 h)
theorem jr.if_ge {t : Nat} {off x : Int} (hi : m.2.2.2.2.2.2 pc = some (.ifCond .ge off)) (ht : ix_tg pc off = some t) (hx : -2147483648 ≤ x ∧ x ≤ 2147483647) (k1 : 0 ≤ x → jr A D m t ls st M Q) (k2 : ¬ (0 ≤ x) → jr A D m (pc + 3) ls st M Q) : jr A D m pc ls (.int (Int32.ofInt x) :: st) M Q := by
  have hy : (-2147483648 : Int) ≤ 0 ∧ (0 : Int) ≤ 2147483647 := by omega
  have e : ix_cb .ge (Int32.ofInt x) 0 = decide (0 ≤ x) := j_cb_ge hx hy
  by_cases h : 0 ≤ x
  · exact jr_sem hi (fun f => fxk_if (by unfold fx_if; simp only [ht, e, decide_eq_true h, cond_true])) (k1 h)
  · exact jr_sem hi (fun f => fxk_if (by unfold fx_if; simp only [ht, e, decide_eq_false h, cond_false])) (k2 h)
theorem j_cb_gt {x y : Int} (hx : -2147483648 ≤ x ∧ x ≤ 2147483647) (hy : -2147483648 ≤ y ∧ y ≤ 2147483647) : ix_cb .gt (Int32.ofInt x) (Int32.ofInt y) = decide (y < x) := by
  unfold ix_cb
  exact decide_eq_decide.mpr (j_cb hy hx).2.1
theorem jr.icmp_gt {t : Nat} {off x y : Int} (hi : m.2.2.2.2.2.2 pc = some (.if_icmp .gt off)) (ht : ix_tg pc off = some t) (hx : -2147483648 ≤ x ∧ x ≤ 2147483647) (hy : -2147483648 ≤ y ∧ y ≤ 2147483647) (k1 : y < x → jr A D m t ls st M Q) (k2 : ¬ (y < x) → jr A D m (pc + 3) ls st M Q) : jr A D m pc ls (.int (Int32.ofInt y) :: .int (Int32.ofInt x) :: st) M Q := by
  by_cases h : y < x
  · exact jr_sem hi (fun f => fxk_icmp (by unfold fx_icmp; simp only [ht, j_cb_gt hx hy, decide_eq_true h, cond_true])) (k1 h)
  · exact jr_sem hi (fun f => fxk_icmp (by unfold fx_icmp; simp only [ht, j_cb_gt hx hy, decide_eq_false h, cond_false])) (k2 h)
theorem jr.if_gt {t : Nat} {off x : Int} (hi : m.2.2.2.2.2.2 pc = some (.ifCond .gt off)) (ht : ix_tg pc off = some t) (hx : -2147483648 ≤ x ∧ x ≤ 2147483647) (k1 : 0 < x → jr A D m t ls st M Q) (k2 : ¬ (0 < x) → jr A D m (pc + 3) ls st M Q) : jr A D m pc ls (.int (Int32.ofInt x) :: st) M Q := by
  have hy : (-2147483648 : Int) ≤ 0 ∧ (0 : Int) ≤ 2147483647 := by omega
  have e : ix_cb .gt (Int32.ofInt x) 0 = decide (0 < x) := j_cb_gt hx hy
  by_cases h : 0 < x
  · exact jr_sem hi (fun f => fxk_if (by unfold fx_if; simp only [ht, e, decide_eq_true h, cond_true])) (k1 h)
  · exact jr_sem hi (fun f => fxk_if (by unfold fx_if; simp only [ht, e, decide_eq_false h, cond_false])) (k2 h)
theorem j_cb_le {x y : Int} (hx : -2147483648 ≤ x ∧ x ≤ 2147483647) (hy : -2147483648 ≤ y ∧ y ≤ 2147483647) : ix_cb .le (Int32.ofInt x) (Int32.ofInt y) = decide (x ≤ y) := by
  unfold ix_cb
  exact decide_eq_decide.mpr (j_cb hx hy).2.2
theorem jr.icmp_le {t : Nat} {off x y : Int} (hi : m.2.2.2.2.2.2 pc = some (.if_icmp .le off)) (ht : ix_tg pc off = some t) (hx : -2147483648 ≤ x ∧ x ≤ 2147483647) (hy : -2147483648 ≤ y ∧ y ≤ 2147483647) (k1 : x ≤ y → jr A D m t ls st M Q) (k2 : ¬ (x ≤ y) → jr A D m (pc + 3) ls st M Q) : jr A D m pc ls (.int (Int32.ofInt y) :: .int (Int32.ofInt x) :: st) M Q := by
  by_cases h : x ≤ y
  · exact jr_sem hi (fun f => fxk_icmp (by unfold fx_icmp; simp only [ht, j_cb_le hx hy, decide_eq_true h, cond_true])) (k1 h)
  · exact jr_sem hi (fun f => fxk_icmp (by unfold fx_icmp; simp only [ht, j_cb_le hx hy, decide_eq_false h, cond_false])) (k2 h)
theorem jr.if_le {t : Nat} {off x : Int} (hi : m.2.2.2.2.2.2 pc = some (.ifCond .le off)) (ht : ix_tg pc off = some t) (hx : -2147483648 ≤ x ∧ x ≤ 2147483647) (k1 : x ≤ 0 → jr A D m t ls st M Q) (k2 : ¬ (x ≤ 0) → jr A D m (pc + 3) ls st M Q) : jr A D m pc ls (.int (Int32.ofInt x) :: st) M Q := by
  have hy : (-2147483648 : Int) ≤ 0 ∧ (0 : Int) ≤ 2147483647 := by omega
  have e : ix_cb .le (Int32.ofInt x) 0 = decide (x ≤ 0) := j_cb_le hx hy
  by_cases h : x ≤ 0
  · exact jr_sem hi (fun f => fxk_if (by unfold fx_if; simp only [ht, e, decide_eq_true h, cond_true])) (k1 h)
  · exact jr_sem hi (fun f => fxk_if (by unfold fx_if; simp only [ht, e, decide_eq_false h, cond_false])) (k2 h)
theorem jl_cmp_r {x y : Int} (hx : -9223372036854775808 ≤ x ∧ x ≤ 9223372036854775807) (hy : -9223372036854775808 ≤ y ∧ y ≤ 9223372036854775807) : (jl_cmp x y = 1 ∧ y < x) ∨ (jl_cmp x y = 0 ∧ x = y) ∨ (jl_cmp x y = -1 ∧ x < y) := by
  rw [jl_cmp_lt hx hy]
  by_cases h1 : y < x
  · rw [if_pos h1]; omega
  · rw [if_neg h1]
    by_cases h2 : x = y
    · rw [if_pos h2]; omega
    · rw [if_neg h2]; omega
theorem jr.lcmp_eq {t : Nat} {off x y : Int} (hi : m.2.2.2.2.2.2 pc = some .lcmp) (hi2 : m.2.2.2.2.2.2 (pc + 1) = some (.ifCond .eq off)) (ht : ix_tg (pc + 1) off = some t) (hx : -9223372036854775808 ≤ x ∧ x ≤ 9223372036854775807) (hy : -9223372036854775808 ≤ y ∧ y ≤ 9223372036854775807) (k1 : x = y → jr A D m t ls st M Q) (k2 : ¬ (x = y) → jr A D m (pc + 4) ls st M Q) : jr A D m pc ls (.long (Int64.ofInt y) :: .long (Int64.ofInt x) :: st) M Q := by
  refine jr.lcmp hi ?_
  have hr := jl_cmp_r hx hy
  exact jr.if_eq hi2 ht (by omega) (fun h => k1 (by omega)) (fun h => k2 (by omega))
theorem jr.lcmp_ne {t : Nat} {off x y : Int} (hi : m.2.2.2.2.2.2 pc = some .lcmp) (hi2 : m.2.2.2.2.2.2 (pc + 1) = some (.ifCond .ne off)) (ht : ix_tg (pc + 1) off = some t) (hx : -9223372036854775808 ≤ x ∧ x ≤ 9223372036854775807) (hy : -9223372036854775808 ≤ y ∧ y ≤ 9223372036854775807) (k1 : ¬ x = y → jr A D m t ls st M Q) (k2 : ¬ (¬ x = y) → jr A D m (pc + 4) ls st M Q) : jr A D m pc ls (.long (Int64.ofInt y) :: .long (Int64.ofInt x) :: st) M Q := by
  refine jr.lcmp hi ?_
  have hr := jl_cmp_r hx hy
  exact jr.if_ne hi2 ht (by omega) (fun h => k1 (by omega)) (fun h => k2 (by omega))
theorem jr.lcmp_lt {t : Nat} {off x y : Int} (hi : m.2.2.2.2.2.2 pc = some .lcmp) (hi2 : m.2.2.2.2.2.2 (pc + 1) = some (.ifCond .lt off)) (ht : ix_tg (pc + 1) off = some t) (hx : -9223372036854775808 ≤ x ∧ x ≤ 9223372036854775807) (hy : -9223372036854775808 ≤ y ∧ y ≤ 9223372036854775807) (k1 : x < y → jr A D m t ls st M Q) (k2 : ¬ (x < y) → jr A D m (pc + 4) ls st M Q) : jr A D m pc ls (.long (Int64.ofInt y) :: .long (Int64.ofInt x) :: st) M Q := by
  refine jr.lcmp hi ?_
  have hr := jl_cmp_r hx hy
  exact jr.if_lt hi2 ht (by omega) (fun h => k1 (by omega)) (fun h => k2 (by omega))
theorem jr.lcmp_ge {t : Nat} {off x y : Int} (hi : m.2.2.2.2.2.2 pc = some .lcmp) (hi2 : m.2.2.2.2.2.2 (pc + 1) = some (.ifCond .ge off)) (ht : ix_tg (pc + 1) off = some t) (hx : -9223372036854775808 ≤ x ∧ x ≤ 9223372036854775807) (hy : -9223372036854775808 ≤ y ∧ y ≤ 9223372036854775807) (k1 : y ≤ x → jr A D m t ls st M Q) (k2 : ¬ (y ≤ x) → jr A D m (pc + 4) ls st M Q) : jr A D m pc ls (.long (Int64.ofInt y) :: .long (Int64.ofInt x) :: st) M Q := by
  refine jr.lcmp hi ?_
  have hr := jl_cmp_r hx hy
  exact jr.if_ge hi2 ht (by omega) (fun h => k1 (by omega)) (fun h => k2 (by omega))
theorem jr.lcmp_gt {t : Nat} {off x y : Int} (hi : m.2.2.2.2.2.2 pc = some .lcmp) (hi2 : m.2.2.2.2.2.2 (pc + 1) = some (.ifCond .gt off)) (ht : ix_tg (pc + 1) off = some t) (hx : -9223372036854775808 ≤ x ∧ x ≤ 9223372036854775807) (hy : -9223372036854775808 ≤ y ∧ y ≤ 9223372036854775807) (k1 : y < x → jr A D m t ls st M Q) (k2 : ¬ (y < x) → jr A D m (pc + 4) ls st M Q) : jr A D m pc ls (.long (Int64.ofInt y) :: .long (Int64.ofInt x) :: st) M Q := by
  refine jr.lcmp hi ?_
  have hr := jl_cmp_r hx hy
  exact jr.if_gt hi2 ht (by omega) (fun h => k1 (by omega)) (fun h => k2 (by omega))
theorem jr.lcmp_le {t : Nat} {off x y : Int} (hi : m.2.2.2.2.2.2 pc = some .lcmp) (hi2 : m.2.2.2.2.2.2 (pc + 1) = some (.ifCond .le off)) (ht : ix_tg (pc + 1) off = some t) (hx : -9223372036854775808 ≤ x ∧ x ≤ 9223372036854775807) (hy : -9223372036854775808 ≤ y ∧ y ≤ 9223372036854775807) (k1 : x ≤ y → jr A D m t ls st M Q) (k2 : ¬ (x ≤ y) → jr A D m (pc + 4) ls st M Q) : jr A D m pc ls (.long (Int64.ofInt y) :: .long (Int64.ofInt x) :: st) M Q := by
  refine jr.lcmp hi ?_
  have hr := jl_cmp_r hx hy
  exact jr.if_le hi2 ht (by omega) (fun h => k1 (by omega)) (fun h => k2 (by omega))
theorem jr.getf {idx a c n j : Nat} {i x : Int} {ty : FieldType} {v : Value} (hi : m.2.2.2.2.2.2 pc = some (.getfield idx)) (hf : ix_tF (xT A) m.1 idx = some (c, j)) (ha : a < xNc) (hs : xsh a = (100 + c, n)) (hj : j < n) (hij : ((j : Nat) : Int) = i) (hty : ((xT_D c).2 j).1 = ty) (hx : M a i = x) (hv : jval a j ty x = v) (k : jr A D m (pc + 3) ls (v :: st) M Q) : jr A D m pc ls (.ref a :: st) M Q := jr_sem hi (fun f => fxk_getfield (by
  unfold fx_getfield
  simp only [hf, jobj ha hs, if_true, List.getElem?_map, List.getElem?_range hj, Option.map_some, hij, hx, hty, hv])) k
theorem jr.putf {idx a c n j : Nat} {i x : Int} {ty : FieldType} {v : Value} (hi : m.2.2.2.2.2.2 pc = some (.putfield idx)) (hf : ix_tF (xT A) m.1 idx = some (c, j)) (ha : a < xNc) (hs : xsh a = (100 + c, n)) (hj : j < n) (hij : ((j : Nat) : Int) = i) (hty : ((xT_D c).2 j) = (ty, false)) (hv : jval a j ty x = v) (hn : narrow ty v = v) (hfi : fits ty v = true) (k : jr A D m (pc + 3) ls st (ju M a i x) Q) : jr A D m pc ls (v :: .ref a :: st) M Q := jr_sem hi (fun f => fxk_putfield (by
  unfold fx_putfield
  have e1 : (ix_tD (xT A) c).2 j = (ty, false) := hty
  simp only [hf, jobj ha hs, e1]
  rw [if_pos ⟨trivial, by simp [hj], hn, hfi, Or.inl trivial⟩]
  rw [jH_put M a i x _ (by
    rw [hs, ju_row]
    have h9 := jcell_obj a c n (fun k => if k = i then x else M a k)
    rw [h9]
    congr 2
    apply List.ext_getElem?
    intro q
    by_cases hq : q = j
    · subst hq
      rw [List.getElem?_set_self (by simp [hj]), List.getElem?_map, List.getElem?_range hj]
      simp only [Option.map_some, hij, if_true, hty, hv]
    · rw [List.getElem?_set_ne (fun z => hq z.symm), List.getElem?_map, List.getElem?_map]
      by_cases hqn : q < n
      · rw [List.getElem?_range hqn]
        simp only [Option.map_some]
        rw [if_neg (by omega)]
      · rw [List.getElem?_eq_none (by simp; omega)]
        rfl)])) k
theorem jr.iald {a n : Nat} {i x : Int} (hi : m.2.2.2.2.2.2 pc = some .iaload) (ha : a < xNc) (hs : xsh a = (0, n)) (hn : n ≤ 2000000) (h0 : 0 ≤ i) (h1 : i < (n : Nat)) (hx : M a i = x) (k : jr A D m (pc + 1) ls (.int (Int32.ofInt x) :: st) M Q) : jr A D m pc ls (.int (Int32.ofInt i) :: .ref a :: st) M Q := jr_sem hi (fun f => fxk_iaload (by
  unfold fx_iaload
  obtain ⟨q1, q2⟩ := jin h0 h1 hn
  simp only [jarr0 ha hs]
  rw [if_neg q1, q2, Int.toNat_of_nonneg h0, hx])) k
theorem jr.lald {a n : Nat} {i x : Int} (hi : m.2.2.2.2.2.2 pc = some .laload) (ha : a < xNc) (hs : xsh a = (1, n)) (hn : n ≤ 2000000) (h0 : 0 ≤ i) (h1 : i < (n : Nat)) (hx : M a i = x) (k : jr A D m (pc + 1) ls (.long (Int64.ofInt x) :: st) M Q) : jr A D m pc ls (.int (Int32.ofInt i) :: .ref a :: st) M Q := jr_sem hi (fun f => fxk_laload (by
  unfold fx_laload
  obtain ⟨q1, q2⟩ := jin h0 h1 hn
  simp only [jarr1 ha hs]
  rw [if_neg q1, q2, Int.toNat_of_nonneg h0, hx])) k
theorem jr.zald {a n : Nat} {i x : Int} (hi : m.2.2.2.2.2.2 pc = some .baload) (ha : a < xNc) (hs : xsh a = (2, n)) (hn : n ≤ 2000000) (h0 : 0 ≤ i) (h1 : i < (n : Nat)) (hx : M a i = x) (k : jr A D m (pc + 1) ls (.int (Int32.ofInt x) :: st) M Q) : jr A D m pc ls (.int (Int32.ofInt i) :: .ref a :: st) M Q := jr_sem hi (fun f => fxk_baload (by
  unfold fx_baload
  obtain ⟨q1, q2⟩ := jin h0 h1 hn
  simp only [jarr2 ha hs]
  rw [if_neg q1, q2, Int.toNat_of_nonneg h0, hx])) k
end JI
end
