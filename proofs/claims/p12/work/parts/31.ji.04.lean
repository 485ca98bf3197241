section
section JI
variable {A : Nat → Option (Nat × (Nat → Int32))} {D : Nat} {m : ix_M} {pc : Nat} {ls ls' : ix_L} {st : List Value} {M : jm} {Q : Option Value → jm → Prop}
theorem jr.l2i {x : Int} (hi : m.2.2.2.2.2.2 pc = some .l2i) (k : jr A D m (pc + 1) ls (.int (Int32.ofInt x) :: st) M Q) : jr A D m pc ls (.long (Int64.ofInt x) :: st) M Q := jr_sem hi (fun f => fxk_l2i (by rw [← Int64.toInt32_ofInt]; rfl)) k
theorem jr.lcmp {x y : Int} (hi : m.2.2.2.2.2.2 pc = some .lcmp) (k : jr A D m (pc + 1) ls (.int (Int32.ofInt (jl_cmp x y)) :: st) M Q) : jr A D m pc ls (.long (Int64.ofInt y) :: .long (Int64.ofInt x) :: st) M Q := jr_sem hi (fun f => fxk_lcmp (by unfold jl_cmp; rw [Int32.ofInt_toInt]; rfl)) k
theorem jl_cmp_lt {x y : Int} (hx : -9223372036854775808 ≤ x ∧ x ≤ 9223372036854775807) (hy : -9223372036854775808 ≤ y ∧ y ≤ 9223372036854775807) : jl_cmp x y = if y < x then 1 else if x = y then 0 else -1 := by
  unfold jl_cmp lg_cmp
  have e1 : (Int64.ofInt x).toInt = x := Int64.toInt_ofInt_of_le (by omega) (by omega)
  have e2 : (Int64.ofInt y).toInt = y := Int64.toInt_ofInt_of_le (by omega) (by omega)
  simp only [gt_iff_lt, Int64.lt_iff_toInt_lt, ← Int64.toInt_inj, e1, e2]
  split
  · rfl
  · split <;> rfl
theorem jr.i2b {x : Int} (hi : m.2.2.2.2.2.2 pc = some .i2b) (k : jr A D m (pc + 1) ls (.int (Int32.ofInt (j_b x)) :: st) M Q) : jr A D m pc ls (.int (Int32.ofInt x) :: st) M Q := jr_sem hi (fun f => fxk_i2b (by unfold j_b; rw [Int32.ofInt_toInt]; rfl)) k
theorem jr.i2s {x : Int} (hi : m.2.2.2.2.2.2 pc = some .i2s) (k : jr A D m (pc + 1) ls (.int (Int32.ofInt (j_s x)) :: st) M Q) : jr A D m pc ls (.int (Int32.ofInt x) :: st) M Q := jr_sem hi (fun f => fxk_i2s (by unfold j_s; rw [Int32.ofInt_toInt]; rfl)) k
theorem jr.i2c {x : Int} (hi : m.2.2.2.2.2.2 pc = some .i2c) (k : jr A D m (pc + 1) ls (.int (Int32.ofInt (j_c x)) :: st) M Q) : jr A D m pc ls (.int (Int32.ofInt x) :: st) M Q := jr_sem hi (fun f => fxk_i2c (by unfold j_c; rw [Int32.ofInt_toInt]; rfl)) k
theorem jr.goto {t : Nat} {off : Int} (hi : m.2.2.2.2.2.2 pc = some (.goto off)) (ht : ix_tg pc off = some t) (k : jr A D m t ls st M Q) : jr A D m pc ls st M Q := jr_sem hi (fun f => fxk_goto (by unfold fx_goto; rw [ht])) k
theorem jr.pop {v : Value} (hi : m.2.2.2.2.2.2 pc = some .pop) (hv : v.category = 1) (k : jr A D m (pc + 1) ls st M Q) : jr A D m pc ls (v :: st) M Q := jr_sem hi (fun f => fxk_pop (by unfold fx_pop; simp only [if_pos hv])) k
theorem jr.dup {v : Value} (hi : m.2.2.2.2.2.2 pc = some .dup) (hv : v.category = 1) (k : jr A D m (pc + 1) ls (v :: v :: st) M Q) : jr A D m pc ls (v :: st) M Q := jr_sem hi (fun f => fxk_dup (by unfold fx_dup; simp only [if_pos hv])) k
theorem jr.dup2 {v w : Value} (hi : m.2.2.2.2.2.2 pc = some .dup2) (hv : v.category = 1 ∧ w.category = 1) (k : jr A D m (pc + 1) ls (v :: w :: v :: w :: st) M Q) : jr A D m pc ls (v :: w :: st) M Q := jr_sem hi (fun f => fxk_dup2 (by unfold fx_dup2; simp only [if_pos hv])) k
theorem j_cb {x y : Int} (hx : -2147483648 ≤ x ∧ x ≤ 2147483647) (hy : -2147483648 ≤ y ∧ y ≤ 2147483647) : (Int32.ofInt x = Int32.ofInt y ↔ x = y) ∧ (Int32.ofInt x < Int32.ofInt y ↔ x < y) ∧ (Int32.ofInt x ≤ Int32.ofInt y ↔ x ≤ y) := by
  have e1 : (Int32.ofInt x).toInt = x := Int32.toInt_ofInt_of_le (by omega) (by omega)
  have e2 : (Int32.ofInt y).toInt = y := Int32.toInt_ofInt_of_le (by omega) (by omega)
  refine ⟨?_, ?_, ?_⟩
  · rw [← Int32.toInt_inj, e1, e2]
  · rw [Int32.lt_iff_toInt_lt, e1, e2]
  · rw [Int32.le_iff_toInt_le, e1, e2]
theorem j_cb_eq {x y : Int} (hx : -2147483648 ≤ x ∧ x ≤ 2147483647) (hy : -2147483648 ≤ y ∧ y ≤ 2147483647) : ix_cb .eq (Int32.ofInt x) (Int32.ofInt y) = decide (x = y) := by
  unfold ix_cb
  exact decide_eq_decide.mpr (j_cb hx hy).1
end JI
end
