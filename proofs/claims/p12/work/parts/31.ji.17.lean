section
theorem lst_j {k : Int} (h : 0 ≤ k ∧ k ≤ 11) : (k = 11 ∧ lst k = 0) ∨ (k ≤ 10 ∧ 4 ≤ lst k) := by
  rcases (show k = 0 ∨ k = 1 ∨ k = 2 ∨ k = 3 ∨ k = 4 ∨ k = 5 ∨ k = 6 ∨ k = 7 ∨ k = 8 ∨ k = 9 ∨ k = 10 ∨ k = 11 by omega) with h | h | h | h | h | h | h | h | h | h | h | h
  all_goals subst h
  all_goals first | exact Or.inr ⟨by decide, by decide⟩ | exact Or.inl ⟨rfl, rfl⟩
noncomputable def RH (M : jm) : Prop := ∀ h : Int, M 604 h + lst (M 603 h) ≤ 400 ∧ M 604 h + M 605 h ≤ 400 ∧ M 604 h ≤ 399
theorem RH.o {M : jm} (h : RH M) {a : Nat} {i v : Int} (h3 : 603 ≠ a) (h4 : 604 ≠ a) (h5 : 605 ≠ a) : RH (ju M a i v) := by
  intro j
  rw [ju_c M v h3, ju_c M v h4, ju_c M v h5]
  exact h j
theorem RH.w {M : jm} (h : RH M) {j k a s : Int} (h1 : a + lst k ≤ 400) (h2 : a + s ≤ 400) (h3 : a ≤ 399) : RH (ju (ju (ju M 603 j k) 604 j a) 605 j s) := by
  intro i
  by_cases hi : i = j
  · subst hi
    rw [ju_c _ _ (by decide : (604 : Nat) ≠ 605), ju_same, ju_c _ _ (by decide : (603 : Nat) ≠ 605), ju_c _ _ (by decide : (603 : Nat) ≠ 604), ju_same, ju_same]
    exact ⟨h1, h2, h3⟩
  · rw [ju_c _ _ (by decide : (604 : Nat) ≠ 605), ju_i _ _ hi, ju_c _ _ (by decide : (604 : Nat) ≠ 603), ju_c _ _ (by decide : (603 : Nat) ≠ 605), ju_c _ _ (by decide : (603 : Nat) ≠ 604), ju_i _ _ hi, ju_i _ _ hi, ju_c _ _ (by decide : (605 : Nat) ≠ 604), ju_c _ _ (by decide : (605 : Nat) ≠ 603)]
    exact h i
theorem j_rem_ex {x y : Int} (hx : 0 ≤ x ∧ x ≤ 2147483647) (hy : 0 < y ∧ y ≤ 2147483647) : j_rem x y = x % y := by
  have e1 : (Int32.ofInt x).toInt = x := Int32.toInt_ofInt_of_le (by omega) (by omega)
  have e2 : (Int32.ofInt y).toInt = y := Int32.toInt_ofInt_of_le (by omega) (by omega)
  have hd : Int32.ofInt x / Int32.ofInt y = Int32.ofInt (x.tdiv y) := (Int32.ofInt_tdiv (by show (-2147483648 : Int) ≤ x; omega) (by show x ≤ (2147483647 : Int); omega) (by show (-2147483648 : Int) ≤ y; omega) (by show y ≤ (2147483647 : Int); omega)).symm
  unfold j_rem
  rw [hd, ← Int32.ofInt_mul, ← Int32.ofInt_sub]
  have e3 : x - x.tdiv y * y = x % y := by
    rw [Int.tdiv_eq_ediv_of_nonneg hx.1, Int.mul_comm]
    have := Int.emod_def x y
    omega
  rw [e3]
  have h1 := Int.emod_nonneg x (show y ≠ 0 by omega)
  have h2 := Int.emod_lt_of_pos x hy.1
  exact Int32.toInt_ofInt_of_le (by omega) (by omega)
theorem j_div_ex {x y : Int} (hx : 0 ≤ x ∧ x ≤ 2147483647) (hy : 0 < y ∧ y ≤ 2147483647) : j_div x y = x / y := by
  have hd : Int32.ofInt x / Int32.ofInt y = Int32.ofInt (x.tdiv y) := (Int32.ofInt_tdiv (by show (-2147483648 : Int) ≤ x; omega) (by show x ≤ (2147483647 : Int); omega) (by show (-2147483648 : Int) ≤ y; omega) (by show y ≤ (2147483647 : Int); omega)).symm
  unfold j_div
  rw [hd, Int.tdiv_eq_ediv_of_nonneg hx.1]
  have h1 : 0 ≤ x / y := Int.ediv_nonneg hx.1 (by omega)
  have h2 : x / y ≤ x := Int.ediv_le_self y hx.1
  exact Int32.toInt_ofInt_of_le (by omega) (by omega)
noncomputable def fldn (k : Int) : Int := if k = 2 then 11 else if k = 3 then 7 else if k = 8 then 8 else if k = 4 ∨ k = 10 then 2 else if k = 11 then 1 else if k = 0 ∨ k = 1 ∨ k = 5 then 3 else 4
theorem fldn_k (k : Int) : (k = 0 → fldn k = 3) ∧ (k = 1 → fldn k = 3) ∧ (k = 2 → fldn k = 11) ∧ (k = 3 → fldn k = 7) ∧ (k = 4 → fldn k = 2) ∧ (k = 5 → fldn k = 3) ∧ (k = 6 → fldn k = 4) ∧ (k = 7 → fldn k = 4) ∧ (k = 8 → fldn k = 8) ∧ (k = 9 → fldn k = 4) ∧ (k = 10 → fldn k = 2) ∧ (k = 11 → fldn k = 1) := by
  refine ⟨?_, ?_, ?_, ?_, ?_, ?_, ?_, ?_, ?_, ?_, ?_, ?_⟩ <;> intro h <;> unfold fldn <;> (repeat' split) <;> omega
theorem fldn_le (k : Int) : 1 ≤ fldn k ∧ fldn k ≤ 11 := by unfold fldn; (repeat' split) <;> omega
theorem RH.two {M : jm} (h : RH M) (t : Int) : (M 603 t = 2 → M 604 t ≤ 380) ∧ (M 603 t = 3 → M 604 t ≤ 376) := by
  have h1 := (h t).1
  refine ⟨fun e => ?_, fun e => ?_⟩ <;> rw [e] at h1
  · have : lst 2 = 20 := by decide
    omega
  · have : lst 3 = 24 := by decide
    omega
end
