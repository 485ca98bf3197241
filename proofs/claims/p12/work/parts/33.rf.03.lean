section
theorem RW.add {M : jm} {n k : Int} (h : RW M n k) (h1 : 48 * k + 48 ≤ n ∧ k ≤ 23 ∧ (M 599 (48 * k) = 6 → 1 ≤ M 599 (48 * k + 1) % 16 ∧ M 599 (48 * k + 1) % 16 ≤ 10)) : RW M n (k + 1) := by
  intro o h0 h2
  by_cases e : o = k
  · subst e
    exact h1
  · exact h o h0 (by omega)
theorem RW.fr {M M' : jm} {n k : Int} (h : RW M n k) (e : ∀ i, M' 599 i = M 599 i) : RW M' n k := by
  intro o h0 h1
  rw [e, e]
  exact h o h0 h1
theorem RW.le {M : jm} {n k : Int} (h : RW M n k) : k ≤ 24 := by
  by_cases e : k ≤ 0
  · omega
  · have := (h (k - 1) (by omega) (by omega)).2.1
    omega
theorem RW.w {M : jm} {n k w : Int} (h : RW M n k) (e : w ≤ k) : RW M n w := fun o h0 h1 => h o h0 (by omega)
theorem j_nz {x : Int} (h : x ≠ 0 ∧ -2147483648 ≤ x ∧ x ≤ 2147483647) : ¬ Int32.ofInt x = 0 := by
  intro e
  have q := congrArg Int32.toInt e
  rw [Int32.toInt_ofInt_of_le (by omega) (by omega)] at q
  have h0 : (0 : Int32).toInt = 0 := rfl
  omega
theorem jl_nz {x : Int} (h : x ≠ 0 ∧ -9223372036854775808 ≤ x ∧ x ≤ 9223372036854775807) : ¬ Int64.ofInt x = 0 := by
  intro e
  have q := congrArg Int64.toInt e
  rw [Int64.toInt_ofInt_of_le (by omega) (by omega)] at q
  have h0 : (0 : Int64).toInt = 0 := rfl
  omega
end

