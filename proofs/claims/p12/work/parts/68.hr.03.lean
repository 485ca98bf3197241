theorem AG.z {M : jm} {k r : Int} (h : ((M 598 6 = 12 ∧ r = 6) ∨ (M 598 6 ≠ 12 ∧ ((k = 4 ∧ bkf (M 603) (M 598 6) ≠ 3) ∨ ((k = 6 ∨ k = 5) ∧ bkf (M 603) (M 598 6) ≠ 3 ∧ bkf (M 603) (M 598 6) ≠ 4 ∧ bkf (M 603) (M 598 6) ≠ 5)) ∧ r = 3) ∨ (M 598 6 ≠ 12 ∧ ¬ ((k = 4 ∧ bkf (M 603) (M 598 6) ≠ 3) ∨ ((k = 6 ∨ k = 5) ∧ bkf (M 603) (M 598 6) ≠ 3 ∧ bkf (M 603) (M 598 6) ≠ 4 ∧ bkf (M 603) (M 598 6) ≠ 5)) ∧ r = 0))) (hr : r = 0) : M 598 6 ≠ 12 ∧ ¬ ((k = 4 ∧ bkf (M 603) (M 598 6) ≠ 3) ∨ ((k = 6 ∨ k = 5) ∧ bkf (M 603) (M 598 6) ≠ 3 ∧ bkf (M 603) (M 598 6) ≠ 4 ∧ bkf (M 603) (M 598 6) ≠ 5)) := by
  rcases h with h | h | h
  · exact absurd h.2 (by omega)
  · exact absurd h.2.2 (by omega)
  · exact ⟨h.1, h.2.1⟩
theorem AG.n {M : jm} {k r : Int} (h : ((M 598 6 = 12 ∧ r = 6) ∨ (M 598 6 ≠ 12 ∧ ((k = 4 ∧ bkf (M 603) (M 598 6) ≠ 3) ∨ ((k = 6 ∨ k = 5) ∧ bkf (M 603) (M 598 6) ≠ 3 ∧ bkf (M 603) (M 598 6) ≠ 4 ∧ bkf (M 603) (M 598 6) ≠ 5)) ∧ r = 3) ∨ (M 598 6 ≠ 12 ∧ ¬ ((k = 4 ∧ bkf (M 603) (M 598 6) ≠ 3) ∨ ((k = 6 ∨ k = 5) ∧ bkf (M 603) (M 598 6) ≠ 3 ∧ bkf (M 603) (M 598 6) ≠ 4 ∧ bkf (M 603) (M 598 6) ≠ 5)) ∧ r = 0))) (hr : r ≠ 0) : (M 598 6 = 12 ∧ r = 6) ∨ (M 598 6 ≠ 12 ∧ ((k = 4 ∧ bkf (M 603) (M 598 6) ≠ 3) ∨ ((k = 6 ∨ k = 5) ∧ bkf (M 603) (M 598 6) ≠ 3 ∧ bkf (M 603) (M 598 6) ≠ 4 ∧ bkf (M 603) (M 598 6) ≠ 5)) ∧ r = 3) := by
  rcases h with h | h | h
  · exact Or.inl h
  · exact Or.inr h
  · exact absurd h.2.2 hr
