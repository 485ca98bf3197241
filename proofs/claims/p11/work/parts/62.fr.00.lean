section
/-! ===== the reference: exact effects on tape and packets ===== -/
theorem bt_rg {n k j : Int} (h : k = 0 ∨ k = 8 ∨ k = 16 ∨ k = 24) (hj : k / 8 = j) : j_and (j_ushr n k) 255 = bt n j ∧ 0 ≤ j_and (j_ushr n k) 255 ∧ j_and (j_ushr n k) 255 ≤ 255 := by
  subst hj
  rw [bt_rf h]
  exact ⟨rfl, bt_r _ _⟩
theorem t4_4 {f : Int → Int} {S v : Int} (g : Int → Int) (h0 : g S = bt v 3) (h1 : g (S + 1) = bt v 2) (h2 : g (S + 2) = bt v 1) (h3 : g (S + 3) = bt v 0) (ho : ∀ k : Int, ¬ (S ≤ k ∧ k < S + 4) → g k = f k) : g = t4 f S v := by
  funext k
  unfold t4
  by_cases q : S ≤ k ∧ k < S + 4
  · rw [if_pos q]
    rcases (show k = S ∨ k = S + 1 ∨ k = S + 2 ∨ k = S + 3 by omega) with rfl | rfl | rfl | rfl
    · rw [h0, show k + 3 - k = 3 by omega]
    · rw [h1, show S + 3 - (S + 1) = 2 by omega]
    · rw [h2, show S + 3 - (S + 2) = 1 by omega]
    · rw [h3, show S + 3 - (S + 3) = 0 by omega]
  · rw [if_neg q]
    exact ho k q
end
