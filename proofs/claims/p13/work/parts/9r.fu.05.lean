section
theorem lyx0 {f : Int → Int} {y n s p0 p1 w0 w1 a0 a1 l0 l1 u pk by_ : Int} : (ptn (ptn (ptn (ptn (ptn (ptn (ptn (ptn (ptn (ptn (ptn (ptn (ptn f y 1 n) (y + 1) 1 s) (y + 2) 2 p0) (y + 6) 2 w0) (y + 10) 8 a0) (y + 26) 4 l0) (y + 4) 2 p1) (y + 8) 2 w1) (y + 18) 8 a1) (y + 30) 4 l1) (y + 34) 4 u) (y + 38) 4 pk) (y + 42) 4 by_) = xrF f y (xrB n s p0 p1 w0 w1 a0 a1 l0 l1 u pk by_) := by
  funext z
  by_cases q : y ≤ z ∧ z < y + 46
  · have hR : xrF f y (xrB n s p0 p1 w0 w1 a0 a1 l0 l1 u pk by_) z = xrB n s p0 p1 w0 w1 a0 a1 l0 l1 u pk by_ (z - y) := if_pos q
    rw [hR]
    unfold xrB
    rcases (show (y + 0 ≤ z ∧ z < y + 1) ∨ (y + 1 ≤ z ∧ z < y + 2) ∨ (y + 2 ≤ z ∧ z < y + 4) ∨ (y + 4 ≤ z ∧ z < y + 6) ∨ (y + 6 ≤ z ∧ z < y + 8) ∨ (y + 8 ≤ z ∧ z < y + 10) ∨ (y + 10 ≤ z ∧ z < y + 18) ∨ (y + 18 ≤ z ∧ z < y + 26) ∨ (y + 26 ≤ z ∧ z < y + 30) ∨ (y + 30 ≤ z ∧ z < y + 34) ∨ (y + 34 ≤ z ∧ z < y + 38) ∨ (y + 38 ≤ z ∧ z < y + 42) ∨ (y + 42 ≤ z ∧ z < y + 46) by omega) with c | c | c | c | c | c | c | c | c | c | c | c | c
    · rw [if_pos (show z - y = 0 by omega)]
      rw [ptn_out (by omega), ptn_out (by omega), ptn_out (by omega), ptn_out (by omega), ptn_out (by omega), ptn_out (by omega), ptn_out (by omega), ptn_out (by omega), ptn_out (by omega), ptn_out (by omega), ptn_out (by omega), ptn_out (by omega), ptn_in (by omega)]
      rw [show y + 1 - 1 - z = 0 by omega]
      rfl
    · rw [if_neg (show ¬ z - y = 0 by omega), if_pos (show z - y = 1 by omega)]
      rw [ptn_out (by omega), ptn_out (by omega), ptn_out (by omega), ptn_out (by omega), ptn_out (by omega), ptn_out (by omega), ptn_out (by omega), ptn_out (by omega), ptn_out (by omega), ptn_out (by omega), ptn_out (by omega), ptn_in (by omega)]
      rw [show y + 1 + 1 - 1 - z = 0 by omega]
      rfl
    · rw [if_neg (show ¬ z - y = 0 by omega), if_neg (show ¬ z - y = 1 by omega), if_pos (show z - y < 4 by omega)]
      rw [ptn_out (by omega), ptn_out (by omega), ptn_out (by omega), ptn_out (by omega), ptn_out (by omega), ptn_out (by omega), ptn_out (by omega), ptn_out (by omega), ptn_out (by omega), ptn_out (by omega), ptn_in (by omega)]
      congr 1
      omega
    · rw [if_neg (show ¬ z - y = 0 by omega), if_neg (show ¬ z - y = 1 by omega), if_neg (show ¬ z - y < 4 by omega), if_pos (show z - y < 6 by omega)]
      rw [ptn_out (by omega), ptn_out (by omega), ptn_out (by omega), ptn_out (by omega), ptn_out (by omega), ptn_out (by omega), ptn_in (by omega)]
      congr 1
      omega
    · rw [if_neg (show ¬ z - y = 0 by omega), if_neg (show ¬ z - y = 1 by omega), if_neg (show ¬ z - y < 4 by omega), if_neg (show ¬ z - y < 6 by omega), if_pos (show z - y < 8 by omega)]
      rw [ptn_out (by omega), ptn_out (by omega), ptn_out (by omega), ptn_out (by omega), ptn_out (by omega), ptn_out (by omega), ptn_out (by omega), ptn_out (by omega), ptn_out (by omega), ptn_in (by omega)]
      congr 1
      omega
    · rw [if_neg (show ¬ z - y = 0 by omega), if_neg (show ¬ z - y = 1 by omega), if_neg (show ¬ z - y < 4 by omega), if_neg (show ¬ z - y < 6 by omega), if_neg (show ¬ z - y < 8 by omega), if_pos (show z - y < 10 by omega)]
      rw [ptn_out (by omega), ptn_out (by omega), ptn_out (by omega), ptn_out (by omega), ptn_out (by omega), ptn_in (by omega)]
      congr 1
      omega
    · rw [if_neg (show ¬ z - y = 0 by omega), if_neg (show ¬ z - y = 1 by omega), if_neg (show ¬ z - y < 4 by omega), if_neg (show ¬ z - y < 6 by omega), if_neg (show ¬ z - y < 8 by omega), if_neg (show ¬ z - y < 10 by omega), if_pos (show z - y < 18 by omega)]
      rw [ptn_out (by omega), ptn_out (by omega), ptn_out (by omega), ptn_out (by omega), ptn_out (by omega), ptn_out (by omega), ptn_out (by omega), ptn_out (by omega), ptn_in (by omega)]
      congr 1
      omega
    · rw [if_neg (show ¬ z - y = 0 by omega), if_neg (show ¬ z - y = 1 by omega), if_neg (show ¬ z - y < 4 by omega), if_neg (show ¬ z - y < 6 by omega), if_neg (show ¬ z - y < 8 by omega), if_neg (show ¬ z - y < 10 by omega), if_neg (show ¬ z - y < 18 by omega), if_pos (show z - y < 26 by omega)]
      rw [ptn_out (by omega), ptn_out (by omega), ptn_out (by omega), ptn_out (by omega), ptn_in (by omega)]
      congr 1
      omega
    · rw [if_neg (show ¬ z - y = 0 by omega), if_neg (show ¬ z - y = 1 by omega), if_neg (show ¬ z - y < 4 by omega), if_neg (show ¬ z - y < 6 by omega), if_neg (show ¬ z - y < 8 by omega), if_neg (show ¬ z - y < 10 by omega), if_neg (show ¬ z - y < 18 by omega), if_neg (show ¬ z - y < 26 by omega), if_pos (show z - y < 30 by omega)]
      rw [ptn_out (by omega), ptn_out (by omega), ptn_out (by omega), ptn_out (by omega), ptn_out (by omega), ptn_out (by omega), ptn_out (by omega), ptn_in (by omega)]
      congr 1
      omega
    · rw [if_neg (show ¬ z - y = 0 by omega), if_neg (show ¬ z - y = 1 by omega), if_neg (show ¬ z - y < 4 by omega), if_neg (show ¬ z - y < 6 by omega), if_neg (show ¬ z - y < 8 by omega), if_neg (show ¬ z - y < 10 by omega), if_neg (show ¬ z - y < 18 by omega), if_neg (show ¬ z - y < 26 by omega), if_neg (show ¬ z - y < 30 by omega), if_pos (show z - y < 34 by omega)]
      rw [ptn_out (by omega), ptn_out (by omega), ptn_out (by omega), ptn_in (by omega)]
      congr 1
      omega
    · rw [if_neg (show ¬ z - y = 0 by omega), if_neg (show ¬ z - y = 1 by omega), if_neg (show ¬ z - y < 4 by omega), if_neg (show ¬ z - y < 6 by omega), if_neg (show ¬ z - y < 8 by omega), if_neg (show ¬ z - y < 10 by omega), if_neg (show ¬ z - y < 18 by omega), if_neg (show ¬ z - y < 26 by omega), if_neg (show ¬ z - y < 30 by omega), if_neg (show ¬ z - y < 34 by omega), if_pos (show z - y < 38 by omega)]
      rw [ptn_out (by omega), ptn_out (by omega), ptn_in (by omega)]
      congr 1
      omega
    · rw [if_neg (show ¬ z - y = 0 by omega), if_neg (show ¬ z - y = 1 by omega), if_neg (show ¬ z - y < 4 by omega), if_neg (show ¬ z - y < 6 by omega), if_neg (show ¬ z - y < 8 by omega), if_neg (show ¬ z - y < 10 by omega), if_neg (show ¬ z - y < 18 by omega), if_neg (show ¬ z - y < 26 by omega), if_neg (show ¬ z - y < 30 by omega), if_neg (show ¬ z - y < 34 by omega), if_neg (show ¬ z - y < 38 by omega), if_pos (show z - y < 42 by omega)]
      rw [ptn_out (by omega), ptn_in (by omega)]
      congr 1
      omega
    · rw [if_neg (show ¬ z - y = 0 by omega), if_neg (show ¬ z - y = 1 by omega), if_neg (show ¬ z - y < 4 by omega), if_neg (show ¬ z - y < 6 by omega), if_neg (show ¬ z - y < 8 by omega), if_neg (show ¬ z - y < 10 by omega), if_neg (show ¬ z - y < 18 by omega), if_neg (show ¬ z - y < 26 by omega), if_neg (show ¬ z - y < 30 by omega), if_neg (show ¬ z - y < 34 by omega), if_neg (show ¬ z - y < 38 by omega), if_neg (show ¬ z - y < 42 by omega)]
      rw [ptn_in (by omega)]
      congr 1
      omega
  · rw [ptn_out (by omega), ptn_out (by omega), ptn_out (by omega), ptn_out (by omega), ptn_out (by omega), ptn_out (by omega), ptn_out (by omega), ptn_out (by omega), ptn_out (by omega), ptn_out (by omega), ptn_out (by omega), ptn_out (by omega), ptn_out (by omega)]
    exact (if_neg q).symm
end
