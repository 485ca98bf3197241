/-! ===== the calls of a fresh object, each for all arguments ===== -/
def xDk (K : Nat) (xs : Nat → Int32) (pc : Nat) : Prop := ∃ (N : Nat) (hp : ix_H), N ≤ 2 ^ 15 ∧ ix_R (xTT 6 xs) (ix_run (xTT 6 xs) K 8) xm_law N (pc, xLS, [], xhp0) (some (.int 1), hp) ∧ hp.1 ≤ 600000 ∧ hp.2.1 ≤ 7302250
abbrev xD (xs : Nat → Int32) (pc : Nat) : Prop := xDk 14 xs pc
def xGoodK (K L : Nat) (xs : Nat → Int32) (σ : ix_S) : Prop := ∃ (N : Nat) (hp : ix_H), N ≤ 2 ^ 16 ∧ ix_R (xTT L xs) (ix_run (xTT L xs) K 8) xm_law N σ (some (.int 1), hp) ∧ hp.1 ≤ 600000 ∧ hp.2.1 ≤ 7302250
theorem xpreK (xs : Nat → Int32) (K : Nat) : ix_n (xTT 6 xs) (ix_run (xTT 6 xs) K 8) xm_law 13 (16, xls0, [], xhp0) = some (.inl (33, xLS, [.int (xs 0 &&& 63)], xhp0)) := iy_n_ok (iy_run_ok _ _ _) rfl
theorem xself {xs : Nat → Int32} {k : Nat} {v : Int32} (h : (xs k).toInt = v.toInt) : va_up xs k v = xs := by
  funext j
  by_cases hj : j = k
  · subst hj
    rw [va_up_self]
    exact (Int32.toInt_inj.mp h).symm
  · rw [va_up_ne _ _ hj]
theorem xltge (a b : Int) : a < b ∨ b ≤ a := by omega
theorem xlo (x : Int32) : -2147483648 ≤ x.toInt := x.le_toInt
theorem xhi (x : Int32) : x.toInt ≤ 2147483647 := by have := x.toInt_lt; omega
theorem xo_2 (xs : Nat → Int32) : xD xs 294 := by
  have l1 := xlo (xs 1)
  have u1 := xhi (xs 1)
  rcases xltge (xs 1).toInt 0 with h | h
  · have z := xo_2_neg xs ⟨by omega, by omega⟩
    exact z
  · rcases xltge 23 (xs 1).toInt with h2 | h2
    · have z := xo_2_big xs ⟨by omega, by omega⟩
      exact z
    · rcases (show (xs 1).toInt = 0 ∨ (xs 1).toInt = 1 ∨ (xs 1).toInt = 2 ∨ (xs 1).toInt = 3 ∨ (xs 1).toInt = 4 ∨ (xs 1).toInt = 5 ∨ (xs 1).toInt = 6 ∨ (xs 1).toInt = 7 ∨ (xs 1).toInt = 8 ∨ (xs 1).toInt = 9 ∨ (xs 1).toInt = 10 ∨ (xs 1).toInt = 11 ∨ (xs 1).toInt = 12 ∨ (xs 1).toInt = 13 ∨ (xs 1).toInt = 14 ∨ (xs 1).toInt = 15 ∨ (xs 1).toInt = 16 ∨ (xs 1).toInt = 17 ∨ (xs 1).toInt = 18 ∨ (xs 1).toInt = 19 ∨ (xs 1).toInt = 20 ∨ (xs 1).toInt = 21 ∨ (xs 1).toInt = 22 ∨ (xs 1).toInt = 23 by omega) with h3 | h3 | h3 | h3 | h3 | h3 | h3 | h3 | h3 | h3 | h3 | h3 | h3 | h3 | h3 | h3 | h3 | h3 | h3 | h3 | h3 | h3 | h3 | h3
      · have z := xo_2_k0 xs
        rw [xself (k := 1) (v := 0) h3] at z
        exact z
      · have z := xo_2_k1 xs
        rw [xself (k := 1) (v := 1) h3] at z
        exact z
      · have z := xo_2_k2 xs
        rw [xself (k := 1) (v := 2) h3] at z
        exact z
      · have z := xo_2_k3 xs
        rw [xself (k := 1) (v := 3) h3] at z
        exact z
      · have z := xo_2_k4 xs
        rw [xself (k := 1) (v := 4) h3] at z
        exact z
      · have z := xo_2_k5 xs
        rw [xself (k := 1) (v := 5) h3] at z
        exact z
      · have z := xo_2_k6 xs
        rw [xself (k := 1) (v := 6) h3] at z
        exact z
      · have z := xo_2_k7 xs
        rw [xself (k := 1) (v := 7) h3] at z
        exact z
      · have z := xo_2_k8 xs
        rw [xself (k := 1) (v := 8) h3] at z
        exact z
      · have z := xo_2_k9 xs
        rw [xself (k := 1) (v := 9) h3] at z
        exact z
      · have z := xo_2_k10 xs
        rw [xself (k := 1) (v := 10) h3] at z
        exact z
      · have z := xo_2_k11 xs
        rw [xself (k := 1) (v := 11) h3] at z
        exact z
      · have z := xo_2_k12 xs
        rw [xself (k := 1) (v := 12) h3] at z
        exact z
      · have z := xo_2_k13 xs
        rw [xself (k := 1) (v := 13) h3] at z
        exact z
      · have z := xo_2_k14 xs
        rw [xself (k := 1) (v := 14) h3] at z
        exact z
      · have z := xo_2_k15 xs
        rw [xself (k := 1) (v := 15) h3] at z
        exact z
      · have z := xo_2_k16 xs
        rw [xself (k := 1) (v := 16) h3] at z
        exact z
      · have z := xo_2_k17 xs
        rw [xself (k := 1) (v := 17) h3] at z
        exact z
      · have z := xo_2_k18 xs
        rw [xself (k := 1) (v := 18) h3] at z
        exact z
      · have z := xo_2_k19 xs
        rw [xself (k := 1) (v := 19) h3] at z
        exact z
      · have z := xo_2_k20 xs
        rw [xself (k := 1) (v := 20) h3] at z
        exact z
      · have z := xo_2_k21 xs
        rw [xself (k := 1) (v := 21) h3] at z
        exact z
      · have z := xo_2_k22 xs
        rw [xself (k := 1) (v := 22) h3] at z
        exact z
      · have z := xo_2_k23 xs
        rw [xself (k := 1) (v := 23) h3] at z
        exact z
theorem xo_3 (xs : Nat → Int32) : xD xs 317 := by
  have l1 := xlo (xs 1)
  have u1 := xhi (xs 1)
  rcases xltge (xs 1).toInt 0 with h | h
  · have z := xo_3_neg xs ⟨by omega, by omega⟩
    exact z
  · rcases xltge 23 (xs 1).toInt with h2 | h2
    · have z := xo_3_big xs ⟨by omega, by omega⟩
      exact z
    · rcases (show (xs 1).toInt = 0 ∨ (xs 1).toInt = 1 ∨ (xs 1).toInt = 2 ∨ (xs 1).toInt = 3 ∨ (xs 1).toInt = 4 ∨ (xs 1).toInt = 5 ∨ (xs 1).toInt = 6 ∨ (xs 1).toInt = 7 ∨ (xs 1).toInt = 8 ∨ (xs 1).toInt = 9 ∨ (xs 1).toInt = 10 ∨ (xs 1).toInt = 11 ∨ (xs 1).toInt = 12 ∨ (xs 1).toInt = 13 ∨ (xs 1).toInt = 14 ∨ (xs 1).toInt = 15 ∨ (xs 1).toInt = 16 ∨ (xs 1).toInt = 17 ∨ (xs 1).toInt = 18 ∨ (xs 1).toInt = 19 ∨ (xs 1).toInt = 20 ∨ (xs 1).toInt = 21 ∨ (xs 1).toInt = 22 ∨ (xs 1).toInt = 23 by omega) with h3 | h3 | h3 | h3 | h3 | h3 | h3 | h3 | h3 | h3 | h3 | h3 | h3 | h3 | h3 | h3 | h3 | h3 | h3 | h3 | h3 | h3 | h3 | h3
      · have z := xo_3_k0 xs
        rw [xself (k := 1) (v := 0) h3] at z
        exact z
      · have z := xo_3_k1 xs
        rw [xself (k := 1) (v := 1) h3] at z
        exact z
      · have z := xo_3_k2 xs
        rw [xself (k := 1) (v := 2) h3] at z
        exact z
      · have z := xo_3_k3 xs
        rw [xself (k := 1) (v := 3) h3] at z
        exact z
      · have z := xo_3_k4 xs
        rw [xself (k := 1) (v := 4) h3] at z
        exact z
      · have z := xo_3_k5 xs
        rw [xself (k := 1) (v := 5) h3] at z
        exact z
      · have z := xo_3_k6 xs
        rw [xself (k := 1) (v := 6) h3] at z
        exact z
      · have z := xo_3_k7 xs
        rw [xself (k := 1) (v := 7) h3] at z
        exact z
      · have z := xo_3_k8 xs
        rw [xself (k := 1) (v := 8) h3] at z
        exact z
      · have z := xo_3_k9 xs
        rw [xself (k := 1) (v := 9) h3] at z
        exact z
      · have z := xo_3_k10 xs
        rw [xself (k := 1) (v := 10) h3] at z
        exact z
      · have z := xo_3_k11 xs
        rw [xself (k := 1) (v := 11) h3] at z
        exact z
      · have z := xo_3_k12 xs
        rw [xself (k := 1) (v := 12) h3] at z
        exact z
      · have z := xo_3_k13 xs
        rw [xself (k := 1) (v := 13) h3] at z
        exact z
      · have z := xo_3_k14 xs
        rw [xself (k := 1) (v := 14) h3] at z
        exact z
      · have z := xo_3_k15 xs
        rw [xself (k := 1) (v := 15) h3] at z
        exact z
      · have z := xo_3_k16 xs
        rw [xself (k := 1) (v := 16) h3] at z
        exact z
      · have z := xo_3_k17 xs
        rw [xself (k := 1) (v := 17) h3] at z
        exact z
      · have z := xo_3_k18 xs
        rw [xself (k := 1) (v := 18) h3] at z
        exact z
      · have z := xo_3_k19 xs
        rw [xself (k := 1) (v := 19) h3] at z
        exact z
      · have z := xo_3_k20 xs
        rw [xself (k := 1) (v := 20) h3] at z
        exact z
      · have z := xo_3_k21 xs
        rw [xself (k := 1) (v := 21) h3] at z
        exact z
      · have z := xo_3_k22 xs
        rw [xself (k := 1) (v := 22) h3] at z
        exact z
      · have z := xo_3_k23 xs
        rw [xself (k := 1) (v := 23) h3] at z
        exact z
theorem xo_4 (xs : Nat → Int32) : xD xs 340 := by
  have l1 := xlo (xs 1)
  have u1 := xhi (xs 1)
  rcases xltge (xs 1).toInt 0 with h | h
  · have z := xo_4_neg xs ⟨by omega, by omega⟩
    exact z
  · rcases xltge 23 (xs 1).toInt with h2 | h2
    · have z := xo_4_big xs ⟨by omega, by omega⟩
      exact z
    · rcases (show (xs 1).toInt = 0 ∨ (xs 1).toInt = 1 ∨ (xs 1).toInt = 2 ∨ (xs 1).toInt = 3 ∨ (xs 1).toInt = 4 ∨ (xs 1).toInt = 5 ∨ (xs 1).toInt = 6 ∨ (xs 1).toInt = 7 ∨ (xs 1).toInt = 8 ∨ (xs 1).toInt = 9 ∨ (xs 1).toInt = 10 ∨ (xs 1).toInt = 11 ∨ (xs 1).toInt = 12 ∨ (xs 1).toInt = 13 ∨ (xs 1).toInt = 14 ∨ (xs 1).toInt = 15 ∨ (xs 1).toInt = 16 ∨ (xs 1).toInt = 17 ∨ (xs 1).toInt = 18 ∨ (xs 1).toInt = 19 ∨ (xs 1).toInt = 20 ∨ (xs 1).toInt = 21 ∨ (xs 1).toInt = 22 ∨ (xs 1).toInt = 23 by omega) with h3 | h3 | h3 | h3 | h3 | h3 | h3 | h3 | h3 | h3 | h3 | h3 | h3 | h3 | h3 | h3 | h3 | h3 | h3 | h3 | h3 | h3 | h3 | h3
      · have z := xo_4_k0 xs
        rw [xself (k := 1) (v := 0) h3] at z
        exact z
      · have z := xo_4_k1 xs
        rw [xself (k := 1) (v := 1) h3] at z
        exact z
      · have z := xo_4_k2 xs
        rw [xself (k := 1) (v := 2) h3] at z
        exact z
      · have z := xo_4_k3 xs
        rw [xself (k := 1) (v := 3) h3] at z
        exact z
      · have z := xo_4_k4 xs
        rw [xself (k := 1) (v := 4) h3] at z
        exact z
      · have z := xo_4_k5 xs
        rw [xself (k := 1) (v := 5) h3] at z
        exact z
      · have z := xo_4_k6 xs
        rw [xself (k := 1) (v := 6) h3] at z
        exact z
      · have z := xo_4_k7 xs
        rw [xself (k := 1) (v := 7) h3] at z
        exact z
      · have z := xo_4_k8 xs
        rw [xself (k := 1) (v := 8) h3] at z
        exact z
      · have z := xo_4_k9 xs
        rw [xself (k := 1) (v := 9) h3] at z
        exact z
      · have z := xo_4_k10 xs
        rw [xself (k := 1) (v := 10) h3] at z
        exact z
      · have z := xo_4_k11 xs
        rw [xself (k := 1) (v := 11) h3] at z
        exact z
      · have z := xo_4_k12 xs
        rw [xself (k := 1) (v := 12) h3] at z
        exact z
      · have z := xo_4_k13 xs
        rw [xself (k := 1) (v := 13) h3] at z
        exact z
      · have z := xo_4_k14 xs
        rw [xself (k := 1) (v := 14) h3] at z
        exact z
      · have z := xo_4_k15 xs
        rw [xself (k := 1) (v := 15) h3] at z
        exact z
      · have z := xo_4_k16 xs
        rw [xself (k := 1) (v := 16) h3] at z
        exact z
      · have z := xo_4_k17 xs
        rw [xself (k := 1) (v := 17) h3] at z
        exact z
      · have z := xo_4_k18 xs
        rw [xself (k := 1) (v := 18) h3] at z
        exact z
      · have z := xo_4_k19 xs
        rw [xself (k := 1) (v := 19) h3] at z
        exact z
      · have z := xo_4_k20 xs
        rw [xself (k := 1) (v := 20) h3] at z
        exact z
      · have z := xo_4_k21 xs
        rw [xself (k := 1) (v := 21) h3] at z
        exact z
      · have z := xo_4_k22 xs
        rw [xself (k := 1) (v := 22) h3] at z
        exact z
      · have z := xo_4_k23 xs
        rw [xself (k := 1) (v := 23) h3] at z
        exact z
theorem xo_5 (xs : Nat → Int32) : xD xs 373 := by
  have l1 := xlo (xs 1)
  have u1 := xhi (xs 1)
  rcases xltge (xs 1).toInt 0 with h | h
  · have z := xo_5_neg xs ⟨by omega, by omega⟩
    exact z
  · rcases xltge 23 (xs 1).toInt with h2 | h2
    · have z := xo_5_big xs ⟨by omega, by omega⟩
      exact z
    · rcases (show (xs 1).toInt = 0 ∨ (xs 1).toInt = 1 ∨ (xs 1).toInt = 2 ∨ (xs 1).toInt = 3 ∨ (xs 1).toInt = 4 ∨ (xs 1).toInt = 5 ∨ (xs 1).toInt = 6 ∨ (xs 1).toInt = 7 ∨ (xs 1).toInt = 8 ∨ (xs 1).toInt = 9 ∨ (xs 1).toInt = 10 ∨ (xs 1).toInt = 11 ∨ (xs 1).toInt = 12 ∨ (xs 1).toInt = 13 ∨ (xs 1).toInt = 14 ∨ (xs 1).toInt = 15 ∨ (xs 1).toInt = 16 ∨ (xs 1).toInt = 17 ∨ (xs 1).toInt = 18 ∨ (xs 1).toInt = 19 ∨ (xs 1).toInt = 20 ∨ (xs 1).toInt = 21 ∨ (xs 1).toInt = 22 ∨ (xs 1).toInt = 23 by omega) with h3 | h3 | h3 | h3 | h3 | h3 | h3 | h3 | h3 | h3 | h3 | h3 | h3 | h3 | h3 | h3 | h3 | h3 | h3 | h3 | h3 | h3 | h3 | h3
      · have z := xo_5_k0 xs
        rw [xself (k := 1) (v := 0) h3] at z
        exact z
      · have z := xo_5_k1 xs
        rw [xself (k := 1) (v := 1) h3] at z
        exact z
      · have z := xo_5_k2 xs
        rw [xself (k := 1) (v := 2) h3] at z
        exact z
      · have z := xo_5_k3 xs
        rw [xself (k := 1) (v := 3) h3] at z
        exact z
      · have z := xo_5_k4 xs
        rw [xself (k := 1) (v := 4) h3] at z
        exact z
      · have z := xo_5_k5 xs
        rw [xself (k := 1) (v := 5) h3] at z
        exact z
      · have z := xo_5_k6 xs
        rw [xself (k := 1) (v := 6) h3] at z
        exact z
      · have z := xo_5_k7 xs
        rw [xself (k := 1) (v := 7) h3] at z
        exact z
      · have z := xo_5_k8 xs
        rw [xself (k := 1) (v := 8) h3] at z
        exact z
      · have z := xo_5_k9 xs
        rw [xself (k := 1) (v := 9) h3] at z
        exact z
      · have z := xo_5_k10 xs
        rw [xself (k := 1) (v := 10) h3] at z
        exact z
      · have z := xo_5_k11 xs
        rw [xself (k := 1) (v := 11) h3] at z
        exact z
      · have z := xo_5_k12 xs
        rw [xself (k := 1) (v := 12) h3] at z
        exact z
      · have z := xo_5_k13 xs
        rw [xself (k := 1) (v := 13) h3] at z
        exact z
      · have z := xo_5_k14 xs
        rw [xself (k := 1) (v := 14) h3] at z
        exact z
      · have z := xo_5_k15 xs
        rw [xself (k := 1) (v := 15) h3] at z
        exact z
      · have z := xo_5_k16 xs
        rw [xself (k := 1) (v := 16) h3] at z
        exact z
      · have z := xo_5_k17 xs
        rw [xself (k := 1) (v := 17) h3] at z
        exact z
      · have z := xo_5_k18 xs
        rw [xself (k := 1) (v := 18) h3] at z
        exact z
      · have z := xo_5_k19 xs
        rw [xself (k := 1) (v := 19) h3] at z
        exact z
      · have z := xo_5_k20 xs
        rw [xself (k := 1) (v := 20) h3] at z
        exact z
      · have z := xo_5_k21 xs
        rw [xself (k := 1) (v := 21) h3] at z
        exact z
      · have z := xo_5_k22 xs
        rw [xself (k := 1) (v := 22) h3] at z
        exact z
      · have z := xo_5_k23 xs
        rw [xself (k := 1) (v := 23) h3] at z
        exact z
theorem xo_7 (xs : Nat → Int32) : xD xs 419 := by
  have l1 := xlo (xs 1)
  have u1 := xhi (xs 1)
  rcases xltge (xs 1).toInt 0 with h | h
  · have z := xo_7_neg xs ⟨by omega, by omega⟩
    exact z
  · rcases xltge 23 (xs 1).toInt with h2 | h2
    · have z := xo_7_big xs ⟨by omega, by omega⟩
      exact z
    · rcases (show (xs 1).toInt = 0 ∨ (xs 1).toInt = 1 ∨ (xs 1).toInt = 2 ∨ (xs 1).toInt = 3 ∨ (xs 1).toInt = 4 ∨ (xs 1).toInt = 5 ∨ (xs 1).toInt = 6 ∨ (xs 1).toInt = 7 ∨ (xs 1).toInt = 8 ∨ (xs 1).toInt = 9 ∨ (xs 1).toInt = 10 ∨ (xs 1).toInt = 11 ∨ (xs 1).toInt = 12 ∨ (xs 1).toInt = 13 ∨ (xs 1).toInt = 14 ∨ (xs 1).toInt = 15 ∨ (xs 1).toInt = 16 ∨ (xs 1).toInt = 17 ∨ (xs 1).toInt = 18 ∨ (xs 1).toInt = 19 ∨ (xs 1).toInt = 20 ∨ (xs 1).toInt = 21 ∨ (xs 1).toInt = 22 ∨ (xs 1).toInt = 23 by omega) with h3 | h3 | h3 | h3 | h3 | h3 | h3 | h3 | h3 | h3 | h3 | h3 | h3 | h3 | h3 | h3 | h3 | h3 | h3 | h3 | h3 | h3 | h3 | h3
      · have z := xo_7_k0 xs
        rw [xself (k := 1) (v := 0) h3] at z
        exact z
      · have z := xo_7_k1 xs
        rw [xself (k := 1) (v := 1) h3] at z
        exact z
      · have z := xo_7_k2 xs
        rw [xself (k := 1) (v := 2) h3] at z
        exact z
      · have z := xo_7_k3 xs
        rw [xself (k := 1) (v := 3) h3] at z
        exact z
      · have z := xo_7_k4 xs
        rw [xself (k := 1) (v := 4) h3] at z
        exact z
      · have z := xo_7_k5 xs
        rw [xself (k := 1) (v := 5) h3] at z
        exact z
      · have z := xo_7_k6 xs
        rw [xself (k := 1) (v := 6) h3] at z
        exact z
      · have z := xo_7_k7 xs
        rw [xself (k := 1) (v := 7) h3] at z
        exact z
      · have z := xo_7_k8 xs
        rw [xself (k := 1) (v := 8) h3] at z
        exact z
      · have z := xo_7_k9 xs
        rw [xself (k := 1) (v := 9) h3] at z
        exact z
      · have z := xo_7_k10 xs
        rw [xself (k := 1) (v := 10) h3] at z
        exact z
      · have z := xo_7_k11 xs
        rw [xself (k := 1) (v := 11) h3] at z
        exact z
      · have z := xo_7_k12 xs
        rw [xself (k := 1) (v := 12) h3] at z
        exact z
      · have z := xo_7_k13 xs
        rw [xself (k := 1) (v := 13) h3] at z
        exact z
      · have z := xo_7_k14 xs
        rw [xself (k := 1) (v := 14) h3] at z
        exact z
      · have z := xo_7_k15 xs
        rw [xself (k := 1) (v := 15) h3] at z
        exact z
      · have z := xo_7_k16 xs
        rw [xself (k := 1) (v := 16) h3] at z
        exact z
      · have z := xo_7_k17 xs
        rw [xself (k := 1) (v := 17) h3] at z
        exact z
      · have z := xo_7_k18 xs
        rw [xself (k := 1) (v := 18) h3] at z
        exact z
      · have z := xo_7_k19 xs
        rw [xself (k := 1) (v := 19) h3] at z
        exact z
      · have z := xo_7_k20 xs
        rw [xself (k := 1) (v := 20) h3] at z
        exact z
      · have z := xo_7_k21 xs
        rw [xself (k := 1) (v := 21) h3] at z
        exact z
      · have z := xo_7_k22 xs
        rw [xself (k := 1) (v := 22) h3] at z
        exact z
      · have z := xo_7_k23 xs
        rw [xself (k := 1) (v := 23) h3] at z
        exact z
theorem xo_8 (xs : Nat → Int32) : xD xs 452 := by
  have l1 := xlo (xs 1)
  have u1 := xhi (xs 1)
  rcases xltge (xs 1).toInt 0 with h | h
  · have z := xo_8_neg xs ⟨by omega, by omega⟩
    exact z
  · rcases xltge 23 (xs 1).toInt with h2 | h2
    · have z := xo_8_big xs ⟨by omega, by omega⟩
      exact z
    · rcases (show (xs 1).toInt = 0 ∨ (xs 1).toInt = 1 ∨ (xs 1).toInt = 2 ∨ (xs 1).toInt = 3 ∨ (xs 1).toInt = 4 ∨ (xs 1).toInt = 5 ∨ (xs 1).toInt = 6 ∨ (xs 1).toInt = 7 ∨ (xs 1).toInt = 8 ∨ (xs 1).toInt = 9 ∨ (xs 1).toInt = 10 ∨ (xs 1).toInt = 11 ∨ (xs 1).toInt = 12 ∨ (xs 1).toInt = 13 ∨ (xs 1).toInt = 14 ∨ (xs 1).toInt = 15 ∨ (xs 1).toInt = 16 ∨ (xs 1).toInt = 17 ∨ (xs 1).toInt = 18 ∨ (xs 1).toInt = 19 ∨ (xs 1).toInt = 20 ∨ (xs 1).toInt = 21 ∨ (xs 1).toInt = 22 ∨ (xs 1).toInt = 23 by omega) with h3 | h3 | h3 | h3 | h3 | h3 | h3 | h3 | h3 | h3 | h3 | h3 | h3 | h3 | h3 | h3 | h3 | h3 | h3 | h3 | h3 | h3 | h3 | h3
      · have z := xo_8_k0 xs
        rw [xself (k := 1) (v := 0) h3] at z
        exact z
      · have z := xo_8_k1 xs
        rw [xself (k := 1) (v := 1) h3] at z
        exact z
      · have z := xo_8_k2 xs
        rw [xself (k := 1) (v := 2) h3] at z
        exact z
      · have z := xo_8_k3 xs
        rw [xself (k := 1) (v := 3) h3] at z
        exact z
      · have z := xo_8_k4 xs
        rw [xself (k := 1) (v := 4) h3] at z
        exact z
      · have z := xo_8_k5 xs
        rw [xself (k := 1) (v := 5) h3] at z
        exact z
      · have z := xo_8_k6 xs
        rw [xself (k := 1) (v := 6) h3] at z
        exact z
      · have z := xo_8_k7 xs
        rw [xself (k := 1) (v := 7) h3] at z
        exact z
      · have z := xo_8_k8 xs
        rw [xself (k := 1) (v := 8) h3] at z
        exact z
      · have z := xo_8_k9 xs
        rw [xself (k := 1) (v := 9) h3] at z
        exact z
      · have z := xo_8_k10 xs
        rw [xself (k := 1) (v := 10) h3] at z
        exact z
      · have z := xo_8_k11 xs
        rw [xself (k := 1) (v := 11) h3] at z
        exact z
      · have z := xo_8_k12 xs
        rw [xself (k := 1) (v := 12) h3] at z
        exact z
      · have z := xo_8_k13 xs
        rw [xself (k := 1) (v := 13) h3] at z
        exact z
      · have z := xo_8_k14 xs
        rw [xself (k := 1) (v := 14) h3] at z
        exact z
      · have z := xo_8_k15 xs
        rw [xself (k := 1) (v := 15) h3] at z
        exact z
      · have z := xo_8_k16 xs
        rw [xself (k := 1) (v := 16) h3] at z
        exact z
      · have z := xo_8_k17 xs
        rw [xself (k := 1) (v := 17) h3] at z
        exact z
      · have z := xo_8_k18 xs
        rw [xself (k := 1) (v := 18) h3] at z
        exact z
      · have z := xo_8_k19 xs
        rw [xself (k := 1) (v := 19) h3] at z
        exact z
      · have z := xo_8_k20 xs
        rw [xself (k := 1) (v := 20) h3] at z
        exact z
      · have z := xo_8_k21 xs
        rw [xself (k := 1) (v := 21) h3] at z
        exact z
      · have z := xo_8_k22 xs
        rw [xself (k := 1) (v := 22) h3] at z
        exact z
      · have z := xo_8_k23 xs
        rw [xself (k := 1) (v := 23) h3] at z
        exact z
theorem xo_9 (xs : Nat → Int32) : xD xs 496 := by
  have l1 := xlo (xs 1)
  have u1 := xhi (xs 1)
  rcases xltge (xs 1).toInt 0 with h | h
  · have z := xo_9_neg xs ⟨by omega, by omega⟩
    exact z
  · rcases xltge 23 (xs 1).toInt with h2 | h2
    · have z := xo_9_big xs ⟨by omega, by omega⟩
      exact z
    · rcases (show (xs 1).toInt = 0 ∨ (xs 1).toInt = 1 ∨ (xs 1).toInt = 2 ∨ (xs 1).toInt = 3 ∨ (xs 1).toInt = 4 ∨ (xs 1).toInt = 5 ∨ (xs 1).toInt = 6 ∨ (xs 1).toInt = 7 ∨ (xs 1).toInt = 8 ∨ (xs 1).toInt = 9 ∨ (xs 1).toInt = 10 ∨ (xs 1).toInt = 11 ∨ (xs 1).toInt = 12 ∨ (xs 1).toInt = 13 ∨ (xs 1).toInt = 14 ∨ (xs 1).toInt = 15 ∨ (xs 1).toInt = 16 ∨ (xs 1).toInt = 17 ∨ (xs 1).toInt = 18 ∨ (xs 1).toInt = 19 ∨ (xs 1).toInt = 20 ∨ (xs 1).toInt = 21 ∨ (xs 1).toInt = 22 ∨ (xs 1).toInt = 23 by omega) with h3 | h3 | h3 | h3 | h3 | h3 | h3 | h3 | h3 | h3 | h3 | h3 | h3 | h3 | h3 | h3 | h3 | h3 | h3 | h3 | h3 | h3 | h3 | h3
      · have z := xo_9_k0 xs
        rw [xself (k := 1) (v := 0) h3] at z
        exact z
      · have z := xo_9_k1 xs
        rw [xself (k := 1) (v := 1) h3] at z
        exact z
      · have z := xo_9_k2 xs
        rw [xself (k := 1) (v := 2) h3] at z
        exact z
      · have z := xo_9_k3 xs
        rw [xself (k := 1) (v := 3) h3] at z
        exact z
      · have z := xo_9_k4 xs
        rw [xself (k := 1) (v := 4) h3] at z
        exact z
      · have z := xo_9_k5 xs
        rw [xself (k := 1) (v := 5) h3] at z
        exact z
      · have z := xo_9_k6 xs
        rw [xself (k := 1) (v := 6) h3] at z
        exact z
      · have z := xo_9_k7 xs
        rw [xself (k := 1) (v := 7) h3] at z
        exact z
      · have z := xo_9_k8 xs
        rw [xself (k := 1) (v := 8) h3] at z
        exact z
      · have z := xo_9_k9 xs
        rw [xself (k := 1) (v := 9) h3] at z
        exact z
      · have z := xo_9_k10 xs
        rw [xself (k := 1) (v := 10) h3] at z
        exact z
      · have z := xo_9_k11 xs
        rw [xself (k := 1) (v := 11) h3] at z
        exact z
      · have z := xo_9_k12 xs
        rw [xself (k := 1) (v := 12) h3] at z
        exact z
      · have z := xo_9_k13 xs
        rw [xself (k := 1) (v := 13) h3] at z
        exact z
      · have z := xo_9_k14 xs
        rw [xself (k := 1) (v := 14) h3] at z
        exact z
      · have z := xo_9_k15 xs
        rw [xself (k := 1) (v := 15) h3] at z
        exact z
      · have z := xo_9_k16 xs
        rw [xself (k := 1) (v := 16) h3] at z
        exact z
      · have z := xo_9_k17 xs
        rw [xself (k := 1) (v := 17) h3] at z
        exact z
      · have z := xo_9_k18 xs
        rw [xself (k := 1) (v := 18) h3] at z
        exact z
      · have z := xo_9_k19 xs
        rw [xself (k := 1) (v := 19) h3] at z
        exact z
      · have z := xo_9_k20 xs
        rw [xself (k := 1) (v := 20) h3] at z
        exact z
      · have z := xo_9_k21 xs
        rw [xself (k := 1) (v := 21) h3] at z
        exact z
      · have z := xo_9_k22 xs
        rw [xself (k := 1) (v := 22) h3] at z
        exact z
      · have z := xo_9_k23 xs
        rw [xself (k := 1) (v := 23) h3] at z
        exact z
theorem xo_10 (xs : Nat → Int32) : xD xs 529 := by
  have l1 := xlo (xs 1)
  have u1 := xhi (xs 1)
  rcases xltge (xs 1).toInt 0 with h | h
  · have z := xo_10_neg xs ⟨by omega, by omega⟩
    exact z
  · rcases xltge 23 (xs 1).toInt with h2 | h2
    · have z := xo_10_big xs ⟨by omega, by omega⟩
      exact z
    · rcases (show (xs 1).toInt = 0 ∨ (xs 1).toInt = 1 ∨ (xs 1).toInt = 2 ∨ (xs 1).toInt = 3 ∨ (xs 1).toInt = 4 ∨ (xs 1).toInt = 5 ∨ (xs 1).toInt = 6 ∨ (xs 1).toInt = 7 ∨ (xs 1).toInt = 8 ∨ (xs 1).toInt = 9 ∨ (xs 1).toInt = 10 ∨ (xs 1).toInt = 11 ∨ (xs 1).toInt = 12 ∨ (xs 1).toInt = 13 ∨ (xs 1).toInt = 14 ∨ (xs 1).toInt = 15 ∨ (xs 1).toInt = 16 ∨ (xs 1).toInt = 17 ∨ (xs 1).toInt = 18 ∨ (xs 1).toInt = 19 ∨ (xs 1).toInt = 20 ∨ (xs 1).toInt = 21 ∨ (xs 1).toInt = 22 ∨ (xs 1).toInt = 23 by omega) with h3 | h3 | h3 | h3 | h3 | h3 | h3 | h3 | h3 | h3 | h3 | h3 | h3 | h3 | h3 | h3 | h3 | h3 | h3 | h3 | h3 | h3 | h3 | h3
      · have z := xo_10_k0 xs
        rw [xself (k := 1) (v := 0) h3] at z
        exact z
      · have z := xo_10_k1 xs
        rw [xself (k := 1) (v := 1) h3] at z
        exact z
      · have z := xo_10_k2 xs
        rw [xself (k := 1) (v := 2) h3] at z
        exact z
      · have z := xo_10_k3 xs
        rw [xself (k := 1) (v := 3) h3] at z
        exact z
      · have z := xo_10_k4 xs
        rw [xself (k := 1) (v := 4) h3] at z
        exact z
      · have z := xo_10_k5 xs
        rw [xself (k := 1) (v := 5) h3] at z
        exact z
      · have z := xo_10_k6 xs
        rw [xself (k := 1) (v := 6) h3] at z
        exact z
      · have z := xo_10_k7 xs
        rw [xself (k := 1) (v := 7) h3] at z
        exact z
      · have z := xo_10_k8 xs
        rw [xself (k := 1) (v := 8) h3] at z
        exact z
      · have z := xo_10_k9 xs
        rw [xself (k := 1) (v := 9) h3] at z
        exact z
      · have z := xo_10_k10 xs
        rw [xself (k := 1) (v := 10) h3] at z
        exact z
      · have z := xo_10_k11 xs
        rw [xself (k := 1) (v := 11) h3] at z
        exact z
      · have z := xo_10_k12 xs
        rw [xself (k := 1) (v := 12) h3] at z
        exact z
      · have z := xo_10_k13 xs
        rw [xself (k := 1) (v := 13) h3] at z
        exact z
      · have z := xo_10_k14 xs
        rw [xself (k := 1) (v := 14) h3] at z
        exact z
      · have z := xo_10_k15 xs
        rw [xself (k := 1) (v := 15) h3] at z
        exact z
      · have z := xo_10_k16 xs
        rw [xself (k := 1) (v := 16) h3] at z
        exact z
      · have z := xo_10_k17 xs
        rw [xself (k := 1) (v := 17) h3] at z
        exact z
      · have z := xo_10_k18 xs
        rw [xself (k := 1) (v := 18) h3] at z
        exact z
      · have z := xo_10_k19 xs
        rw [xself (k := 1) (v := 19) h3] at z
        exact z
      · have z := xo_10_k20 xs
        rw [xself (k := 1) (v := 20) h3] at z
        exact z
      · have z := xo_10_k21 xs
        rw [xself (k := 1) (v := 21) h3] at z
        exact z
      · have z := xo_10_k22 xs
        rw [xself (k := 1) (v := 22) h3] at z
        exact z
      · have z := xo_10_k23 xs
        rw [xself (k := 1) (v := 23) h3] at z
        exact z
theorem xo_11 (xs : Nat → Int32) : xD xs 572 := by
  have l1 := xlo (xs 1)
  have u1 := xhi (xs 1)
  rcases xltge (xs 1).toInt 0 with h | h
  · have z := xo_11_neg xs ⟨by omega, by omega⟩
    exact z
  · rcases xltge 23 (xs 1).toInt with h2 | h2
    · have z := xo_11_big xs ⟨by omega, by omega⟩
      exact z
    · rcases (show (xs 1).toInt = 0 ∨ (xs 1).toInt = 1 ∨ (xs 1).toInt = 2 ∨ (xs 1).toInt = 3 ∨ (xs 1).toInt = 4 ∨ (xs 1).toInt = 5 ∨ (xs 1).toInt = 6 ∨ (xs 1).toInt = 7 ∨ (xs 1).toInt = 8 ∨ (xs 1).toInt = 9 ∨ (xs 1).toInt = 10 ∨ (xs 1).toInt = 11 ∨ (xs 1).toInt = 12 ∨ (xs 1).toInt = 13 ∨ (xs 1).toInt = 14 ∨ (xs 1).toInt = 15 ∨ (xs 1).toInt = 16 ∨ (xs 1).toInt = 17 ∨ (xs 1).toInt = 18 ∨ (xs 1).toInt = 19 ∨ (xs 1).toInt = 20 ∨ (xs 1).toInt = 21 ∨ (xs 1).toInt = 22 ∨ (xs 1).toInt = 23 by omega) with h3 | h3 | h3 | h3 | h3 | h3 | h3 | h3 | h3 | h3 | h3 | h3 | h3 | h3 | h3 | h3 | h3 | h3 | h3 | h3 | h3 | h3 | h3 | h3
      · have z := xo_11_k0 xs
        rw [xself (k := 1) (v := 0) h3] at z
        exact z
      · have z := xo_11_k1 xs
        rw [xself (k := 1) (v := 1) h3] at z
        exact z
      · have z := xo_11_k2 xs
        rw [xself (k := 1) (v := 2) h3] at z
        exact z
      · have z := xo_11_k3 xs
        rw [xself (k := 1) (v := 3) h3] at z
        exact z
      · have z := xo_11_k4 xs
        rw [xself (k := 1) (v := 4) h3] at z
        exact z
      · have z := xo_11_k5 xs
        rw [xself (k := 1) (v := 5) h3] at z
        exact z
      · have z := xo_11_k6 xs
        rw [xself (k := 1) (v := 6) h3] at z
        exact z
      · have z := xo_11_k7 xs
        rw [xself (k := 1) (v := 7) h3] at z
        exact z
      · have z := xo_11_k8 xs
        rw [xself (k := 1) (v := 8) h3] at z
        exact z
      · have z := xo_11_k9 xs
        rw [xself (k := 1) (v := 9) h3] at z
        exact z
      · have z := xo_11_k10 xs
        rw [xself (k := 1) (v := 10) h3] at z
        exact z
      · have z := xo_11_k11 xs
        rw [xself (k := 1) (v := 11) h3] at z
        exact z
      · have z := xo_11_k12 xs
        rw [xself (k := 1) (v := 12) h3] at z
        exact z
      · have z := xo_11_k13 xs
        rw [xself (k := 1) (v := 13) h3] at z
        exact z
      · have z := xo_11_k14 xs
        rw [xself (k := 1) (v := 14) h3] at z
        exact z
      · have z := xo_11_k15 xs
        rw [xself (k := 1) (v := 15) h3] at z
        exact z
      · have z := xo_11_k16 xs
        rw [xself (k := 1) (v := 16) h3] at z
        exact z
      · have z := xo_11_k17 xs
        rw [xself (k := 1) (v := 17) h3] at z
        exact z
      · have z := xo_11_k18 xs
        rw [xself (k := 1) (v := 18) h3] at z
        exact z
      · have z := xo_11_k19 xs
        rw [xself (k := 1) (v := 19) h3] at z
        exact z
      · have z := xo_11_k20 xs
        rw [xself (k := 1) (v := 20) h3] at z
        exact z
      · have z := xo_11_k21 xs
        rw [xself (k := 1) (v := 21) h3] at z
        exact z
      · have z := xo_11_k22 xs
        rw [xself (k := 1) (v := 22) h3] at z
        exact z
      · have z := xo_11_k23 xs
        rw [xself (k := 1) (v := 23) h3] at z
        exact z
theorem xo_12 (xs : Nat → Int32) : xD xs 605 := by
  have l1 := xlo (xs 1)
  have u1 := xhi (xs 1)
  rcases xltge (xs 1).toInt 0 with h | h
  · have z := xo_12_neg xs ⟨by omega, by omega⟩
    exact z
  · rcases xltge 23 (xs 1).toInt with h2 | h2
    · have z := xo_12_big xs ⟨by omega, by omega⟩
      exact z
    · rcases (show (xs 1).toInt = 0 ∨ (xs 1).toInt = 1 ∨ (xs 1).toInt = 2 ∨ (xs 1).toInt = 3 ∨ (xs 1).toInt = 4 ∨ (xs 1).toInt = 5 ∨ (xs 1).toInt = 6 ∨ (xs 1).toInt = 7 ∨ (xs 1).toInt = 8 ∨ (xs 1).toInt = 9 ∨ (xs 1).toInt = 10 ∨ (xs 1).toInt = 11 ∨ (xs 1).toInt = 12 ∨ (xs 1).toInt = 13 ∨ (xs 1).toInt = 14 ∨ (xs 1).toInt = 15 ∨ (xs 1).toInt = 16 ∨ (xs 1).toInt = 17 ∨ (xs 1).toInt = 18 ∨ (xs 1).toInt = 19 ∨ (xs 1).toInt = 20 ∨ (xs 1).toInt = 21 ∨ (xs 1).toInt = 22 ∨ (xs 1).toInt = 23 by omega) with h3 | h3 | h3 | h3 | h3 | h3 | h3 | h3 | h3 | h3 | h3 | h3 | h3 | h3 | h3 | h3 | h3 | h3 | h3 | h3 | h3 | h3 | h3 | h3
      · have z := xo_12_k0 xs
        rw [xself (k := 1) (v := 0) h3] at z
        exact z
      · have z := xo_12_k1 xs
        rw [xself (k := 1) (v := 1) h3] at z
        exact z
      · have z := xo_12_k2 xs
        rw [xself (k := 1) (v := 2) h3] at z
        exact z
      · have z := xo_12_k3 xs
        rw [xself (k := 1) (v := 3) h3] at z
        exact z
      · have z := xo_12_k4 xs
        rw [xself (k := 1) (v := 4) h3] at z
        exact z
      · have z := xo_12_k5 xs
        rw [xself (k := 1) (v := 5) h3] at z
        exact z
      · have z := xo_12_k6 xs
        rw [xself (k := 1) (v := 6) h3] at z
        exact z
      · have z := xo_12_k7 xs
        rw [xself (k := 1) (v := 7) h3] at z
        exact z
      · have z := xo_12_k8 xs
        rw [xself (k := 1) (v := 8) h3] at z
        exact z
      · have z := xo_12_k9 xs
        rw [xself (k := 1) (v := 9) h3] at z
        exact z
      · have z := xo_12_k10 xs
        rw [xself (k := 1) (v := 10) h3] at z
        exact z
      · have z := xo_12_k11 xs
        rw [xself (k := 1) (v := 11) h3] at z
        exact z
      · have z := xo_12_k12 xs
        rw [xself (k := 1) (v := 12) h3] at z
        exact z
      · have z := xo_12_k13 xs
        rw [xself (k := 1) (v := 13) h3] at z
        exact z
      · have z := xo_12_k14 xs
        rw [xself (k := 1) (v := 14) h3] at z
        exact z
      · have z := xo_12_k15 xs
        rw [xself (k := 1) (v := 15) h3] at z
        exact z
      · have z := xo_12_k16 xs
        rw [xself (k := 1) (v := 16) h3] at z
        exact z
      · have z := xo_12_k17 xs
        rw [xself (k := 1) (v := 17) h3] at z
        exact z
      · have z := xo_12_k18 xs
        rw [xself (k := 1) (v := 18) h3] at z
        exact z
      · have z := xo_12_k19 xs
        rw [xself (k := 1) (v := 19) h3] at z
        exact z
      · have z := xo_12_k20 xs
        rw [xself (k := 1) (v := 20) h3] at z
        exact z
      · have z := xo_12_k21 xs
        rw [xself (k := 1) (v := 21) h3] at z
        exact z
      · have z := xo_12_k22 xs
        rw [xself (k := 1) (v := 22) h3] at z
        exact z
      · have z := xo_12_k23 xs
        rw [xself (k := 1) (v := 23) h3] at z
        exact z
theorem xo_13 (xs : Nat → Int32) : xD xs 628 := by
  have l1 := xlo (xs 1)
  have u1 := xhi (xs 1)
  rcases xltge (xs 1).toInt 0 with h | h
  · have z := xo_13_neg xs ⟨by omega, by omega⟩
    exact z
  · rcases xltge 23 (xs 1).toInt with h2 | h2
    · have z := xo_13_big xs ⟨by omega, by omega⟩
      exact z
    · rcases (show (xs 1).toInt = 0 ∨ (xs 1).toInt = 1 ∨ (xs 1).toInt = 2 ∨ (xs 1).toInt = 3 ∨ (xs 1).toInt = 4 ∨ (xs 1).toInt = 5 ∨ (xs 1).toInt = 6 ∨ (xs 1).toInt = 7 ∨ (xs 1).toInt = 8 ∨ (xs 1).toInt = 9 ∨ (xs 1).toInt = 10 ∨ (xs 1).toInt = 11 ∨ (xs 1).toInt = 12 ∨ (xs 1).toInt = 13 ∨ (xs 1).toInt = 14 ∨ (xs 1).toInt = 15 ∨ (xs 1).toInt = 16 ∨ (xs 1).toInt = 17 ∨ (xs 1).toInt = 18 ∨ (xs 1).toInt = 19 ∨ (xs 1).toInt = 20 ∨ (xs 1).toInt = 21 ∨ (xs 1).toInt = 22 ∨ (xs 1).toInt = 23 by omega) with h3 | h3 | h3 | h3 | h3 | h3 | h3 | h3 | h3 | h3 | h3 | h3 | h3 | h3 | h3 | h3 | h3 | h3 | h3 | h3 | h3 | h3 | h3 | h3
      · have z := xo_13_k0 xs
        rw [xself (k := 1) (v := 0) h3] at z
        exact z
      · have z := xo_13_k1 xs
        rw [xself (k := 1) (v := 1) h3] at z
        exact z
      · have z := xo_13_k2 xs
        rw [xself (k := 1) (v := 2) h3] at z
        exact z
      · have z := xo_13_k3 xs
        rw [xself (k := 1) (v := 3) h3] at z
        exact z
      · have z := xo_13_k4 xs
        rw [xself (k := 1) (v := 4) h3] at z
        exact z
      · have z := xo_13_k5 xs
        rw [xself (k := 1) (v := 5) h3] at z
        exact z
      · have z := xo_13_k6 xs
        rw [xself (k := 1) (v := 6) h3] at z
        exact z
      · have z := xo_13_k7 xs
        rw [xself (k := 1) (v := 7) h3] at z
        exact z
      · have z := xo_13_k8 xs
        rw [xself (k := 1) (v := 8) h3] at z
        exact z
      · have z := xo_13_k9 xs
        rw [xself (k := 1) (v := 9) h3] at z
        exact z
      · have z := xo_13_k10 xs
        rw [xself (k := 1) (v := 10) h3] at z
        exact z
      · have z := xo_13_k11 xs
        rw [xself (k := 1) (v := 11) h3] at z
        exact z
      · have z := xo_13_k12 xs
        rw [xself (k := 1) (v := 12) h3] at z
        exact z
      · have z := xo_13_k13 xs
        rw [xself (k := 1) (v := 13) h3] at z
        exact z
      · have z := xo_13_k14 xs
        rw [xself (k := 1) (v := 14) h3] at z
        exact z
      · have z := xo_13_k15 xs
        rw [xself (k := 1) (v := 15) h3] at z
        exact z
      · have z := xo_13_k16 xs
        rw [xself (k := 1) (v := 16) h3] at z
        exact z
      · have z := xo_13_k17 xs
        rw [xself (k := 1) (v := 17) h3] at z
        exact z
      · have z := xo_13_k18 xs
        rw [xself (k := 1) (v := 18) h3] at z
        exact z
      · have z := xo_13_k19 xs
        rw [xself (k := 1) (v := 19) h3] at z
        exact z
      · have z := xo_13_k20 xs
        rw [xself (k := 1) (v := 20) h3] at z
        exact z
      · have z := xo_13_k21 xs
        rw [xself (k := 1) (v := 21) h3] at z
        exact z
      · have z := xo_13_k22 xs
        rw [xself (k := 1) (v := 22) h3] at z
        exact z
      · have z := xo_13_k23 xs
        rw [xself (k := 1) (v := 23) h3] at z
        exact z
theorem xo_14 (xs : Nat → Int32) : xD xs 671 := by
  have l1 := xlo (xs 1)
  have u1 := xhi (xs 1)
  rcases xltge (xs 1).toInt 0 with h | h
  · have z := xo_14_neg xs ⟨by omega, by omega⟩
    exact z
  · rcases xltge 23 (xs 1).toInt with h2 | h2
    · have z := xo_14_big xs ⟨by omega, by omega⟩
      exact z
    · rcases (show (xs 1).toInt = 0 ∨ (xs 1).toInt = 1 ∨ (xs 1).toInt = 2 ∨ (xs 1).toInt = 3 ∨ (xs 1).toInt = 4 ∨ (xs 1).toInt = 5 ∨ (xs 1).toInt = 6 ∨ (xs 1).toInt = 7 ∨ (xs 1).toInt = 8 ∨ (xs 1).toInt = 9 ∨ (xs 1).toInt = 10 ∨ (xs 1).toInt = 11 ∨ (xs 1).toInt = 12 ∨ (xs 1).toInt = 13 ∨ (xs 1).toInt = 14 ∨ (xs 1).toInt = 15 ∨ (xs 1).toInt = 16 ∨ (xs 1).toInt = 17 ∨ (xs 1).toInt = 18 ∨ (xs 1).toInt = 19 ∨ (xs 1).toInt = 20 ∨ (xs 1).toInt = 21 ∨ (xs 1).toInt = 22 ∨ (xs 1).toInt = 23 by omega) with h3 | h3 | h3 | h3 | h3 | h3 | h3 | h3 | h3 | h3 | h3 | h3 | h3 | h3 | h3 | h3 | h3 | h3 | h3 | h3 | h3 | h3 | h3 | h3
      · have z := xo_14_k0 xs
        rw [xself (k := 1) (v := 0) h3] at z
        exact z
      · have z := xo_14_k1 xs
        rw [xself (k := 1) (v := 1) h3] at z
        exact z
      · have z := xo_14_k2 xs
        rw [xself (k := 1) (v := 2) h3] at z
        exact z
      · have z := xo_14_k3 xs
        rw [xself (k := 1) (v := 3) h3] at z
        exact z
      · have z := xo_14_k4 xs
        rw [xself (k := 1) (v := 4) h3] at z
        exact z
      · have z := xo_14_k5 xs
        rw [xself (k := 1) (v := 5) h3] at z
        exact z
      · have z := xo_14_k6 xs
        rw [xself (k := 1) (v := 6) h3] at z
        exact z
      · have z := xo_14_k7 xs
        rw [xself (k := 1) (v := 7) h3] at z
        exact z
      · have z := xo_14_k8 xs
        rw [xself (k := 1) (v := 8) h3] at z
        exact z
      · have z := xo_14_k9 xs
        rw [xself (k := 1) (v := 9) h3] at z
        exact z
      · have z := xo_14_k10 xs
        rw [xself (k := 1) (v := 10) h3] at z
        exact z
      · have z := xo_14_k11 xs
        rw [xself (k := 1) (v := 11) h3] at z
        exact z
      · have z := xo_14_k12 xs
        rw [xself (k := 1) (v := 12) h3] at z
        exact z
      · have z := xo_14_k13 xs
        rw [xself (k := 1) (v := 13) h3] at z
        exact z
      · have z := xo_14_k14 xs
        rw [xself (k := 1) (v := 14) h3] at z
        exact z
      · have z := xo_14_k15 xs
        rw [xself (k := 1) (v := 15) h3] at z
        exact z
      · have z := xo_14_k16 xs
        rw [xself (k := 1) (v := 16) h3] at z
        exact z
      · have z := xo_14_k17 xs
        rw [xself (k := 1) (v := 17) h3] at z
        exact z
      · have z := xo_14_k18 xs
        rw [xself (k := 1) (v := 18) h3] at z
        exact z
      · have z := xo_14_k19 xs
        rw [xself (k := 1) (v := 19) h3] at z
        exact z
      · have z := xo_14_k20 xs
        rw [xself (k := 1) (v := 20) h3] at z
        exact z
      · have z := xo_14_k21 xs
        rw [xself (k := 1) (v := 21) h3] at z
        exact z
      · have z := xo_14_k22 xs
        rw [xself (k := 1) (v := 22) h3] at z
        exact z
      · have z := xo_14_k23 xs
        rw [xself (k := 1) (v := 23) h3] at z
        exact z
theorem xo_15 (xs : Nat → Int32) : xD xs 695 := by
  have l1 := xlo (xs 1)
  have u1 := xhi (xs 1)
  rcases xltge (xs 1).toInt 0 with h | h
  · have z := xo_15_neg xs ⟨by omega, by omega⟩
    exact z
  · rcases xltge 23 (xs 1).toInt with h2 | h2
    · have z := xo_15_big xs ⟨by omega, by omega⟩
      exact z
    · rcases (show (xs 1).toInt = 0 ∨ (xs 1).toInt = 1 ∨ (xs 1).toInt = 2 ∨ (xs 1).toInt = 3 ∨ (xs 1).toInt = 4 ∨ (xs 1).toInt = 5 ∨ (xs 1).toInt = 6 ∨ (xs 1).toInt = 7 ∨ (xs 1).toInt = 8 ∨ (xs 1).toInt = 9 ∨ (xs 1).toInt = 10 ∨ (xs 1).toInt = 11 ∨ (xs 1).toInt = 12 ∨ (xs 1).toInt = 13 ∨ (xs 1).toInt = 14 ∨ (xs 1).toInt = 15 ∨ (xs 1).toInt = 16 ∨ (xs 1).toInt = 17 ∨ (xs 1).toInt = 18 ∨ (xs 1).toInt = 19 ∨ (xs 1).toInt = 20 ∨ (xs 1).toInt = 21 ∨ (xs 1).toInt = 22 ∨ (xs 1).toInt = 23 by omega) with h3 | h3 | h3 | h3 | h3 | h3 | h3 | h3 | h3 | h3 | h3 | h3 | h3 | h3 | h3 | h3 | h3 | h3 | h3 | h3 | h3 | h3 | h3 | h3
      · have z := xo_15_k0 xs
        rw [xself (k := 1) (v := 0) h3] at z
        exact z
      · have z := xo_15_k1 xs
        rw [xself (k := 1) (v := 1) h3] at z
        exact z
      · have z := xo_15_k2 xs
        rw [xself (k := 1) (v := 2) h3] at z
        exact z
      · have z := xo_15_k3 xs
        rw [xself (k := 1) (v := 3) h3] at z
        exact z
      · have z := xo_15_k4 xs
        rw [xself (k := 1) (v := 4) h3] at z
        exact z
      · have z := xo_15_k5 xs
        rw [xself (k := 1) (v := 5) h3] at z
        exact z
      · have z := xo_15_k6 xs
        rw [xself (k := 1) (v := 6) h3] at z
        exact z
      · have z := xo_15_k7 xs
        rw [xself (k := 1) (v := 7) h3] at z
        exact z
      · have z := xo_15_k8 xs
        rw [xself (k := 1) (v := 8) h3] at z
        exact z
      · have z := xo_15_k9 xs
        rw [xself (k := 1) (v := 9) h3] at z
        exact z
      · have z := xo_15_k10 xs
        rw [xself (k := 1) (v := 10) h3] at z
        exact z
      · have z := xo_15_k11 xs
        rw [xself (k := 1) (v := 11) h3] at z
        exact z
      · have z := xo_15_k12 xs
        rw [xself (k := 1) (v := 12) h3] at z
        exact z
      · have z := xo_15_k13 xs
        rw [xself (k := 1) (v := 13) h3] at z
        exact z
      · have z := xo_15_k14 xs
        rw [xself (k := 1) (v := 14) h3] at z
        exact z
      · have z := xo_15_k15 xs
        rw [xself (k := 1) (v := 15) h3] at z
        exact z
      · have z := xo_15_k16 xs
        rw [xself (k := 1) (v := 16) h3] at z
        exact z
      · have z := xo_15_k17 xs
        rw [xself (k := 1) (v := 17) h3] at z
        exact z
      · have z := xo_15_k18 xs
        rw [xself (k := 1) (v := 18) h3] at z
        exact z
      · have z := xo_15_k19 xs
        rw [xself (k := 1) (v := 19) h3] at z
        exact z
      · have z := xo_15_k20 xs
        rw [xself (k := 1) (v := 20) h3] at z
        exact z
      · have z := xo_15_k21 xs
        rw [xself (k := 1) (v := 21) h3] at z
        exact z
      · have z := xo_15_k22 xs
        rw [xself (k := 1) (v := 22) h3] at z
        exact z
      · have z := xo_15_k23 xs
        rw [xself (k := 1) (v := 23) h3] at z
        exact z
theorem xo_18 (xs : Nat → Int32) : xD xs 764 := by
  have l1 := xlo (xs 1)
  have u1 := xhi (xs 1)
  rcases xltge (xs 1).toInt 0 with h | h
  · have z := xo_18_neg xs ⟨by omega, by omega⟩
    exact z
  · rcases xltge 23 (xs 1).toInt with h2 | h2
    · have z := xo_18_big xs ⟨by omega, by omega⟩
      exact z
    · rcases (show (xs 1).toInt = 0 ∨ (xs 1).toInt = 1 ∨ (xs 1).toInt = 2 ∨ (xs 1).toInt = 3 ∨ (xs 1).toInt = 4 ∨ (xs 1).toInt = 5 ∨ (xs 1).toInt = 6 ∨ (xs 1).toInt = 7 ∨ (xs 1).toInt = 8 ∨ (xs 1).toInt = 9 ∨ (xs 1).toInt = 10 ∨ (xs 1).toInt = 11 ∨ (xs 1).toInt = 12 ∨ (xs 1).toInt = 13 ∨ (xs 1).toInt = 14 ∨ (xs 1).toInt = 15 ∨ (xs 1).toInt = 16 ∨ (xs 1).toInt = 17 ∨ (xs 1).toInt = 18 ∨ (xs 1).toInt = 19 ∨ (xs 1).toInt = 20 ∨ (xs 1).toInt = 21 ∨ (xs 1).toInt = 22 ∨ (xs 1).toInt = 23 by omega) with h3 | h3 | h3 | h3 | h3 | h3 | h3 | h3 | h3 | h3 | h3 | h3 | h3 | h3 | h3 | h3 | h3 | h3 | h3 | h3 | h3 | h3 | h3 | h3
      · have z := xo_18_k0 xs
        rw [xself (k := 1) (v := 0) h3] at z
        exact z
      · have z := xo_18_k1 xs
        rw [xself (k := 1) (v := 1) h3] at z
        exact z
      · have z := xo_18_k2 xs
        rw [xself (k := 1) (v := 2) h3] at z
        exact z
      · have z := xo_18_k3 xs
        rw [xself (k := 1) (v := 3) h3] at z
        exact z
      · have z := xo_18_k4 xs
        rw [xself (k := 1) (v := 4) h3] at z
        exact z
      · have z := xo_18_k5 xs
        rw [xself (k := 1) (v := 5) h3] at z
        exact z
      · have z := xo_18_k6 xs
        rw [xself (k := 1) (v := 6) h3] at z
        exact z
      · have z := xo_18_k7 xs
        rw [xself (k := 1) (v := 7) h3] at z
        exact z
      · have z := xo_18_k8 xs
        rw [xself (k := 1) (v := 8) h3] at z
        exact z
      · have z := xo_18_k9 xs
        rw [xself (k := 1) (v := 9) h3] at z
        exact z
      · have z := xo_18_k10 xs
        rw [xself (k := 1) (v := 10) h3] at z
        exact z
      · have z := xo_18_k11 xs
        rw [xself (k := 1) (v := 11) h3] at z
        exact z
      · have z := xo_18_k12 xs
        rw [xself (k := 1) (v := 12) h3] at z
        exact z
      · have z := xo_18_k13 xs
        rw [xself (k := 1) (v := 13) h3] at z
        exact z
      · have z := xo_18_k14 xs
        rw [xself (k := 1) (v := 14) h3] at z
        exact z
      · have z := xo_18_k15 xs
        rw [xself (k := 1) (v := 15) h3] at z
        exact z
      · have z := xo_18_k16 xs
        rw [xself (k := 1) (v := 16) h3] at z
        exact z
      · have z := xo_18_k17 xs
        rw [xself (k := 1) (v := 17) h3] at z
        exact z
      · have z := xo_18_k18 xs
        rw [xself (k := 1) (v := 18) h3] at z
        exact z
      · have z := xo_18_k19 xs
        rw [xself (k := 1) (v := 19) h3] at z
        exact z
      · have z := xo_18_k20 xs
        rw [xself (k := 1) (v := 20) h3] at z
        exact z
      · have z := xo_18_k21 xs
        rw [xself (k := 1) (v := 21) h3] at z
        exact z
      · have z := xo_18_k22 xs
        rw [xself (k := 1) (v := 22) h3] at z
        exact z
      · have z := xo_18_k23 xs
        rw [xself (k := 1) (v := 23) h3] at z
        exact z
theorem xo_24 (xs : Nat → Int32) : xD xs 963 := by
  have l1 := xlo (xs 1)
  have u1 := xhi (xs 1)
  rcases xltge (xs 1).toInt 0 with h | h
  · have z := xo_24_neg xs ⟨by omega, by omega⟩
    exact z
  · rcases xltge 23 (xs 1).toInt with h2 | h2
    · have z := xo_24_big xs ⟨by omega, by omega⟩
      exact z
    · rcases (show (xs 1).toInt = 0 ∨ (xs 1).toInt = 1 ∨ (xs 1).toInt = 2 ∨ (xs 1).toInt = 3 ∨ (xs 1).toInt = 4 ∨ (xs 1).toInt = 5 ∨ (xs 1).toInt = 6 ∨ (xs 1).toInt = 7 ∨ (xs 1).toInt = 8 ∨ (xs 1).toInt = 9 ∨ (xs 1).toInt = 10 ∨ (xs 1).toInt = 11 ∨ (xs 1).toInt = 12 ∨ (xs 1).toInt = 13 ∨ (xs 1).toInt = 14 ∨ (xs 1).toInt = 15 ∨ (xs 1).toInt = 16 ∨ (xs 1).toInt = 17 ∨ (xs 1).toInt = 18 ∨ (xs 1).toInt = 19 ∨ (xs 1).toInt = 20 ∨ (xs 1).toInt = 21 ∨ (xs 1).toInt = 22 ∨ (xs 1).toInt = 23 by omega) with h3 | h3 | h3 | h3 | h3 | h3 | h3 | h3 | h3 | h3 | h3 | h3 | h3 | h3 | h3 | h3 | h3 | h3 | h3 | h3 | h3 | h3 | h3 | h3
      · have z := xo_24_k0 xs
        rw [xself (k := 1) (v := 0) h3] at z
        exact z
      · have z := xo_24_k1 xs
        rw [xself (k := 1) (v := 1) h3] at z
        exact z
      · have z := xo_24_k2 xs
        rw [xself (k := 1) (v := 2) h3] at z
        exact z
      · have z := xo_24_k3 xs
        rw [xself (k := 1) (v := 3) h3] at z
        exact z
      · have z := xo_24_k4 xs
        rw [xself (k := 1) (v := 4) h3] at z
        exact z
      · have z := xo_24_k5 xs
        rw [xself (k := 1) (v := 5) h3] at z
        exact z
      · have z := xo_24_k6 xs
        rw [xself (k := 1) (v := 6) h3] at z
        exact z
      · have z := xo_24_k7 xs
        rw [xself (k := 1) (v := 7) h3] at z
        exact z
      · have z := xo_24_k8 xs
        rw [xself (k := 1) (v := 8) h3] at z
        exact z
      · have z := xo_24_k9 xs
        rw [xself (k := 1) (v := 9) h3] at z
        exact z
      · have z := xo_24_k10 xs
        rw [xself (k := 1) (v := 10) h3] at z
        exact z
      · have z := xo_24_k11 xs
        rw [xself (k := 1) (v := 11) h3] at z
        exact z
      · have z := xo_24_k12 xs
        rw [xself (k := 1) (v := 12) h3] at z
        exact z
      · have z := xo_24_k13 xs
        rw [xself (k := 1) (v := 13) h3] at z
        exact z
      · have z := xo_24_k14 xs
        rw [xself (k := 1) (v := 14) h3] at z
        exact z
      · have z := xo_24_k15 xs
        rw [xself (k := 1) (v := 15) h3] at z
        exact z
      · have z := xo_24_k16 xs
        rw [xself (k := 1) (v := 16) h3] at z
        exact z
      · have z := xo_24_k17 xs
        rw [xself (k := 1) (v := 17) h3] at z
        exact z
      · have z := xo_24_k18 xs
        rw [xself (k := 1) (v := 18) h3] at z
        exact z
      · have z := xo_24_k19 xs
        rw [xself (k := 1) (v := 19) h3] at z
        exact z
      · have z := xo_24_k20 xs
        rw [xself (k := 1) (v := 20) h3] at z
        exact z
      · have z := xo_24_k21 xs
        rw [xself (k := 1) (v := 21) h3] at z
        exact z
      · have z := xo_24_k22 xs
        rw [xself (k := 1) (v := 22) h3] at z
        exact z
      · have z := xo_24_k23 xs
        rw [xself (k := 1) (v := 23) h3] at z
        exact z
theorem xo_27 (xs : Nat → Int32) : xD xs 1012 := by
  have l1 := xlo (xs 1)
  have u1 := xhi (xs 1)
  rcases xltge (xs 1).toInt 0 with h | h
  · have z := xo_27_neg xs ⟨by omega, by omega⟩
    exact z
  · rcases xltge 23 (xs 1).toInt with h2 | h2
    · have z := xo_27_big xs ⟨by omega, by omega⟩
      exact z
    · rcases (show (xs 1).toInt = 0 ∨ (xs 1).toInt = 1 ∨ (xs 1).toInt = 2 ∨ (xs 1).toInt = 3 ∨ (xs 1).toInt = 4 ∨ (xs 1).toInt = 5 ∨ (xs 1).toInt = 6 ∨ (xs 1).toInt = 7 ∨ (xs 1).toInt = 8 ∨ (xs 1).toInt = 9 ∨ (xs 1).toInt = 10 ∨ (xs 1).toInt = 11 ∨ (xs 1).toInt = 12 ∨ (xs 1).toInt = 13 ∨ (xs 1).toInt = 14 ∨ (xs 1).toInt = 15 ∨ (xs 1).toInt = 16 ∨ (xs 1).toInt = 17 ∨ (xs 1).toInt = 18 ∨ (xs 1).toInt = 19 ∨ (xs 1).toInt = 20 ∨ (xs 1).toInt = 21 ∨ (xs 1).toInt = 22 ∨ (xs 1).toInt = 23 by omega) with h3 | h3 | h3 | h3 | h3 | h3 | h3 | h3 | h3 | h3 | h3 | h3 | h3 | h3 | h3 | h3 | h3 | h3 | h3 | h3 | h3 | h3 | h3 | h3
      · have z := xo_27_k0 xs
        rw [xself (k := 1) (v := 0) h3] at z
        exact z
      · have z := xo_27_k1 xs
        rw [xself (k := 1) (v := 1) h3] at z
        exact z
      · have z := xo_27_k2 xs
        rw [xself (k := 1) (v := 2) h3] at z
        exact z
      · have z := xo_27_k3 xs
        rw [xself (k := 1) (v := 3) h3] at z
        exact z
      · have z := xo_27_k4 xs
        rw [xself (k := 1) (v := 4) h3] at z
        exact z
      · have z := xo_27_k5 xs
        rw [xself (k := 1) (v := 5) h3] at z
        exact z
      · have z := xo_27_k6 xs
        rw [xself (k := 1) (v := 6) h3] at z
        exact z
      · have z := xo_27_k7 xs
        rw [xself (k := 1) (v := 7) h3] at z
        exact z
      · have z := xo_27_k8 xs
        rw [xself (k := 1) (v := 8) h3] at z
        exact z
      · have z := xo_27_k9 xs
        rw [xself (k := 1) (v := 9) h3] at z
        exact z
      · have z := xo_27_k10 xs
        rw [xself (k := 1) (v := 10) h3] at z
        exact z
      · have z := xo_27_k11 xs
        rw [xself (k := 1) (v := 11) h3] at z
        exact z
      · have z := xo_27_k12 xs
        rw [xself (k := 1) (v := 12) h3] at z
        exact z
      · have z := xo_27_k13 xs
        rw [xself (k := 1) (v := 13) h3] at z
        exact z
      · have z := xo_27_k14 xs
        rw [xself (k := 1) (v := 14) h3] at z
        exact z
      · have z := xo_27_k15 xs
        rw [xself (k := 1) (v := 15) h3] at z
        exact z
      · have z := xo_27_k16 xs
        rw [xself (k := 1) (v := 16) h3] at z
        exact z
      · have z := xo_27_k17 xs
        rw [xself (k := 1) (v := 17) h3] at z
        exact z
      · have z := xo_27_k18 xs
        rw [xself (k := 1) (v := 18) h3] at z
        exact z
      · have z := xo_27_k19 xs
        rw [xself (k := 1) (v := 19) h3] at z
        exact z
      · have z := xo_27_k20 xs
        rw [xself (k := 1) (v := 20) h3] at z
        exact z
      · have z := xo_27_k21 xs
        rw [xself (k := 1) (v := 21) h3] at z
        exact z
      · have z := xo_27_k22 xs
        rw [xself (k := 1) (v := 22) h3] at z
        exact z
      · have z := xo_27_k23 xs
        rw [xself (k := 1) (v := 23) h3] at z
        exact z
theorem xo_35 (xs : Nat → Int32) : xD xs 1240 := by
  have l1 := xlo (xs 1)
  have u1 := xhi (xs 1)
  rcases xltge (xs 1).toInt 0 with h | h
  · have z := xo_35_neg xs ⟨by omega, by omega⟩
    exact z
  · rcases xltge 23 (xs 1).toInt with h2 | h2
    · have z := xo_35_big xs ⟨by omega, by omega⟩
      exact z
    · rcases (show (xs 1).toInt = 0 ∨ (xs 1).toInt = 1 ∨ (xs 1).toInt = 2 ∨ (xs 1).toInt = 3 ∨ (xs 1).toInt = 4 ∨ (xs 1).toInt = 5 ∨ (xs 1).toInt = 6 ∨ (xs 1).toInt = 7 ∨ (xs 1).toInt = 8 ∨ (xs 1).toInt = 9 ∨ (xs 1).toInt = 10 ∨ (xs 1).toInt = 11 ∨ (xs 1).toInt = 12 ∨ (xs 1).toInt = 13 ∨ (xs 1).toInt = 14 ∨ (xs 1).toInt = 15 ∨ (xs 1).toInt = 16 ∨ (xs 1).toInt = 17 ∨ (xs 1).toInt = 18 ∨ (xs 1).toInt = 19 ∨ (xs 1).toInt = 20 ∨ (xs 1).toInt = 21 ∨ (xs 1).toInt = 22 ∨ (xs 1).toInt = 23 by omega) with h3 | h3 | h3 | h3 | h3 | h3 | h3 | h3 | h3 | h3 | h3 | h3 | h3 | h3 | h3 | h3 | h3 | h3 | h3 | h3 | h3 | h3 | h3 | h3
      · have z := xo_35_k0 xs
        rw [xself (k := 1) (v := 0) h3] at z
        exact z
      · have z := xo_35_k1 xs
        rw [xself (k := 1) (v := 1) h3] at z
        exact z
      · have z := xo_35_k2 xs
        rw [xself (k := 1) (v := 2) h3] at z
        exact z
      · have z := xo_35_k3 xs
        rw [xself (k := 1) (v := 3) h3] at z
        exact z
      · have z := xo_35_k4 xs
        rw [xself (k := 1) (v := 4) h3] at z
        exact z
      · have z := xo_35_k5 xs
        rw [xself (k := 1) (v := 5) h3] at z
        exact z
      · have z := xo_35_k6 xs
        rw [xself (k := 1) (v := 6) h3] at z
        exact z
      · have z := xo_35_k7 xs
        rw [xself (k := 1) (v := 7) h3] at z
        exact z
      · have z := xo_35_k8 xs
        rw [xself (k := 1) (v := 8) h3] at z
        exact z
      · have z := xo_35_k9 xs
        rw [xself (k := 1) (v := 9) h3] at z
        exact z
      · have z := xo_35_k10 xs
        rw [xself (k := 1) (v := 10) h3] at z
        exact z
      · have z := xo_35_k11 xs
        rw [xself (k := 1) (v := 11) h3] at z
        exact z
      · have z := xo_35_k12 xs
        rw [xself (k := 1) (v := 12) h3] at z
        exact z
      · have z := xo_35_k13 xs
        rw [xself (k := 1) (v := 13) h3] at z
        exact z
      · have z := xo_35_k14 xs
        rw [xself (k := 1) (v := 14) h3] at z
        exact z
      · have z := xo_35_k15 xs
        rw [xself (k := 1) (v := 15) h3] at z
        exact z
      · have z := xo_35_k16 xs
        rw [xself (k := 1) (v := 16) h3] at z
        exact z
      · have z := xo_35_k17 xs
        rw [xself (k := 1) (v := 17) h3] at z
        exact z
      · have z := xo_35_k18 xs
        rw [xself (k := 1) (v := 18) h3] at z
        exact z
      · have z := xo_35_k19 xs
        rw [xself (k := 1) (v := 19) h3] at z
        exact z
      · have z := xo_35_k20 xs
        rw [xself (k := 1) (v := 20) h3] at z
        exact z
      · have z := xo_35_k21 xs
        rw [xself (k := 1) (v := 21) h3] at z
        exact z
      · have z := xo_35_k22 xs
        rw [xself (k := 1) (v := 22) h3] at z
        exact z
      · have z := xo_35_k23 xs
        rw [xself (k := 1) (v := 23) h3] at z
        exact z
theorem xo_19 (xs : Nat → Int32) : xD xs 787 := by
  have l1 := xlo (xs 1)
  have u1 := xhi (xs 1)
  rcases xltge (xs 1).toInt 0 with h | h
  · have z := xo_19_neg xs ⟨by omega, by omega⟩
    exact z
  · rcases xltge 23 (xs 1).toInt with h2 | h2
    · have z := xo_19_big xs ⟨by omega, by omega⟩
      exact z
    · rcases (show (xs 1).toInt = 0 ∨ (xs 1).toInt = 1 ∨ (xs 1).toInt = 2 ∨ (xs 1).toInt = 3 ∨ (xs 1).toInt = 4 ∨ (xs 1).toInt = 5 ∨ (xs 1).toInt = 6 ∨ (xs 1).toInt = 7 ∨ (xs 1).toInt = 8 ∨ (xs 1).toInt = 9 ∨ (xs 1).toInt = 10 ∨ (xs 1).toInt = 11 ∨ (xs 1).toInt = 12 ∨ (xs 1).toInt = 13 ∨ (xs 1).toInt = 14 ∨ (xs 1).toInt = 15 ∨ (xs 1).toInt = 16 ∨ (xs 1).toInt = 17 ∨ (xs 1).toInt = 18 ∨ (xs 1).toInt = 19 ∨ (xs 1).toInt = 20 ∨ (xs 1).toInt = 21 ∨ (xs 1).toInt = 22 ∨ (xs 1).toInt = 23 by omega) with h3 | h3 | h3 | h3 | h3 | h3 | h3 | h3 | h3 | h3 | h3 | h3 | h3 | h3 | h3 | h3 | h3 | h3 | h3 | h3 | h3 | h3 | h3 | h3
      · have z := xo_19_k0 xs
        rw [xself (k := 1) (v := 0) h3] at z
        exact z
      · have z := xo_19_k1 xs
        rw [xself (k := 1) (v := 1) h3] at z
        exact z
      · have z := xo_19_k2 xs
        rw [xself (k := 1) (v := 2) h3] at z
        exact z
      · have z := xo_19_k3 xs
        rw [xself (k := 1) (v := 3) h3] at z
        exact z
      · have z := xo_19_k4 xs
        rw [xself (k := 1) (v := 4) h3] at z
        exact z
      · have z := xo_19_k5 xs
        rw [xself (k := 1) (v := 5) h3] at z
        exact z
      · have z := xo_19_k6 xs
        rw [xself (k := 1) (v := 6) h3] at z
        exact z
      · have z := xo_19_k7 xs
        rw [xself (k := 1) (v := 7) h3] at z
        exact z
      · have z := xo_19_k8 xs
        rw [xself (k := 1) (v := 8) h3] at z
        exact z
      · have z := xo_19_k9 xs
        rw [xself (k := 1) (v := 9) h3] at z
        exact z
      · have z := xo_19_k10 xs
        rw [xself (k := 1) (v := 10) h3] at z
        exact z
      · have z := xo_19_k11 xs
        rw [xself (k := 1) (v := 11) h3] at z
        exact z
      · have z := xo_19_k12 xs
        rw [xself (k := 1) (v := 12) h3] at z
        exact z
      · have z := xo_19_k13 xs
        rw [xself (k := 1) (v := 13) h3] at z
        exact z
      · have z := xo_19_k14 xs
        rw [xself (k := 1) (v := 14) h3] at z
        exact z
      · have z := xo_19_k15 xs
        rw [xself (k := 1) (v := 15) h3] at z
        exact z
      · have z := xo_19_k16 xs
        rw [xself (k := 1) (v := 16) h3] at z
        exact z
      · have z := xo_19_k17 xs
        rw [xself (k := 1) (v := 17) h3] at z
        exact z
      · have z := xo_19_k18 xs
        rw [xself (k := 1) (v := 18) h3] at z
        exact z
      · have z := xo_19_k19 xs
        rw [xself (k := 1) (v := 19) h3] at z
        exact z
      · have z := xo_19_k20 xs
        rw [xself (k := 1) (v := 20) h3] at z
        exact z
      · have z := xo_19_k21 xs
        rw [xself (k := 1) (v := 21) h3] at z
        exact z
      · have z := xo_19_k22 xs
        rw [xself (k := 1) (v := 22) h3] at z
        exact z
      · have z := xo_19_k23 xs
        rw [xself (k := 1) (v := 23) h3] at z
        exact z
theorem xo_20 (xs : Nat → Int32) : xD xs 820 := by
  have l1 := xlo (xs 1)
  have u1 := xhi (xs 1)
  rcases xltge (xs 1).toInt 0 with h | h
  · have z := xo_20_neg xs ⟨by omega, by omega⟩
    exact z
  · rcases xltge 23 (xs 1).toInt with h2 | h2
    · have z := xo_20_big xs ⟨by omega, by omega⟩
      exact z
    · rcases (show (xs 1).toInt = 0 ∨ (xs 1).toInt = 1 ∨ (xs 1).toInt = 2 ∨ (xs 1).toInt = 3 ∨ (xs 1).toInt = 4 ∨ (xs 1).toInt = 5 ∨ (xs 1).toInt = 6 ∨ (xs 1).toInt = 7 ∨ (xs 1).toInt = 8 ∨ (xs 1).toInt = 9 ∨ (xs 1).toInt = 10 ∨ (xs 1).toInt = 11 ∨ (xs 1).toInt = 12 ∨ (xs 1).toInt = 13 ∨ (xs 1).toInt = 14 ∨ (xs 1).toInt = 15 ∨ (xs 1).toInt = 16 ∨ (xs 1).toInt = 17 ∨ (xs 1).toInt = 18 ∨ (xs 1).toInt = 19 ∨ (xs 1).toInt = 20 ∨ (xs 1).toInt = 21 ∨ (xs 1).toInt = 22 ∨ (xs 1).toInt = 23 by omega) with h3 | h3 | h3 | h3 | h3 | h3 | h3 | h3 | h3 | h3 | h3 | h3 | h3 | h3 | h3 | h3 | h3 | h3 | h3 | h3 | h3 | h3 | h3 | h3
      · have z := xo_20_k0 xs
        rw [xself (k := 1) (v := 0) h3] at z
        exact z
      · have z := xo_20_k1 xs
        rw [xself (k := 1) (v := 1) h3] at z
        exact z
      · have z := xo_20_k2 xs
        rw [xself (k := 1) (v := 2) h3] at z
        exact z
      · have z := xo_20_k3 xs
        rw [xself (k := 1) (v := 3) h3] at z
        exact z
      · have z := xo_20_k4 xs
        rw [xself (k := 1) (v := 4) h3] at z
        exact z
      · have z := xo_20_k5 xs
        rw [xself (k := 1) (v := 5) h3] at z
        exact z
      · have z := xo_20_k6 xs
        rw [xself (k := 1) (v := 6) h3] at z
        exact z
      · have z := xo_20_k7 xs
        rw [xself (k := 1) (v := 7) h3] at z
        exact z
      · have z := xo_20_k8 xs
        rw [xself (k := 1) (v := 8) h3] at z
        exact z
      · have z := xo_20_k9 xs
        rw [xself (k := 1) (v := 9) h3] at z
        exact z
      · have z := xo_20_k10 xs
        rw [xself (k := 1) (v := 10) h3] at z
        exact z
      · have z := xo_20_k11 xs
        rw [xself (k := 1) (v := 11) h3] at z
        exact z
      · have z := xo_20_k12 xs
        rw [xself (k := 1) (v := 12) h3] at z
        exact z
      · have z := xo_20_k13 xs
        rw [xself (k := 1) (v := 13) h3] at z
        exact z
      · have z := xo_20_k14 xs
        rw [xself (k := 1) (v := 14) h3] at z
        exact z
      · have z := xo_20_k15 xs
        rw [xself (k := 1) (v := 15) h3] at z
        exact z
      · have z := xo_20_k16 xs
        rw [xself (k := 1) (v := 16) h3] at z
        exact z
      · have z := xo_20_k17 xs
        rw [xself (k := 1) (v := 17) h3] at z
        exact z
      · have z := xo_20_k18 xs
        rw [xself (k := 1) (v := 18) h3] at z
        exact z
      · have z := xo_20_k19 xs
        rw [xself (k := 1) (v := 19) h3] at z
        exact z
      · have z := xo_20_k20 xs
        rw [xself (k := 1) (v := 20) h3] at z
        exact z
      · have z := xo_20_k21 xs
        rw [xself (k := 1) (v := 21) h3] at z
        exact z
      · have z := xo_20_k22 xs
        rw [xself (k := 1) (v := 22) h3] at z
        exact z
      · have z := xo_20_k23 xs
        rw [xself (k := 1) (v := 23) h3] at z
        exact z
theorem xo_21 (xs : Nat → Int32) : xD xs 854 := by
  have l1 := xlo (xs 1)
  have u1 := xhi (xs 1)
  rcases xltge (xs 1).toInt 0 with h | h
  · have z := xo_21_neg xs ⟨by omega, by omega⟩
    exact z
  · rcases xltge 23 (xs 1).toInt with h2 | h2
    · have z := xo_21_big xs ⟨by omega, by omega⟩
      exact z
    · rcases (show (xs 1).toInt = 0 ∨ (xs 1).toInt = 1 ∨ (xs 1).toInt = 2 ∨ (xs 1).toInt = 3 ∨ (xs 1).toInt = 4 ∨ (xs 1).toInt = 5 ∨ (xs 1).toInt = 6 ∨ (xs 1).toInt = 7 ∨ (xs 1).toInt = 8 ∨ (xs 1).toInt = 9 ∨ (xs 1).toInt = 10 ∨ (xs 1).toInt = 11 ∨ (xs 1).toInt = 12 ∨ (xs 1).toInt = 13 ∨ (xs 1).toInt = 14 ∨ (xs 1).toInt = 15 ∨ (xs 1).toInt = 16 ∨ (xs 1).toInt = 17 ∨ (xs 1).toInt = 18 ∨ (xs 1).toInt = 19 ∨ (xs 1).toInt = 20 ∨ (xs 1).toInt = 21 ∨ (xs 1).toInt = 22 ∨ (xs 1).toInt = 23 by omega) with h3 | h3 | h3 | h3 | h3 | h3 | h3 | h3 | h3 | h3 | h3 | h3 | h3 | h3 | h3 | h3 | h3 | h3 | h3 | h3 | h3 | h3 | h3 | h3
      · have z := xo_21_k0 xs
        rw [xself (k := 1) (v := 0) h3] at z
        exact z
      · have z := xo_21_k1 xs
        rw [xself (k := 1) (v := 1) h3] at z
        exact z
      · have z := xo_21_k2 xs
        rw [xself (k := 1) (v := 2) h3] at z
        exact z
      · have z := xo_21_k3 xs
        rw [xself (k := 1) (v := 3) h3] at z
        exact z
      · have z := xo_21_k4 xs
        rw [xself (k := 1) (v := 4) h3] at z
        exact z
      · have z := xo_21_k5 xs
        rw [xself (k := 1) (v := 5) h3] at z
        exact z
      · have z := xo_21_k6 xs
        rw [xself (k := 1) (v := 6) h3] at z
        exact z
      · have z := xo_21_k7 xs
        rw [xself (k := 1) (v := 7) h3] at z
        exact z
      · have z := xo_21_k8 xs
        rw [xself (k := 1) (v := 8) h3] at z
        exact z
      · have z := xo_21_k9 xs
        rw [xself (k := 1) (v := 9) h3] at z
        exact z
      · have z := xo_21_k10 xs
        rw [xself (k := 1) (v := 10) h3] at z
        exact z
      · have z := xo_21_k11 xs
        rw [xself (k := 1) (v := 11) h3] at z
        exact z
      · have z := xo_21_k12 xs
        rw [xself (k := 1) (v := 12) h3] at z
        exact z
      · have z := xo_21_k13 xs
        rw [xself (k := 1) (v := 13) h3] at z
        exact z
      · have z := xo_21_k14 xs
        rw [xself (k := 1) (v := 14) h3] at z
        exact z
      · have z := xo_21_k15 xs
        rw [xself (k := 1) (v := 15) h3] at z
        exact z
      · have z := xo_21_k16 xs
        rw [xself (k := 1) (v := 16) h3] at z
        exact z
      · have z := xo_21_k17 xs
        rw [xself (k := 1) (v := 17) h3] at z
        exact z
      · have z := xo_21_k18 xs
        rw [xself (k := 1) (v := 18) h3] at z
        exact z
      · have z := xo_21_k19 xs
        rw [xself (k := 1) (v := 19) h3] at z
        exact z
      · have z := xo_21_k20 xs
        rw [xself (k := 1) (v := 20) h3] at z
        exact z
      · have z := xo_21_k21 xs
        rw [xself (k := 1) (v := 21) h3] at z
        exact z
      · have z := xo_21_k22 xs
        rw [xself (k := 1) (v := 22) h3] at z
        exact z
      · have z := xo_21_k23 xs
        rw [xself (k := 1) (v := 23) h3] at z
        exact z
theorem xo_23 (xs : Nat → Int32) : xD xs 930 := by
  have l1 := xlo (xs 1)
  have u1 := xhi (xs 1)
  rcases xltge (xs 1).toInt 0 with h | h
  · have z := xo_23_neg xs ⟨by omega, by omega⟩
    exact z
  · rcases xltge 23 (xs 1).toInt with h2 | h2
    · have z := xo_23_big xs ⟨by omega, by omega⟩
      exact z
    · rcases (show (xs 1).toInt = 0 ∨ (xs 1).toInt = 1 ∨ (xs 1).toInt = 2 ∨ (xs 1).toInt = 3 ∨ (xs 1).toInt = 4 ∨ (xs 1).toInt = 5 ∨ (xs 1).toInt = 6 ∨ (xs 1).toInt = 7 ∨ (xs 1).toInt = 8 ∨ (xs 1).toInt = 9 ∨ (xs 1).toInt = 10 ∨ (xs 1).toInt = 11 ∨ (xs 1).toInt = 12 ∨ (xs 1).toInt = 13 ∨ (xs 1).toInt = 14 ∨ (xs 1).toInt = 15 ∨ (xs 1).toInt = 16 ∨ (xs 1).toInt = 17 ∨ (xs 1).toInt = 18 ∨ (xs 1).toInt = 19 ∨ (xs 1).toInt = 20 ∨ (xs 1).toInt = 21 ∨ (xs 1).toInt = 22 ∨ (xs 1).toInt = 23 by omega) with h3 | h3 | h3 | h3 | h3 | h3 | h3 | h3 | h3 | h3 | h3 | h3 | h3 | h3 | h3 | h3 | h3 | h3 | h3 | h3 | h3 | h3 | h3 | h3
      · have z := xo_23_k0 xs
        rw [xself (k := 1) (v := 0) h3] at z
        exact z
      · have z := xo_23_k1 xs
        rw [xself (k := 1) (v := 1) h3] at z
        exact z
      · have z := xo_23_k2 xs
        rw [xself (k := 1) (v := 2) h3] at z
        exact z
      · have z := xo_23_k3 xs
        rw [xself (k := 1) (v := 3) h3] at z
        exact z
      · have z := xo_23_k4 xs
        rw [xself (k := 1) (v := 4) h3] at z
        exact z
      · have z := xo_23_k5 xs
        rw [xself (k := 1) (v := 5) h3] at z
        exact z
      · have z := xo_23_k6 xs
        rw [xself (k := 1) (v := 6) h3] at z
        exact z
      · have z := xo_23_k7 xs
        rw [xself (k := 1) (v := 7) h3] at z
        exact z
      · have z := xo_23_k8 xs
        rw [xself (k := 1) (v := 8) h3] at z
        exact z
      · have z := xo_23_k9 xs
        rw [xself (k := 1) (v := 9) h3] at z
        exact z
      · have z := xo_23_k10 xs
        rw [xself (k := 1) (v := 10) h3] at z
        exact z
      · have z := xo_23_k11 xs
        rw [xself (k := 1) (v := 11) h3] at z
        exact z
      · have z := xo_23_k12 xs
        rw [xself (k := 1) (v := 12) h3] at z
        exact z
      · have z := xo_23_k13 xs
        rw [xself (k := 1) (v := 13) h3] at z
        exact z
      · have z := xo_23_k14 xs
        rw [xself (k := 1) (v := 14) h3] at z
        exact z
      · have z := xo_23_k15 xs
        rw [xself (k := 1) (v := 15) h3] at z
        exact z
      · have z := xo_23_k16 xs
        rw [xself (k := 1) (v := 16) h3] at z
        exact z
      · have z := xo_23_k17 xs
        rw [xself (k := 1) (v := 17) h3] at z
        exact z
      · have z := xo_23_k18 xs
        rw [xself (k := 1) (v := 18) h3] at z
        exact z
      · have z := xo_23_k19 xs
        rw [xself (k := 1) (v := 19) h3] at z
        exact z
      · have z := xo_23_k20 xs
        rw [xself (k := 1) (v := 20) h3] at z
        exact z
      · have z := xo_23_k21 xs
        rw [xself (k := 1) (v := 21) h3] at z
        exact z
      · have z := xo_23_k22 xs
        rw [xself (k := 1) (v := 22) h3] at z
        exact z
      · have z := xo_23_k23 xs
        rw [xself (k := 1) (v := 23) h3] at z
        exact z
theorem xo_6 (xs : Nat → Int32) : xD xs 396 := by
  have l1 := xlo (xs 1)
  have u1 := xhi (xs 1)
  rcases xltge (xs 1).toInt 0 with h | h
  · have z := xo_6_neg xs ⟨by omega, by omega⟩
    exact z
  · rcases xltge 3 (xs 1).toInt with h2 | h2
    · have z := xo_6_big xs ⟨by omega, by omega⟩
      exact z
    · rcases (show (xs 1).toInt = 0 ∨ (xs 1).toInt = 1 ∨ (xs 1).toInt = 2 ∨ (xs 1).toInt = 3 by omega) with h3 | h3 | h3 | h3
      · have z := xo_6_k0 xs
        rw [xself (k := 1) (v := 0) h3] at z
        exact z
      · have z := xo_6_k1 xs
        rw [xself (k := 1) (v := 1) h3] at z
        exact z
      · have z := xo_6_k2 xs
        rw [xself (k := 1) (v := 2) h3] at z
        exact z
      · have z := xo_6_k3 xs
        rw [xself (k := 1) (v := 3) h3] at z
        exact z
theorem xo_16 (xs : Nat → Int32) : xD xs 718 := by
  have l1 := xlo (xs 1)
  have u1 := xhi (xs 1)
  rcases xltge (xs 1).toInt 0 with h | h
  · have z := xo_16_neg xs ⟨by omega, by omega⟩
    exact z
  · rcases xltge 4 (xs 1).toInt with h2 | h2
    · have z := xo_16_big xs ⟨by omega, by omega⟩
      exact z
    · rcases (show (xs 1).toInt = 0 ∨ (xs 1).toInt = 1 ∨ (xs 1).toInt = 2 ∨ (xs 1).toInt = 3 ∨ (xs 1).toInt = 4 by omega) with h3 | h3 | h3 | h3 | h3
      · have z := xo_16_k0 xs
        rw [xself (k := 1) (v := 0) h3] at z
        exact z
      · have z := xo_16_k1 xs
        rw [xself (k := 1) (v := 1) h3] at z
        exact z
      · have z := xo_16_k2 xs
        rw [xself (k := 1) (v := 2) h3] at z
        exact z
      · have z := xo_16_k3 xs
        rw [xself (k := 1) (v := 3) h3] at z
        exact z
      · have z := xo_16_k4 xs
        rw [xself (k := 1) (v := 4) h3] at z
        exact z
theorem xo_29 (xs : Nat → Int32) : xD xs 1058 := by
  have l1 := xlo (xs 1)
  have u1 := xhi (xs 1)
  rcases xltge (xs 1).toInt 0 with h | h
  · have z := xo_29_neg xs ⟨by omega, by omega⟩
    exact z
  · rcases xltge 7 (xs 1).toInt with h2 | h2
    · have z := xo_29_big xs ⟨by omega, by omega⟩
      exact z
    · rcases (show (xs 1).toInt = 0 ∨ (xs 1).toInt = 1 ∨ (xs 1).toInt = 2 ∨ (xs 1).toInt = 3 ∨ (xs 1).toInt = 4 ∨ (xs 1).toInt = 5 ∨ (xs 1).toInt = 6 ∨ (xs 1).toInt = 7 by omega) with h3 | h3 | h3 | h3 | h3 | h3 | h3 | h3
      · have z := xo_29_k0 xs
        rw [xself (k := 1) (v := 0) h3] at z
        exact z
      · have z := xo_29_k1 xs
        rw [xself (k := 1) (v := 1) h3] at z
        exact z
      · have z := xo_29_k2 xs
        rw [xself (k := 1) (v := 2) h3] at z
        exact z
      · have z := xo_29_k3 xs
        rw [xself (k := 1) (v := 3) h3] at z
        exact z
      · have z := xo_29_k4 xs
        rw [xself (k := 1) (v := 4) h3] at z
        exact z
      · have z := xo_29_k5 xs
        rw [xself (k := 1) (v := 5) h3] at z
        exact z
      · have z := xo_29_k6 xs
        rw [xself (k := 1) (v := 6) h3] at z
        exact z
      · have z := xo_29_k7 xs
        rw [xself (k := 1) (v := 7) h3] at z
        exact z
theorem xo_33 (xs : Nat → Int32) : xD xs 1183 := by
  have l1 := xlo (xs 1)
  have u1 := xhi (xs 1)
  rcases xltge (xs 1).toInt 0 with h | h
  · have z := xo_33_neg xs ⟨by omega, by omega⟩
    exact z
  · rcases xltge 3 (xs 1).toInt with h2 | h2
    · have z := xo_33_big xs ⟨by omega, by omega⟩
      exact z
    · rcases (show (xs 1).toInt = 0 ∨ (xs 1).toInt = 1 ∨ (xs 1).toInt = 2 ∨ (xs 1).toInt = 3 by omega) with h3 | h3 | h3 | h3
      · have z := xo_33_k0 xs
        rw [xself (k := 1) (v := 0) h3] at z
        exact z
      · have z := xo_33_k1 xs
        rw [xself (k := 1) (v := 1) h3] at z
        exact z
      · have z := xo_33_k2 xs
        rw [xself (k := 1) (v := 2) h3] at z
        exact z
      · have z := xo_33_k3 xs
        rw [xself (k := 1) (v := 3) h3] at z
        exact z
theorem xo_39 (xs : Nat → Int32) : xD xs 1313 := by
  have l1 := xlo (xs 1)
  have u1 := xhi (xs 1)
  rcases xltge (xs 1).toInt 0 with h | h
  · have z := xo_39_neg xs ⟨by omega, by omega⟩
    exact z
  · rcases xltge 8 (xs 1).toInt with h2 | h2
    · have z := xo_39_big xs ⟨by omega, by omega⟩
      exact z
    · rcases (show (xs 1).toInt = 0 ∨ (xs 1).toInt = 1 ∨ (xs 1).toInt = 2 ∨ (xs 1).toInt = 3 ∨ (xs 1).toInt = 4 ∨ (xs 1).toInt = 5 ∨ (xs 1).toInt = 6 ∨ (xs 1).toInt = 7 ∨ (xs 1).toInt = 8 by omega) with h3 | h3 | h3 | h3 | h3 | h3 | h3 | h3 | h3
      · have z := xo_39_k0 xs
        rw [xself (k := 1) (v := 0) h3] at z
        exact z
      · have z := xo_39_k1 xs
        rw [xself (k := 1) (v := 1) h3] at z
        exact z
      · have z := xo_39_k2 xs
        rw [xself (k := 1) (v := 2) h3] at z
        exact z
      · have z := xo_39_k3 xs
        rw [xself (k := 1) (v := 3) h3] at z
        exact z
      · have z := xo_39_k4 xs
        rw [xself (k := 1) (v := 4) h3] at z
        exact z
      · have z := xo_39_k5 xs
        rw [xself (k := 1) (v := 5) h3] at z
        exact z
      · have z := xo_39_k6 xs
        rw [xself (k := 1) (v := 6) h3] at z
        exact z
      · have z := xo_39_k7 xs
        rw [xself (k := 1) (v := 7) h3] at z
        exact z
      · have z := xo_39_k8 xs
        rw [xself (k := 1) (v := 8) h3] at z
        exact z
theorem xo_1 (xs : Nat → Int32) : xD xs 271 := by
  have l1 := xlo (xs 1)
  have u1 := xhi (xs 1)
  rcases xltge (xs 1).toInt 0 with h | h
  · have z := xo_1_neg xs ⟨by omega, by omega⟩
    exact z
  · rcases xltge 0 (xs 1).toInt with h2 | h2
    · have z := xo_1_big xs ⟨by omega, by omega⟩
      exact z
    · rcases (show (xs 1).toInt = 0 by omega) with h3
      · have z := xo_1_k0 xs
        rw [xself (k := 1) (v := 0) h3] at z
        exact z
theorem xo_0 (xs : Nat → Int32) : xD xs 208 := xo_0_all xs
theorem xo_25 (xs : Nat → Int32) : xD xs 986 := xo_25_all xs
theorem xo_26 (xs : Nat → Int32) : xD xs 999 := xo_26_all xs
theorem xo_36 (xs : Nat → Int32) : xD xs 1264 := xo_36_all xs
theorem xo_37 (xs : Nat → Int32) : xD xs 1277 := xo_37_all xs
theorem xo_28 (xs : Nat → Int32) : xD xs 1035 := xo_28_all xs
theorem xo_30 (xs : Nat → Int32) : xD xs 1082 := by
  have l1 := xlo (xs 1)
  have u1 := xhi (xs 1)
  have l2 := xlo (xs 2)
  have u2 := xhi (xs 2)
  have l3 := xlo (xs 3)
  have u3 := xhi (xs 3)
  have l4 := xlo (xs 4)
  have u4 := xhi (xs 4)
  rcases xltge (xs 1).toInt 0 with h | h
  · have z := xo_30_neg xs ⟨by omega, by omega⟩
    exact z
  · rcases xltge 19 (xs 1).toInt with h2 | h2
    · have z := xo_30_big xs ⟨by omega, by omega⟩
      exact z
    · have z := xo_30_mid xs ⟨by omega, by omega⟩
      exact z
theorem xo_38 (xs : Nat → Int32) : xD xs 1290 := by
  have l1 := xlo (xs 1)
  have u1 := xhi (xs 1)
  have l2 := xlo (xs 2)
  have u2 := xhi (xs 2)
  have l3 := xlo (xs 3)
  have u3 := xhi (xs 3)
  have l4 := xlo (xs 4)
  have u4 := xhi (xs 4)
  rcases xltge (xs 1).toInt 0 with h | h
  · have z := xo_38_neg xs ⟨by omega, by omega⟩
    exact z
  · have z := xo_38_pos xs ⟨by omega, by omega⟩
    exact z
theorem xo_31 (xs : Nat → Int32) : xD xs 1106 := by
  have l1 := xlo (xs 1)
  have u1 := xhi (xs 1)
  have l2 := xlo (xs 2)
  have u2 := xhi (xs 2)
  have l3 := xlo (xs 3)
  have u3 := xhi (xs 3)
  have l4 := xlo (xs 4)
  have u4 := xhi (xs 4)
  rcases xltge (xs 1).toInt 0 with h | h
  · have z := xo_31_neg xs ⟨by omega, by omega⟩
    exact z
  · rcases xltge 3 (xs 1).toInt with h2 | h2
    · have z := xo_31_big xs ⟨by omega, by omega⟩
      exact z
    · rcases (show (xs 1).toInt = 0 ∨ (xs 1).toInt = 1 ∨ (xs 1).toInt = 2 ∨ (xs 1).toInt = 3 by omega) with h3 | h3 | h3 | h3
      · rcases (show (xs 2).toInt = -1 ∨ (xs 2).toInt < -1 ∨ 0 ≤ (xs 2).toInt by omega) with h4 | h4 | h4
        · have z := xo_31_k0_m xs
          rw [xself (k := 1) (v := 0) h3] at z
          rw [xself (k := 2) (v := (-1)) h4] at z
          exact z
        · have z := xo_31_k0_n xs ⟨by omega, by omega⟩
          rw [xself (k := 1) (v := 0) h3] at z
          exact z
        · have z := xo_31_k0_p xs ⟨by omega, by omega⟩
          rw [xself (k := 1) (v := 0) h3] at z
          exact z
      · rcases (show (xs 2).toInt = -1 ∨ (xs 2).toInt < -1 ∨ 0 ≤ (xs 2).toInt by omega) with h4 | h4 | h4
        · have z := xo_31_k1_m xs
          rw [xself (k := 1) (v := 1) h3] at z
          rw [xself (k := 2) (v := (-1)) h4] at z
          exact z
        · have z := xo_31_k1_n xs ⟨by omega, by omega⟩
          rw [xself (k := 1) (v := 1) h3] at z
          exact z
        · have z := xo_31_k1_p xs ⟨by omega, by omega⟩
          rw [xself (k := 1) (v := 1) h3] at z
          exact z
      · rcases (show (xs 2).toInt = -1 ∨ (xs 2).toInt < -1 ∨ 0 ≤ (xs 2).toInt by omega) with h4 | h4 | h4
        · have z := xo_31_k2_m xs
          rw [xself (k := 1) (v := 2) h3] at z
          rw [xself (k := 2) (v := (-1)) h4] at z
          exact z
        · have z := xo_31_k2_n xs ⟨by omega, by omega⟩
          rw [xself (k := 1) (v := 2) h3] at z
          exact z
        · have z := xo_31_k2_p xs ⟨by omega, by omega⟩
          rw [xself (k := 1) (v := 2) h3] at z
          exact z
      · rcases (show (xs 2).toInt = -1 ∨ (xs 2).toInt < -1 ∨ 0 ≤ (xs 2).toInt by omega) with h4 | h4 | h4
        · have z := xo_31_k3_m xs
          rw [xself (k := 1) (v := 3) h3] at z
          rw [xself (k := 2) (v := (-1)) h4] at z
          exact z
        · have z := xo_31_k3_n xs ⟨by omega, by omega⟩
          rw [xself (k := 1) (v := 3) h3] at z
          exact z
        · have z := xo_31_k3_p xs ⟨by omega, by omega⟩
          rw [xself (k := 1) (v := 3) h3] at z
          exact z
theorem xo_34 (xs : Nat → Int32) : xD xs 1206 := by
  have l1 := xlo (xs 1)
  have u1 := xhi (xs 1)
  have l2 := xlo (xs 2)
  have u2 := xhi (xs 2)
  have l3 := xlo (xs 3)
  have u3 := xhi (xs 3)
  have l4 := xlo (xs 4)
  have u4 := xhi (xs 4)
  rcases xltge (xs 1).toInt 0 with h | h
  · have z := xo_34_neg xs ⟨by omega, by omega⟩
    exact z
  · rcases xltge 7 (xs 1).toInt with h2 | h2
    · have z := xo_34_big xs ⟨by omega, by omega⟩
      exact z
    · rcases (show (xs 1).toInt = 0 ∨ (xs 1).toInt = 1 ∨ (xs 1).toInt = 2 ∨ (xs 1).toInt = 3 ∨ (xs 1).toInt = 4 ∨ (xs 1).toInt = 5 ∨ (xs 1).toInt = 6 ∨ (xs 1).toInt = 7 by omega) with h3 | h3 | h3 | h3 | h3 | h3 | h3 | h3
      · rcases (show (xs 2).toInt = -1 ∨ (xs 2).toInt < -1 ∨ 0 ≤ (xs 2).toInt by omega) with h4 | h4 | h4
        · have z := xo_34_k0_m xs
          rw [xself (k := 1) (v := 0) h3] at z
          rw [xself (k := 2) (v := (-1)) h4] at z
          exact z
        · have z := xo_34_k0_n xs ⟨by omega, by omega⟩
          rw [xself (k := 1) (v := 0) h3] at z
          exact z
        · have z := xo_34_k0_p xs ⟨by omega, by omega⟩
          rw [xself (k := 1) (v := 0) h3] at z
          exact z
      · rcases (show (xs 2).toInt = -1 ∨ (xs 2).toInt < -1 ∨ 0 ≤ (xs 2).toInt by omega) with h4 | h4 | h4
        · have z := xo_34_k1_m xs
          rw [xself (k := 1) (v := 1) h3] at z
          rw [xself (k := 2) (v := (-1)) h4] at z
          exact z
        · have z := xo_34_k1_n xs ⟨by omega, by omega⟩
          rw [xself (k := 1) (v := 1) h3] at z
          exact z
        · have z := xo_34_k1_p xs ⟨by omega, by omega⟩
          rw [xself (k := 1) (v := 1) h3] at z
          exact z
      · rcases (show (xs 2).toInt = -1 ∨ (xs 2).toInt < -1 ∨ 0 ≤ (xs 2).toInt by omega) with h4 | h4 | h4
        · have z := xo_34_k2_m xs
          rw [xself (k := 1) (v := 2) h3] at z
          rw [xself (k := 2) (v := (-1)) h4] at z
          exact z
        · have z := xo_34_k2_n xs ⟨by omega, by omega⟩
          rw [xself (k := 1) (v := 2) h3] at z
          exact z
        · have z := xo_34_k2_p xs ⟨by omega, by omega⟩
          rw [xself (k := 1) (v := 2) h3] at z
          exact z
      · rcases (show (xs 2).toInt = -1 ∨ (xs 2).toInt < -1 ∨ 0 ≤ (xs 2).toInt by omega) with h4 | h4 | h4
        · have z := xo_34_k3_m xs
          rw [xself (k := 1) (v := 3) h3] at z
          rw [xself (k := 2) (v := (-1)) h4] at z
          exact z
        · have z := xo_34_k3_n xs ⟨by omega, by omega⟩
          rw [xself (k := 1) (v := 3) h3] at z
          exact z
        · have z := xo_34_k3_p xs ⟨by omega, by omega⟩
          rw [xself (k := 1) (v := 3) h3] at z
          exact z
      · rcases (show (xs 2).toInt = -1 ∨ (xs 2).toInt < -1 ∨ 0 ≤ (xs 2).toInt by omega) with h4 | h4 | h4
        · have z := xo_34_k4_m xs
          rw [xself (k := 1) (v := 4) h3] at z
          rw [xself (k := 2) (v := (-1)) h4] at z
          exact z
        · have z := xo_34_k4_n xs ⟨by omega, by omega⟩
          rw [xself (k := 1) (v := 4) h3] at z
          exact z
        · have z := xo_34_k4_p xs ⟨by omega, by omega⟩
          rw [xself (k := 1) (v := 4) h3] at z
          exact z
      · rcases (show (xs 2).toInt = -1 ∨ (xs 2).toInt < -1 ∨ 0 ≤ (xs 2).toInt by omega) with h4 | h4 | h4
        · have z := xo_34_k5_m xs
          rw [xself (k := 1) (v := 5) h3] at z
          rw [xself (k := 2) (v := (-1)) h4] at z
          exact z
        · have z := xo_34_k5_n xs ⟨by omega, by omega⟩
          rw [xself (k := 1) (v := 5) h3] at z
          exact z
        · have z := xo_34_k5_p xs ⟨by omega, by omega⟩
          rw [xself (k := 1) (v := 5) h3] at z
          exact z
      · rcases (show (xs 2).toInt = -1 ∨ (xs 2).toInt < -1 ∨ 0 ≤ (xs 2).toInt by omega) with h4 | h4 | h4
        · have z := xo_34_k6_m xs
          rw [xself (k := 1) (v := 6) h3] at z
          rw [xself (k := 2) (v := (-1)) h4] at z
          exact z
        · have z := xo_34_k6_n xs ⟨by omega, by omega⟩
          rw [xself (k := 1) (v := 6) h3] at z
          exact z
        · have z := xo_34_k6_p xs ⟨by omega, by omega⟩
          rw [xself (k := 1) (v := 6) h3] at z
          exact z
      · rcases (show (xs 2).toInt = -1 ∨ (xs 2).toInt < -1 ∨ 0 ≤ (xs 2).toInt by omega) with h4 | h4 | h4
        · have z := xo_34_k7_m xs
          rw [xself (k := 1) (v := 7) h3] at z
          rw [xself (k := 2) (v := (-1)) h4] at z
          exact z
        · have z := xo_34_k7_n xs ⟨by omega, by omega⟩
          rw [xself (k := 1) (v := 7) h3] at z
          exact z
        · have z := xo_34_k7_p xs ⟨by omega, by omega⟩
          rw [xself (k := 1) (v := 7) h3] at z
          exact z
theorem xo_32 (xs : Nat → Int32) : xD xs 1140 := by
  have l1 := xlo (xs 1)
  have u1 := xhi (xs 1)
  have l2 := xlo (xs 2)
  have u2 := xhi (xs 2)
  have l3 := xlo (xs 3)
  have u3 := xhi (xs 3)
  have l4 := xlo (xs 4)
  have u4 := xhi (xs 4)
  rcases xltge (xs 1).toInt 0 with h | h
  · have z := xo_32_neg xs ⟨by omega, by omega⟩
    exact z
  · rcases xltge 3 (xs 1).toInt with h2 | h2
    · have z := xo_32_big xs ⟨by omega, by omega⟩
      exact z
    · rcases xltge (xs 2).toInt 0 with h3 | h3
      · have z := xo_32_s0 xs ⟨by omega, by omega⟩ ⟨by omega, by omega⟩
        exact z
      · rcases xltge 1000 (xs 2).toInt with h4 | h4
        · have z := xo_32_s1 xs ⟨by omega, by omega⟩ ⟨by omega, by omega⟩
          exact z
        · rcases xltge 0 (xs 3).toInt with h5 | h5
          · rcases xltge 1000 (xs 3).toInt with h6 | h6
            · have z := xo_32_e1 xs ⟨by omega, by omega⟩ ⟨by omega, by omega⟩ ⟨by omega, by omega⟩
              exact z
            · rcases (show (xs 1).toInt = 0 ∨ (xs 1).toInt = 1 ∨ (xs 1).toInt = 2 ∨ (xs 1).toInt = 3 by omega) with h7 | h7 | h7 | h7
              · have z := xo_32_k0 xs ⟨by omega, by omega⟩ ⟨by omega, by omega⟩
                rw [xself (k := 1) (v := 0) h7] at z
                exact z
              · have z := xo_32_k1 xs ⟨by omega, by omega⟩ ⟨by omega, by omega⟩
                rw [xself (k := 1) (v := 1) h7] at z
                exact z
              · have z := xo_32_k2 xs ⟨by omega, by omega⟩ ⟨by omega, by omega⟩
                rw [xself (k := 1) (v := 2) h7] at z
                exact z
              · have z := xo_32_k3 xs ⟨by omega, by omega⟩ ⟨by omega, by omega⟩
                rw [xself (k := 1) (v := 3) h7] at z
                exact z
          · have z := xo_32_e0 xs ⟨by omega, by omega⟩ ⟨by omega, by omega⟩ ⟨by omega, by omega⟩
            exact z
theorem xo_22 (xs : Nat → Int32) : xD xs 877 := by
  have l1 := xlo (xs 1)
  have u1 := xhi (xs 1)
  have l2 := xlo (xs 2)
  have u2 := xhi (xs 2)
  have l3 := xlo (xs 3)
  have u3 := xhi (xs 3)
  have l4 := xlo (xs 4)
  have u4 := xhi (xs 4)
  rcases xltge (xs 1).toInt 0 with h | h
  · have z := xo_22_neg xs ⟨by omega, by omega⟩
    exact z
  · rcases xltge 3 (xs 1).toInt with h2 | h2
    · have z := xo_22_big xs ⟨by omega, by omega⟩
      exact z
    · rcases xltge 0 (xs 4).toInt with h3 | h3
      · rcases xltge 32 (xs 4).toInt with h4 | h4
        · have z := xo_22_n33 xs ⟨by omega, by omega⟩ ⟨by omega, by omega⟩
          exact z
        · rcases xltge 0 (xs 3).toInt with h5 | h5
          · by_cases hr : 65536 - (xs 4).toInt < (xs 3).toInt
            · rcases xltge 65535 (xs 3).toInt with h6 | h6
              · have z := xo_22_pB xs ⟨by omega, by omega⟩ ⟨by omega, by omega⟩ ⟨by omega, by omega⟩ hr
                exact z
              · have z := xo_22_pb xs ⟨by omega, by omega⟩ ⟨by omega, by omega⟩ ⟨by omega, by omega⟩ hr
                exact z
            · rcases (show (xs 1).toInt = 0 ∨ (xs 1).toInt = 1 ∨ (xs 1).toInt = 2 ∨ (xs 1).toInt = 3 by omega) with h7 | h7 | h7 | h7
              · have z := xo_22_k0 xs ⟨by omega, by omega⟩ ⟨by omega, by omega⟩ hr
                rw [xself (k := 1) (v := 0) h7] at z
                exact z
              · have z := xo_22_k1 xs ⟨by omega, by omega⟩ ⟨by omega, by omega⟩ hr
                rw [xself (k := 1) (v := 1) h7] at z
                exact z
              · have z := xo_22_k2 xs ⟨by omega, by omega⟩ ⟨by omega, by omega⟩ hr
                rw [xself (k := 1) (v := 2) h7] at z
                exact z
              · have z := xo_22_k3 xs ⟨by omega, by omega⟩ ⟨by omega, by omega⟩ hr
                rw [xself (k := 1) (v := 3) h7] at z
                exact z
          · have z := xo_22_p0 xs ⟨by omega, by omega⟩ ⟨by omega, by omega⟩ ⟨by omega, by omega⟩
            exact z
      · have z := xo_22_n0 xs ⟨by omega, by omega⟩ ⟨by omega, by omega⟩
        exact z
theorem xo_17 (xs : Nat → Int32) : ∃ K, xDk K xs 741 := by
  have l1 := xlo (xs 1)
  have u1 := xhi (xs 1)
  rcases xltge 0 (xs 1).toInt with h | h
  · rcases xltge 1000 (xs 1).toInt with h2 | h2
    · exact ⟨14, xo_17_big xs ⟨by omega, by omega⟩⟩
    · exact ⟨20, xo_17_mid xs ⟨by omega, by omega⟩⟩
  · exact ⟨14, xo_17_neg xs ⟨by omega, by omega⟩⟩
theorem xsw_0 (xs : Nat → Int32) (K : Nat) : ix_n (xTT 6 xs) (ix_run (xTT 6 xs) K 8) xm_law 1 (33, xLS, [.int (nI 0)], xhp0) = some (.inl (208, xLS, [], xhp0)) := iy_n_ok (iy_run_ok _ _ _) rfl
theorem xsw_1 (xs : Nat → Int32) (K : Nat) : ix_n (xTT 6 xs) (ix_run (xTT 6 xs) K 8) xm_law 1 (33, xLS, [.int (nI 1)], xhp0) = some (.inl (271, xLS, [], xhp0)) := iy_n_ok (iy_run_ok _ _ _) rfl
theorem xsw_2 (xs : Nat → Int32) (K : Nat) : ix_n (xTT 6 xs) (ix_run (xTT 6 xs) K 8) xm_law 1 (33, xLS, [.int (nI 2)], xhp0) = some (.inl (294, xLS, [], xhp0)) := iy_n_ok (iy_run_ok _ _ _) rfl
theorem xsw_3 (xs : Nat → Int32) (K : Nat) : ix_n (xTT 6 xs) (ix_run (xTT 6 xs) K 8) xm_law 1 (33, xLS, [.int (nI 3)], xhp0) = some (.inl (317, xLS, [], xhp0)) := iy_n_ok (iy_run_ok _ _ _) rfl
theorem xsw_4 (xs : Nat → Int32) (K : Nat) : ix_n (xTT 6 xs) (ix_run (xTT 6 xs) K 8) xm_law 1 (33, xLS, [.int (nI 4)], xhp0) = some (.inl (340, xLS, [], xhp0)) := iy_n_ok (iy_run_ok _ _ _) rfl
theorem xsw_5 (xs : Nat → Int32) (K : Nat) : ix_n (xTT 6 xs) (ix_run (xTT 6 xs) K 8) xm_law 1 (33, xLS, [.int (nI 5)], xhp0) = some (.inl (373, xLS, [], xhp0)) := iy_n_ok (iy_run_ok _ _ _) rfl
theorem xsw_6 (xs : Nat → Int32) (K : Nat) : ix_n (xTT 6 xs) (ix_run (xTT 6 xs) K 8) xm_law 1 (33, xLS, [.int (nI 6)], xhp0) = some (.inl (396, xLS, [], xhp0)) := iy_n_ok (iy_run_ok _ _ _) rfl
theorem xsw_7 (xs : Nat → Int32) (K : Nat) : ix_n (xTT 6 xs) (ix_run (xTT 6 xs) K 8) xm_law 1 (33, xLS, [.int (nI 7)], xhp0) = some (.inl (419, xLS, [], xhp0)) := iy_n_ok (iy_run_ok _ _ _) rfl
theorem xsw_8 (xs : Nat → Int32) (K : Nat) : ix_n (xTT 6 xs) (ix_run (xTT 6 xs) K 8) xm_law 1 (33, xLS, [.int (nI 8)], xhp0) = some (.inl (452, xLS, [], xhp0)) := iy_n_ok (iy_run_ok _ _ _) rfl
theorem xsw_9 (xs : Nat → Int32) (K : Nat) : ix_n (xTT 6 xs) (ix_run (xTT 6 xs) K 8) xm_law 1 (33, xLS, [.int (nI 9)], xhp0) = some (.inl (496, xLS, [], xhp0)) := iy_n_ok (iy_run_ok _ _ _) rfl
theorem xsw_10 (xs : Nat → Int32) (K : Nat) : ix_n (xTT 6 xs) (ix_run (xTT 6 xs) K 8) xm_law 1 (33, xLS, [.int (nI 10)], xhp0) = some (.inl (529, xLS, [], xhp0)) := iy_n_ok (iy_run_ok _ _ _) rfl
theorem xsw_11 (xs : Nat → Int32) (K : Nat) : ix_n (xTT 6 xs) (ix_run (xTT 6 xs) K 8) xm_law 1 (33, xLS, [.int (nI 11)], xhp0) = some (.inl (572, xLS, [], xhp0)) := iy_n_ok (iy_run_ok _ _ _) rfl
theorem xsw_12 (xs : Nat → Int32) (K : Nat) : ix_n (xTT 6 xs) (ix_run (xTT 6 xs) K 8) xm_law 1 (33, xLS, [.int (nI 12)], xhp0) = some (.inl (605, xLS, [], xhp0)) := iy_n_ok (iy_run_ok _ _ _) rfl
theorem xsw_13 (xs : Nat → Int32) (K : Nat) : ix_n (xTT 6 xs) (ix_run (xTT 6 xs) K 8) xm_law 1 (33, xLS, [.int (nI 13)], xhp0) = some (.inl (628, xLS, [], xhp0)) := iy_n_ok (iy_run_ok _ _ _) rfl
theorem xsw_14 (xs : Nat → Int32) (K : Nat) : ix_n (xTT 6 xs) (ix_run (xTT 6 xs) K 8) xm_law 1 (33, xLS, [.int (nI 14)], xhp0) = some (.inl (671, xLS, [], xhp0)) := iy_n_ok (iy_run_ok _ _ _) rfl
theorem xsw_15 (xs : Nat → Int32) (K : Nat) : ix_n (xTT 6 xs) (ix_run (xTT 6 xs) K 8) xm_law 1 (33, xLS, [.int (nI 15)], xhp0) = some (.inl (695, xLS, [], xhp0)) := iy_n_ok (iy_run_ok _ _ _) rfl
theorem xsw_16 (xs : Nat → Int32) (K : Nat) : ix_n (xTT 6 xs) (ix_run (xTT 6 xs) K 8) xm_law 1 (33, xLS, [.int (nI 16)], xhp0) = some (.inl (718, xLS, [], xhp0)) := iy_n_ok (iy_run_ok _ _ _) rfl
theorem xsw_17 (xs : Nat → Int32) (K : Nat) : ix_n (xTT 6 xs) (ix_run (xTT 6 xs) K 8) xm_law 1 (33, xLS, [.int (nI 17)], xhp0) = some (.inl (741, xLS, [], xhp0)) := iy_n_ok (iy_run_ok _ _ _) rfl
theorem xsw_18 (xs : Nat → Int32) (K : Nat) : ix_n (xTT 6 xs) (ix_run (xTT 6 xs) K 8) xm_law 1 (33, xLS, [.int (nI 18)], xhp0) = some (.inl (764, xLS, [], xhp0)) := iy_n_ok (iy_run_ok _ _ _) rfl
theorem xsw_19 (xs : Nat → Int32) (K : Nat) : ix_n (xTT 6 xs) (ix_run (xTT 6 xs) K 8) xm_law 1 (33, xLS, [.int (nI 19)], xhp0) = some (.inl (787, xLS, [], xhp0)) := iy_n_ok (iy_run_ok _ _ _) rfl
theorem xsw_20 (xs : Nat → Int32) (K : Nat) : ix_n (xTT 6 xs) (ix_run (xTT 6 xs) K 8) xm_law 1 (33, xLS, [.int (nI 20)], xhp0) = some (.inl (820, xLS, [], xhp0)) := iy_n_ok (iy_run_ok _ _ _) rfl
theorem xsw_21 (xs : Nat → Int32) (K : Nat) : ix_n (xTT 6 xs) (ix_run (xTT 6 xs) K 8) xm_law 1 (33, xLS, [.int (nI 21)], xhp0) = some (.inl (854, xLS, [], xhp0)) := iy_n_ok (iy_run_ok _ _ _) rfl
theorem xsw_22 (xs : Nat → Int32) (K : Nat) : ix_n (xTT 6 xs) (ix_run (xTT 6 xs) K 8) xm_law 1 (33, xLS, [.int (nI 22)], xhp0) = some (.inl (877, xLS, [], xhp0)) := iy_n_ok (iy_run_ok _ _ _) rfl
theorem xsw_23 (xs : Nat → Int32) (K : Nat) : ix_n (xTT 6 xs) (ix_run (xTT 6 xs) K 8) xm_law 1 (33, xLS, [.int (nI 23)], xhp0) = some (.inl (930, xLS, [], xhp0)) := iy_n_ok (iy_run_ok _ _ _) rfl
theorem xsw_24 (xs : Nat → Int32) (K : Nat) : ix_n (xTT 6 xs) (ix_run (xTT 6 xs) K 8) xm_law 1 (33, xLS, [.int (nI 24)], xhp0) = some (.inl (963, xLS, [], xhp0)) := iy_n_ok (iy_run_ok _ _ _) rfl
theorem xsw_25 (xs : Nat → Int32) (K : Nat) : ix_n (xTT 6 xs) (ix_run (xTT 6 xs) K 8) xm_law 1 (33, xLS, [.int (nI 25)], xhp0) = some (.inl (986, xLS, [], xhp0)) := iy_n_ok (iy_run_ok _ _ _) rfl
theorem xsw_26 (xs : Nat → Int32) (K : Nat) : ix_n (xTT 6 xs) (ix_run (xTT 6 xs) K 8) xm_law 1 (33, xLS, [.int (nI 26)], xhp0) = some (.inl (999, xLS, [], xhp0)) := iy_n_ok (iy_run_ok _ _ _) rfl
theorem xsw_27 (xs : Nat → Int32) (K : Nat) : ix_n (xTT 6 xs) (ix_run (xTT 6 xs) K 8) xm_law 1 (33, xLS, [.int (nI 27)], xhp0) = some (.inl (1012, xLS, [], xhp0)) := iy_n_ok (iy_run_ok _ _ _) rfl
theorem xsw_28 (xs : Nat → Int32) (K : Nat) : ix_n (xTT 6 xs) (ix_run (xTT 6 xs) K 8) xm_law 1 (33, xLS, [.int (nI 28)], xhp0) = some (.inl (1035, xLS, [], xhp0)) := iy_n_ok (iy_run_ok _ _ _) rfl
theorem xsw_29 (xs : Nat → Int32) (K : Nat) : ix_n (xTT 6 xs) (ix_run (xTT 6 xs) K 8) xm_law 1 (33, xLS, [.int (nI 29)], xhp0) = some (.inl (1058, xLS, [], xhp0)) := iy_n_ok (iy_run_ok _ _ _) rfl
theorem xsw_30 (xs : Nat → Int32) (K : Nat) : ix_n (xTT 6 xs) (ix_run (xTT 6 xs) K 8) xm_law 1 (33, xLS, [.int (nI 30)], xhp0) = some (.inl (1082, xLS, [], xhp0)) := iy_n_ok (iy_run_ok _ _ _) rfl
theorem xsw_31 (xs : Nat → Int32) (K : Nat) : ix_n (xTT 6 xs) (ix_run (xTT 6 xs) K 8) xm_law 1 (33, xLS, [.int (nI 31)], xhp0) = some (.inl (1106, xLS, [], xhp0)) := iy_n_ok (iy_run_ok _ _ _) rfl
theorem xsw_32 (xs : Nat → Int32) (K : Nat) : ix_n (xTT 6 xs) (ix_run (xTT 6 xs) K 8) xm_law 1 (33, xLS, [.int (nI 32)], xhp0) = some (.inl (1140, xLS, [], xhp0)) := iy_n_ok (iy_run_ok _ _ _) rfl
theorem xsw_33 (xs : Nat → Int32) (K : Nat) : ix_n (xTT 6 xs) (ix_run (xTT 6 xs) K 8) xm_law 1 (33, xLS, [.int (nI 33)], xhp0) = some (.inl (1183, xLS, [], xhp0)) := iy_n_ok (iy_run_ok _ _ _) rfl
theorem xsw_34 (xs : Nat → Int32) (K : Nat) : ix_n (xTT 6 xs) (ix_run (xTT 6 xs) K 8) xm_law 1 (33, xLS, [.int (nI 34)], xhp0) = some (.inl (1206, xLS, [], xhp0)) := iy_n_ok (iy_run_ok _ _ _) rfl
theorem xsw_35 (xs : Nat → Int32) (K : Nat) : ix_n (xTT 6 xs) (ix_run (xTT 6 xs) K 8) xm_law 1 (33, xLS, [.int (nI 35)], xhp0) = some (.inl (1240, xLS, [], xhp0)) := iy_n_ok (iy_run_ok _ _ _) rfl
theorem xsw_36 (xs : Nat → Int32) (K : Nat) : ix_n (xTT 6 xs) (ix_run (xTT 6 xs) K 8) xm_law 1 (33, xLS, [.int (nI 36)], xhp0) = some (.inl (1264, xLS, [], xhp0)) := iy_n_ok (iy_run_ok _ _ _) rfl
theorem xsw_37 (xs : Nat → Int32) (K : Nat) : ix_n (xTT 6 xs) (ix_run (xTT 6 xs) K 8) xm_law 1 (33, xLS, [.int (nI 37)], xhp0) = some (.inl (1277, xLS, [], xhp0)) := iy_n_ok (iy_run_ok _ _ _) rfl
theorem xsw_38 (xs : Nat → Int32) (K : Nat) : ix_n (xTT 6 xs) (ix_run (xTT 6 xs) K 8) xm_law 1 (33, xLS, [.int (nI 38)], xhp0) = some (.inl (1290, xLS, [], xhp0)) := iy_n_ok (iy_run_ok _ _ _) rfl
theorem xsw_39 (xs : Nat → Int32) (K : Nat) : ix_n (xTT 6 xs) (ix_run (xTT 6 xs) K 8) xm_law 1 (33, xLS, [.int (nI 39)], xhp0) = some (.inl (1313, xLS, [], xhp0)) := iy_n_ok (iy_run_ok _ _ _) rfl
theorem xsw_40 (xs : Nat → Int32) (K : Nat) : ix_n (xTT 6 xs) (ix_run (xTT 6 xs) K 8) xm_law 1 (33, xLS, [.int (nI 40)], xhp0) = some (.inl (1336, xLS, [], xhp0)) := iy_n_ok (iy_run_ok _ _ _) rfl
theorem xsw_41 (xs : Nat → Int32) (K : Nat) : ix_n (xTT 6 xs) (ix_run (xTT 6 xs) K 8) xm_law 1 (33, xLS, [.int (nI 41)], xhp0) = some (.inl (1336, xLS, [], xhp0)) := iy_n_ok (iy_run_ok _ _ _) rfl
theorem xsw_42 (xs : Nat → Int32) (K : Nat) : ix_n (xTT 6 xs) (ix_run (xTT 6 xs) K 8) xm_law 1 (33, xLS, [.int (nI 42)], xhp0) = some (.inl (1336, xLS, [], xhp0)) := iy_n_ok (iy_run_ok _ _ _) rfl
theorem xsw_43 (xs : Nat → Int32) (K : Nat) : ix_n (xTT 6 xs) (ix_run (xTT 6 xs) K 8) xm_law 1 (33, xLS, [.int (nI 43)], xhp0) = some (.inl (1336, xLS, [], xhp0)) := iy_n_ok (iy_run_ok _ _ _) rfl
theorem xsw_44 (xs : Nat → Int32) (K : Nat) : ix_n (xTT 6 xs) (ix_run (xTT 6 xs) K 8) xm_law 1 (33, xLS, [.int (nI 44)], xhp0) = some (.inl (1336, xLS, [], xhp0)) := iy_n_ok (iy_run_ok _ _ _) rfl
theorem xsw_45 (xs : Nat → Int32) (K : Nat) : ix_n (xTT 6 xs) (ix_run (xTT 6 xs) K 8) xm_law 1 (33, xLS, [.int (nI 45)], xhp0) = some (.inl (1336, xLS, [], xhp0)) := iy_n_ok (iy_run_ok _ _ _) rfl
theorem xsw_46 (xs : Nat → Int32) (K : Nat) : ix_n (xTT 6 xs) (ix_run (xTT 6 xs) K 8) xm_law 1 (33, xLS, [.int (nI 46)], xhp0) = some (.inl (1336, xLS, [], xhp0)) := iy_n_ok (iy_run_ok _ _ _) rfl
theorem xsw_47 (xs : Nat → Int32) (K : Nat) : ix_n (xTT 6 xs) (ix_run (xTT 6 xs) K 8) xm_law 1 (33, xLS, [.int (nI 47)], xhp0) = some (.inl (1336, xLS, [], xhp0)) := iy_n_ok (iy_run_ok _ _ _) rfl
theorem xsw_48 (xs : Nat → Int32) (K : Nat) : ix_n (xTT 6 xs) (ix_run (xTT 6 xs) K 8) xm_law 1 (33, xLS, [.int (nI 48)], xhp0) = some (.inl (1336, xLS, [], xhp0)) := iy_n_ok (iy_run_ok _ _ _) rfl
theorem xsw_49 (xs : Nat → Int32) (K : Nat) : ix_n (xTT 6 xs) (ix_run (xTT 6 xs) K 8) xm_law 1 (33, xLS, [.int (nI 49)], xhp0) = some (.inl (1336, xLS, [], xhp0)) := iy_n_ok (iy_run_ok _ _ _) rfl
theorem xsw_50 (xs : Nat → Int32) (K : Nat) : ix_n (xTT 6 xs) (ix_run (xTT 6 xs) K 8) xm_law 1 (33, xLS, [.int (nI 50)], xhp0) = some (.inl (1336, xLS, [], xhp0)) := iy_n_ok (iy_run_ok _ _ _) rfl
theorem xsw_51 (xs : Nat → Int32) (K : Nat) : ix_n (xTT 6 xs) (ix_run (xTT 6 xs) K 8) xm_law 1 (33, xLS, [.int (nI 51)], xhp0) = some (.inl (1336, xLS, [], xhp0)) := iy_n_ok (iy_run_ok _ _ _) rfl
theorem xsw_52 (xs : Nat → Int32) (K : Nat) : ix_n (xTT 6 xs) (ix_run (xTT 6 xs) K 8) xm_law 1 (33, xLS, [.int (nI 52)], xhp0) = some (.inl (1336, xLS, [], xhp0)) := iy_n_ok (iy_run_ok _ _ _) rfl
theorem xsw_53 (xs : Nat → Int32) (K : Nat) : ix_n (xTT 6 xs) (ix_run (xTT 6 xs) K 8) xm_law 1 (33, xLS, [.int (nI 53)], xhp0) = some (.inl (1336, xLS, [], xhp0)) := iy_n_ok (iy_run_ok _ _ _) rfl
theorem xsw_54 (xs : Nat → Int32) (K : Nat) : ix_n (xTT 6 xs) (ix_run (xTT 6 xs) K 8) xm_law 1 (33, xLS, [.int (nI 54)], xhp0) = some (.inl (1336, xLS, [], xhp0)) := iy_n_ok (iy_run_ok _ _ _) rfl
theorem xsw_55 (xs : Nat → Int32) (K : Nat) : ix_n (xTT 6 xs) (ix_run (xTT 6 xs) K 8) xm_law 1 (33, xLS, [.int (nI 55)], xhp0) = some (.inl (1336, xLS, [], xhp0)) := iy_n_ok (iy_run_ok _ _ _) rfl
theorem xsw_56 (xs : Nat → Int32) (K : Nat) : ix_n (xTT 6 xs) (ix_run (xTT 6 xs) K 8) xm_law 1 (33, xLS, [.int (nI 56)], xhp0) = some (.inl (1336, xLS, [], xhp0)) := iy_n_ok (iy_run_ok _ _ _) rfl
theorem xsw_57 (xs : Nat → Int32) (K : Nat) : ix_n (xTT 6 xs) (ix_run (xTT 6 xs) K 8) xm_law 1 (33, xLS, [.int (nI 57)], xhp0) = some (.inl (1336, xLS, [], xhp0)) := iy_n_ok (iy_run_ok _ _ _) rfl
theorem xsw_58 (xs : Nat → Int32) (K : Nat) : ix_n (xTT 6 xs) (ix_run (xTT 6 xs) K 8) xm_law 1 (33, xLS, [.int (nI 58)], xhp0) = some (.inl (1336, xLS, [], xhp0)) := iy_n_ok (iy_run_ok _ _ _) rfl
theorem xsw_59 (xs : Nat → Int32) (K : Nat) : ix_n (xTT 6 xs) (ix_run (xTT 6 xs) K 8) xm_law 1 (33, xLS, [.int (nI 59)], xhp0) = some (.inl (1336, xLS, [], xhp0)) := iy_n_ok (iy_run_ok _ _ _) rfl
theorem xsw_60 (xs : Nat → Int32) (K : Nat) : ix_n (xTT 6 xs) (ix_run (xTT 6 xs) K 8) xm_law 1 (33, xLS, [.int (nI 60)], xhp0) = some (.inl (1336, xLS, [], xhp0)) := iy_n_ok (iy_run_ok _ _ _) rfl
theorem xsw_61 (xs : Nat → Int32) (K : Nat) : ix_n (xTT 6 xs) (ix_run (xTT 6 xs) K 8) xm_law 1 (33, xLS, [.int (nI 61)], xhp0) = some (.inl (1336, xLS, [], xhp0)) := iy_n_ok (iy_run_ok _ _ _) rfl
theorem xsw_62 (xs : Nat → Int32) (K : Nat) : ix_n (xTT 6 xs) (ix_run (xTT 6 xs) K 8) xm_law 1 (33, xLS, [.int (nI 62)], xhp0) = some (.inl (1336, xLS, [], xhp0)) := iy_n_ok (iy_run_ok _ _ _) rfl
theorem xsw_63 (xs : Nat → Int32) (K : Nat) : ix_n (xTT 6 xs) (ix_run (xTT 6 xs) K 8) xm_law 1 (33, xLS, [.int (nI 63)], xhp0) = some (.inl (1336, xLS, [], xhp0)) := iy_n_ok (iy_run_ok _ _ _) rfl
theorem xgo1 {xs : Nat → Int32} {K j pc : Nat} (hj : xs 0 &&& 63 = nI j) (hs : ix_n (xTT 6 xs) (ix_run (xTT 6 xs) K 8) xm_law 1 (33, xLS, [.int (nI j)], xhp0) = some (.inl (pc, xLS, [], xhp0))) (h : xDk K xs pc) : xGoodK K 6 xs (16, xls0, [], xhp0) := by
  obtain ⟨N, hp, h1, h2, h3⟩ := h
  have hp1 := xpreK xs K
  rw [hj] at hp1
  exact ⟨13 + (1 + N), hp, by omega, (h2.step 1 hs).step 13 hp1, h3⟩
theorem xlong (xs : Nat → Int32) : ∃ K, xGoodK K 6 xs (16, xls0, [], xhp0) := by
  obtain ⟨j, hj, he⟩ := pk_andE (xs 0) (m := 63) 6 (by decide)
  have hj : j < 64 := hj
  rcases Nat.lt_or_ge j 32 with hl | hl
  · rcases (show j = 0 ∨ j = 1 ∨ j = 2 ∨ j = 3 ∨ j = 4 ∨ j = 5 ∨ j = 6 ∨ j = 7 ∨ j = 8 ∨ j = 9 ∨ j = 10 ∨ j = 11 ∨ j = 12 ∨ j = 13 ∨ j = 14 ∨ j = 15 ∨ j = 16 ∨ j = 17 ∨ j = 18 ∨ j = 19 ∨ j = 20 ∨ j = 21 ∨ j = 22 ∨ j = 23 ∨ j = 24 ∨ j = 25 ∨ j = 26 ∨ j = 27 ∨ j = 28 ∨ j = 29 ∨ j = 30 ∨ j = 31 by omega) with rfl | rfl | rfl | rfl | rfl | rfl | rfl | rfl | rfl | rfl | rfl | rfl | rfl | rfl | rfl | rfl | rfl | rfl | rfl | rfl | rfl | rfl | rfl | rfl | rfl | rfl | rfl | rfl | rfl | rfl | rfl | rfl
    · exact ⟨14, xgo1 he (xsw_0 xs 14) (xo_0 xs)⟩
    · exact ⟨14, xgo1 he (xsw_1 xs 14) (xo_1 xs)⟩
    · exact ⟨14, xgo1 he (xsw_2 xs 14) (xo_2 xs)⟩
    · exact ⟨14, xgo1 he (xsw_3 xs 14) (xo_3 xs)⟩
    · exact ⟨14, xgo1 he (xsw_4 xs 14) (xo_4 xs)⟩
    · exact ⟨14, xgo1 he (xsw_5 xs 14) (xo_5 xs)⟩
    · exact ⟨14, xgo1 he (xsw_6 xs 14) (xo_6 xs)⟩
    · exact ⟨14, xgo1 he (xsw_7 xs 14) (xo_7 xs)⟩
    · exact ⟨14, xgo1 he (xsw_8 xs 14) (xo_8 xs)⟩
    · exact ⟨14, xgo1 he (xsw_9 xs 14) (xo_9 xs)⟩
    · exact ⟨14, xgo1 he (xsw_10 xs 14) (xo_10 xs)⟩
    · exact ⟨14, xgo1 he (xsw_11 xs 14) (xo_11 xs)⟩
    · exact ⟨14, xgo1 he (xsw_12 xs 14) (xo_12 xs)⟩
    · exact ⟨14, xgo1 he (xsw_13 xs 14) (xo_13 xs)⟩
    · exact ⟨14, xgo1 he (xsw_14 xs 14) (xo_14 xs)⟩
    · exact ⟨14, xgo1 he (xsw_15 xs 14) (xo_15 xs)⟩
    · exact ⟨14, xgo1 he (xsw_16 xs 14) (xo_16 xs)⟩
    · obtain ⟨K, z⟩ := xo_17 xs
      exact ⟨K, xgo1 he (xsw_17 xs K) z⟩
    · exact ⟨14, xgo1 he (xsw_18 xs 14) (xo_18 xs)⟩
    · exact ⟨14, xgo1 he (xsw_19 xs 14) (xo_19 xs)⟩
    · exact ⟨14, xgo1 he (xsw_20 xs 14) (xo_20 xs)⟩
    · exact ⟨14, xgo1 he (xsw_21 xs 14) (xo_21 xs)⟩
    · exact ⟨14, xgo1 he (xsw_22 xs 14) (xo_22 xs)⟩
    · exact ⟨14, xgo1 he (xsw_23 xs 14) (xo_23 xs)⟩
    · exact ⟨14, xgo1 he (xsw_24 xs 14) (xo_24 xs)⟩
    · exact ⟨14, xgo1 he (xsw_25 xs 14) (xo_25 xs)⟩
    · exact ⟨14, xgo1 he (xsw_26 xs 14) (xo_26 xs)⟩
    · exact ⟨14, xgo1 he (xsw_27 xs 14) (xo_27 xs)⟩
    · exact ⟨14, xgo1 he (xsw_28 xs 14) (xo_28 xs)⟩
    · exact ⟨14, xgo1 he (xsw_29 xs 14) (xo_29 xs)⟩
    · exact ⟨14, xgo1 he (xsw_30 xs 14) (xo_30 xs)⟩
    · exact ⟨14, xgo1 he (xsw_31 xs 14) (xo_31 xs)⟩
  · rcases (show j = 32 ∨ j = 33 ∨ j = 34 ∨ j = 35 ∨ j = 36 ∨ j = 37 ∨ j = 38 ∨ j = 39 ∨ j = 40 ∨ j = 41 ∨ j = 42 ∨ j = 43 ∨ j = 44 ∨ j = 45 ∨ j = 46 ∨ j = 47 ∨ j = 48 ∨ j = 49 ∨ j = 50 ∨ j = 51 ∨ j = 52 ∨ j = 53 ∨ j = 54 ∨ j = 55 ∨ j = 56 ∨ j = 57 ∨ j = 58 ∨ j = 59 ∨ j = 60 ∨ j = 61 ∨ j = 62 ∨ j = 63 by omega) with rfl | rfl | rfl | rfl | rfl | rfl | rfl | rfl | rfl | rfl | rfl | rfl | rfl | rfl | rfl | rfl | rfl | rfl | rfl | rfl | rfl | rfl | rfl | rfl | rfl | rfl | rfl | rfl | rfl | rfl | rfl | rfl
    · exact ⟨14, xgo1 he (xsw_32 xs 14) (xo_32 xs)⟩
    · exact ⟨14, xgo1 he (xsw_33 xs 14) (xo_33 xs)⟩
    · exact ⟨14, xgo1 he (xsw_34 xs 14) (xo_34 xs)⟩
    · exact ⟨14, xgo1 he (xsw_35 xs 14) (xo_35 xs)⟩
    · exact ⟨14, xgo1 he (xsw_36 xs 14) (xo_36 xs)⟩
    · exact ⟨14, xgo1 he (xsw_37 xs 14) (xo_37 xs)⟩
    · exact ⟨14, xgo1 he (xsw_38 xs 14) (xo_38 xs)⟩
    · exact ⟨14, xgo1 he (xsw_39 xs 14) (xo_39 xs)⟩
    · exact ⟨14, xgo1 he (xsw_40 xs 14) (xdef xs)⟩
    · exact ⟨14, xgo1 he (xsw_41 xs 14) (xdef xs)⟩
    · exact ⟨14, xgo1 he (xsw_42 xs 14) (xdef xs)⟩
    · exact ⟨14, xgo1 he (xsw_43 xs 14) (xdef xs)⟩
    · exact ⟨14, xgo1 he (xsw_44 xs 14) (xdef xs)⟩
    · exact ⟨14, xgo1 he (xsw_45 xs 14) (xdef xs)⟩
    · exact ⟨14, xgo1 he (xsw_46 xs 14) (xdef xs)⟩
    · exact ⟨14, xgo1 he (xsw_47 xs 14) (xdef xs)⟩
    · exact ⟨14, xgo1 he (xsw_48 xs 14) (xdef xs)⟩
    · exact ⟨14, xgo1 he (xsw_49 xs 14) (xdef xs)⟩
    · exact ⟨14, xgo1 he (xsw_50 xs 14) (xdef xs)⟩
    · exact ⟨14, xgo1 he (xsw_51 xs 14) (xdef xs)⟩
    · exact ⟨14, xgo1 he (xsw_52 xs 14) (xdef xs)⟩
    · exact ⟨14, xgo1 he (xsw_53 xs 14) (xdef xs)⟩
    · exact ⟨14, xgo1 he (xsw_54 xs 14) (xdef xs)⟩
    · exact ⟨14, xgo1 he (xsw_55 xs 14) (xdef xs)⟩
    · exact ⟨14, xgo1 he (xsw_56 xs 14) (xdef xs)⟩
    · exact ⟨14, xgo1 he (xsw_57 xs 14) (xdef xs)⟩
    · exact ⟨14, xgo1 he (xsw_58 xs 14) (xdef xs)⟩
    · exact ⟨14, xgo1 he (xsw_59 xs 14) (xdef xs)⟩
    · exact ⟨14, xgo1 he (xsw_60 xs 14) (xdef xs)⟩
    · exact ⟨14, xgo1 he (xsw_61 xs 14) (xdef xs)⟩
    · exact ⟨14, xgo1 he (xsw_62 xs 14) (xdef xs)⟩
    · exact ⟨14, xgo1 he (xsw_63 xs 14) (xdef xs)⟩
