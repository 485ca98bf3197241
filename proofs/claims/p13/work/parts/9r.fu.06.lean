section
theorem ryx0 {f : Int → Int} {y n s p0 p1 w0 w1 a0 a1 l0 l1 u pk by_ : Int} : (ptn (ptn (ptn (ptn (ptn (ptn (ptn (ptn (ptn (ptn (ptn (ptn (ptn (ptn (ptn f y 1 n) (y + 1) 1 s) (y + 2) 2 p0) (y + 4) 2 p1) (y + 6) 2 w0) (y + 8) 2 w1) (y + 10) 4 (a0 / 4294967296)) (y + 14) 4 a0) (y + 18) 4 (a1 / 4294967296)) (y + 22) 4 a1) (y + 26) 4 l0) (y + 30) 4 l1) (y + 34) 4 u) (y + 38) 4 pk) (y + 42) 4 by_) = xrF f y (xrB n s p0 p1 w0 w1 a0 a1 l0 l1 u pk by_) := by
  funext z
  by_cases q : y ≤ z ∧ z < y + 46
  · have hR : xrF f y (xrB n s p0 p1 w0 w1 a0 a1 l0 l1 u pk by_) z = xrB n s p0 p1 w0 w1 a0 a1 l0 l1 u pk by_ (z - y) := if_pos q
    rw [hR]
    unfold xrB
    rcases (show (y + 0 ≤ z ∧ z < y + 1) ∨ (y + 1 ≤ z ∧ z < y + 2) ∨ (y + 2 ≤ z ∧ z < y + 4) ∨ (y + 4 ≤ z ∧ z < y + 6) ∨ (y + 6 ≤ z ∧ z < y + 8) ∨ (y + 8 ≤ z ∧ z < y + 10) ∨ (y + 10 ≤ z ∧ z < y + 18) ∨ (y + 18 ≤ z ∧ z < y + 26) ∨ (y + 26 ≤ z ∧ z < y + 30) ∨ (y + 30 ≤ z ∧ z < y + 34) ∨ (y + 34 ≤ z ∧ z < y + 38) ∨ (y + 38 ≤ z ∧ z < y + 42) ∨ (y + 42 ≤ z ∧ z < y + 46) by omega) with c | c | c | c | c | c | c | c | c | c | c | c | c
    · rw [if_pos (show z - y = 0 by omega)]
      rw [ptn_out (by omega), ptn_out (by omega), ptn_out (by omega), ptn_out (by omega), ptn_out (by omega), ptn_out (by omega), ptn_out (by omega), ptn_out (by omega), ptn_out (by omega), ptn_out (by omega), ptn_out (by omega), ptn_out (by omega), ptn_out (by omega), ptn_out (by omega), ptn_in (by omega)]
      rw [show y + 1 - 1 - z = 0 by omega]
      rfl
    · rw [if_neg (show ¬ z - y = 0 by omega), if_pos (show z - y = 1 by omega)]
      rw [ptn_out (by omega), ptn_out (by omega), ptn_out (by omega), ptn_out (by omega), ptn_out (by omega), ptn_out (by omega), ptn_out (by omega), ptn_out (by omega), ptn_out (by omega), ptn_out (by omega), ptn_out (by omega), ptn_out (by omega), ptn_out (by omega), ptn_in (by omega)]
      rw [show y + 1 + 1 - 1 - z = 0 by omega]
      rfl
    · rw [if_neg (show ¬ z - y = 0 by omega), if_neg (show ¬ z - y = 1 by omega), if_pos (show z - y < 4 by omega)]
      rw [ptn_out (by omega), ptn_out (by omega), ptn_out (by omega), ptn_out (by omega), ptn_out (by omega), ptn_out (by omega), ptn_out (by omega), ptn_out (by omega), ptn_out (by omega), ptn_out (by omega), ptn_out (by omega), ptn_out (by omega), ptn_in (by omega)]
      congr 1
      omega
    · rw [if_neg (show ¬ z - y = 0 by omega), if_neg (show ¬ z - y = 1 by omega), if_neg (show ¬ z - y < 4 by omega), if_pos (show z - y < 6 by omega)]
      rw [ptn_out (by omega), ptn_out (by omega), ptn_out (by omega), ptn_out (by omega), ptn_out (by omega), ptn_out (by omega), ptn_out (by omega), ptn_out (by omega), ptn_out (by omega), ptn_out (by omega), ptn_out (by omega), ptn_in (by omega)]
      congr 1
      omega
    · rw [if_neg (show ¬ z - y = 0 by omega), if_neg (show ¬ z - y = 1 by omega), if_neg (show ¬ z - y < 4 by omega), if_neg (show ¬ z - y < 6 by omega), if_pos (show z - y < 8 by omega)]
      rw [ptn_out (by omega), ptn_out (by omega), ptn_out (by omega), ptn_out (by omega), ptn_out (by omega), ptn_out (by omega), ptn_out (by omega), ptn_out (by omega), ptn_out (by omega), ptn_out (by omega), ptn_in (by omega)]
      congr 1
      omega
    · rw [if_neg (show ¬ z - y = 0 by omega), if_neg (show ¬ z - y = 1 by omega), if_neg (show ¬ z - y < 4 by omega), if_neg (show ¬ z - y < 6 by omega), if_neg (show ¬ z - y < 8 by omega), if_pos (show z - y < 10 by omega)]
      rw [ptn_out (by omega), ptn_out (by omega), ptn_out (by omega), ptn_out (by omega), ptn_out (by omega), ptn_out (by omega), ptn_out (by omega), ptn_out (by omega), ptn_out (by omega), ptn_in (by omega)]
      congr 1
      omega
    · rw [if_neg (show ¬ z - y = 0 by omega), if_neg (show ¬ z - y = 1 by omega), if_neg (show ¬ z - y < 4 by omega), if_neg (show ¬ z - y < 6 by omega), if_neg (show ¬ z - y < 8 by omega), if_neg (show ¬ z - y < 10 by omega), if_pos (show z - y < 18 by omega)]
      by_cases d : z < y + 14
      · rw [ptn_out (by omega), ptn_out (by omega), ptn_out (by omega), ptn_out (by omega), ptn_out (by omega), ptn_out (by omega), ptn_out (by omega), ptn_out (by omega), ptn_in (by omega), bt_hi (by omega)]
        congr 1
        omega
      · rw [ptn_out (by omega), ptn_out (by omega), ptn_out (by omega), ptn_out (by omega), ptn_out (by omega), ptn_out (by omega), ptn_out (by omega), ptn_in (by omega)]
        congr 1
        omega
    · rw [if_neg (show ¬ z - y = 0 by omega), if_neg (show ¬ z - y = 1 by omega), if_neg (show ¬ z - y < 4 by omega), if_neg (show ¬ z - y < 6 by omega), if_neg (show ¬ z - y < 8 by omega), if_neg (show ¬ z - y < 10 by omega), if_neg (show ¬ z - y < 18 by omega), if_pos (show z - y < 26 by omega)]
      by_cases d : z < y + 22
      · rw [ptn_out (by omega), ptn_out (by omega), ptn_out (by omega), ptn_out (by omega), ptn_out (by omega), ptn_out (by omega), ptn_in (by omega), bt_hi (by omega)]
        congr 1
        omega
      · rw [ptn_out (by omega), ptn_out (by omega), ptn_out (by omega), ptn_out (by omega), ptn_out (by omega), ptn_in (by omega)]
        congr 1
        omega
    · rw [if_neg (show ¬ z - y = 0 by omega), if_neg (show ¬ z - y = 1 by omega), if_neg (show ¬ z - y < 4 by omega), if_neg (show ¬ z - y < 6 by omega), if_neg (show ¬ z - y < 8 by omega), if_neg (show ¬ z - y < 10 by omega), if_neg (show ¬ z - y < 18 by omega), if_neg (show ¬ z - y < 26 by omega), if_pos (show z - y < 30 by omega)]
      rw [ptn_out (by omega), ptn_out (by omega), ptn_out (by omega), ptn_out (by omega), ptn_in (by omega)]
      congr 1
      omega
    · rw [if_neg (show ¬ z - y = 0 by omega), if_neg (show ¬ z - y = 1 by omega), if_neg (show ¬ z - y < 4 by omega), if_neg (show ¬ z - y < 6 by omega), if_neg (show ¬ z - y < 8 by omega), if_neg (show ¬ z - y < 10 by omega), if_neg (show ¬ z - y < 18 by omega), if_neg (show ¬ z - y < 26 by omega), if_neg (show ¬ z - y < 30 by omega), if_pos (show z - y < 34 by omega)]
      rw [ptn_out (by omega), ptn_out (by omega), ptn_out (by omega), ptn_in (by omega)]
      congr 1
      omega
    · rw [if_neg (show ¬ z - y = 0 by omega), if_neg (show ¬ z - y = 1 by omega), if_neg (show ¬ z - y < 4 by omega), if_neg (show ¬ z - y < 6 by omega), if_neg (show ¬ z - y < 8 by omega), if_neg (show ¬ z - y < 10 by omega), if_neg (show ¬ z - y < 18 by omega), if_neg (show ¬ z - y < 26 by omega), if_neg (show ¬ z - y < 30 by omega), if_neg (show ¬ z - y < 34 by omega), if_pos (show z - y < 38 by omega)]
      rw [ptn_out (by omega), ptn_out (by omega), ptn_in (by omega)]
      congr 1
      omega
    · rw [if_neg (show ¬ z - y = 0 by omega), if_neg (show ¬ z - y = 1 by omega), if_neg (show ¬ z - y < 4 by omega), if_neg (show ¬ z - y < 6 by omega), if_neg (show ¬ z - y < 8 by omega), if_neg (show ¬ z - y < 10 by omega), if_neg (show ¬ z - y < 18 by omega), if_neg (show ¬ z - y < 26 by omega), if_neg (show ¬ z - y < 30 by omega), if_neg (show ¬ z - y < 34 by omega), if_neg (show ¬ z - y < 38 by omega), if_pos (show z - y < 42 by omega)]
      rw [ptn_out (by omega), ptn_in (by omega)]
      congr 1
      omega
    · rw [if_neg (show ¬ z - y = 0 by omega), if_neg (show ¬ z - y = 1 by omega), if_neg (show ¬ z - y < 4 by omega), if_neg (show ¬ z - y < 6 by omega), if_neg (show ¬ z - y < 8 by omega), if_neg (show ¬ z - y < 10 by omega), if_neg (show ¬ z - y < 18 by omega), if_neg (show ¬ z - y < 26 by omega), if_neg (show ¬ z - y < 30 by omega), if_neg (show ¬ z - y < 34 by omega), if_neg (show ¬ z - y < 38 by omega), if_neg (show ¬ z - y < 42 by omega)]
      rw [ptn_in (by omega)]
      congr 1
      omega
  · rw [ptn_out (by omega), ptn_out (by omega), ptn_out (by omega), ptn_out (by omega), ptn_out (by omega), ptn_out (by omega), ptn_out (by omega), ptn_out (by omega), ptn_out (by omega), ptn_out (by omega), ptn_out (by omega), ptn_out (by omega), ptn_out (by omega), ptn_out (by omega), ptn_out (by omega)]
    exact (if_neg q).symm
theorem ryx {f : Int → Int} {y n s p0 p1 w0 w1 a0 a1 l0 l1 u pk by_ : Int} : lyE (ptn (ptn (ry1 (ly0 f y n s) y p0 p1 w0 w1 a0 a1) (y + 26) 4 l0) (y + 30) 4 l1) y u pk by_ = xrF f y (xrB n s p0 p1 w0 w1 a0 a1 l0 l1 u pk by_) := ryx0
theorem lyx {f : Int → Int} {y n s u pk by_ : Int} {p w a l : Int → Int} : lyE (lyI (ly0 f y n s) y p w a l 2) y u pk by_ = xrF f y (xrB n s (p 0) (p 1) (w 0) (w 1) (a 0) (a 1) (l 0) (l 1) u pk by_) := by
  rw [← lyx0]
  show lyE (lyS (lyS (ly0 f y n s) y (p (0 : Nat)) (w (0 : Nat)) (a (0 : Nat)) (l (0 : Nat)) (0 : Nat)) y (p (1 : Nat)) (w (1 : Nat)) (a (1 : Nat)) (l (1 : Nat)) (1 : Nat)) y u pk by_ = _
  unfold lyE lyS ly0
  rw [show y + 2 + 2 * ((0 : Nat) : Int) = y + 2 by omega, show y + 6 + 2 * ((0 : Nat) : Int) = y + 6 by omega, show y + 10 + 8 * ((0 : Nat) : Int) = y + 10 by omega, show y + 26 + 4 * ((0 : Nat) : Int) = y + 26 by omega, show y + 2 + 2 * ((1 : Nat) : Int) = y + 4 by omega, show y + 6 + 2 * ((1 : Nat) : Int) = y + 8 by omega, show y + 10 + 8 * ((1 : Nat) : Int) = y + 18 by omega, show y + 26 + 4 * ((1 : Nat) : Int) = y + 30 by omega]
  rfl
end
section
/-! ===== the class: export ===== -/
theorem tpb {M : jm} (h : CI M) (i : Int) : 0 ≤ M 1 i ∧ M 1 i ≤ 255 := CI.r h (show kd 1 = 43 from rfl) (by decide) i
theorem PN.pt {T M : jm} {c : Nat} {y n v : Int} (h : PN T M c y n v n 1600) (h0 : 0 ≤ y ∧ y + n ≤ 1600) : M c = ptn (T c) y n v := by
  funext k
  rw [h.1 k]
  unfold pnf ptn
  by_cases q : y ≤ k ∧ k < y + n
  · rw [if_pos (by omega), if_pos q]
  · rw [if_neg (by omega), if_neg q]
end
