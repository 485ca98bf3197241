section
noncomputable def kc_44 (a : Nat) : Bool := decide (a < 598 ∧ xsh a = (109, 12)) && (decide (xfx a 5 = some (a + 7) ∧ kd (a + 7) = 45))
noncomputable def kc_45 (a : Nat) : Bool := decide (a < 598 ∧ xsh a = (0, 16))
noncomputable def kc_46 (a : Nat) : Bool := decide (a < 598 ∧ xsh a = (0, 0))
noncomputable def kc_47 (a : Nat) : Bool := decide (a < 598 ∧ xsh a = (110, 7)) && (decide (xfx a 0 = some (a + 1) ∧ kd (a + 1) = 51) && (decide (xfx a 1 = some (a + 2) ∧ kd (a + 2) = 48) && (decide (xfx a 5 = some (a + 3) ∧ kd (a + 3) = 50) && (decide (xfx a 6 = some (a + 4) ∧ kd (a + 4) = 49)))))
noncomputable def kc_48 (a : Nat) : Bool := decide (a < 598 ∧ xsh a = (0, 932))
noncomputable def kc_49 (a : Nat) : Bool := decide (a < 598 ∧ xsh a = (0, 16))
noncomputable def kc_50 (a : Nat) : Bool := decide (a < 598 ∧ xsh a = (0, 16))
noncomputable def kc_51 (a : Nat) : Bool := decide (a < 598 ∧ xsh a = (0, 932))
noncomputable def kc_52 (a : Nat) : Bool := decide (a < 598 ∧ xsh a = (111, 4)) && (decide (xfx a 2 = some (a + 1) ∧ kd (a + 1) = 54) && (decide (xfx a 3 = some (a + 2) ∧ kd (a + 2) = 53)))
noncomputable def kc_53 (a : Nat) : Bool := decide (a < 598 ∧ xsh a = (1, 440))
noncomputable def kc_54 (a : Nat) : Bool := decide (a < 598 ∧ xsh a = (1, 40))
noncomputable def kc (k a : Nat) : Bool := bif Nat.blt k 28 then (bif Nat.blt k 14 then (bif Nat.blt k 7 then (bif Nat.blt k 4 then (bif Nat.blt k 2 then (bif Nat.beq k 1 then kc_1 a else true) else (bif Nat.blt k 3 then (bif Nat.beq k 2 then kc_2 a else true) else (bif Nat.beq k 3 then kc_3 a else true))) else (bif Nat.blt k 5 then (bif Nat.beq k 4 then kc_4 a else true) else (bif Nat.blt k 6 then (bif Nat.beq k 5 then kc_5 a else true) else (bif Nat.beq k 6 then kc_6 a else true)))) else (bif Nat.blt k 10 then (bif Nat.blt k 8 then (bif Nat.beq k 7 then kc_7 a else true) else (bif Nat.blt k 9 then (bif Nat.beq k 8 then kc_8 a else true) else (bif Nat.beq k 9 then kc_9 a else true))) else (bif Nat.blt k 12 then (bif Nat.blt k 11 then (bif Nat.beq k 10 then kc_10 a else true) else (bif Nat.beq k 11 then kc_11 a else true)) else (bif Nat.blt k 13 then (bif Nat.beq k 12 then kc_12 a else true) else (bif Nat.beq k 13 then kc_13 a else true))))) else (bif Nat.blt k 21 then (bif Nat.blt k 17 then (bif Nat.blt k 15 then (bif Nat.beq k 14 then kc_14 a else true) else (bif Nat.blt k 16 then (bif Nat.beq k 15 then kc_15 a else true) else (bif Nat.beq k 16 then kc_16 a else true))) else (bif Nat.blt k 19 then (bif Nat.blt k 18 then (bif Nat.beq k 17 then kc_17 a else true) else (bif Nat.beq k 18 then kc_18 a else true)) else (bif Nat.blt k 20 then (bif Nat.beq k 19 then kc_19 a else true) else (bif Nat.beq k 20 then kc_20 a else true)))) else (bif Nat.blt k 24 then (bif Nat.blt k 22 then (bif Nat.beq k 21 then kc_21 a else true) else (bif Nat.blt k 23 then (bif Nat.beq k 22 then kc_22 a else true) else (bif Nat.beq k 23 then kc_23 a else true))) else (bif Nat.blt k 26 then (bif Nat.blt k 25 then (bif Nat.beq k 24 then kc_24 a else true) else (bif Nat.beq k 25 then kc_25 a else true)) else (bif Nat.blt k 27 then (bif Nat.beq k 26 then kc_26 a else true) else (bif Nat.beq k 27 then kc_27 a else true)))))) else (bif Nat.blt k 41 then (bif Nat.blt k 34 then (bif Nat.blt k 31 then (bif Nat.blt k 29 then (bif Nat.beq k 28 then kc_28 a else true) else (bif Nat.blt k 30 then (bif Nat.beq k 29 then kc_29 a else true) else (bif Nat.beq k 30 then kc_30 a else true))) else (bif Nat.blt k 32 then (bif Nat.beq k 31 then kc_31 a else true) else (bif Nat.blt k 33 then (bif Nat.beq k 32 then kc_32 a else true) else (bif Nat.beq k 33 then kc_33 a else true)))) else (bif Nat.blt k 37 then (bif Nat.blt k 35 then (bif Nat.beq k 34 then kc_34 a else true) else (bif Nat.blt k 36 then (bif Nat.beq k 35 then kc_35 a else true) else (bif Nat.beq k 36 then kc_36 a else true))) else (bif Nat.blt k 39 then (bif Nat.blt k 38 then (bif Nat.beq k 37 then kc_37 a else true) else (bif Nat.beq k 38 then kc_38 a else true)) else (bif Nat.blt k 40 then (bif Nat.beq k 39 then kc_39 a else true) else (bif Nat.beq k 40 then kc_40 a else true))))) else (bif Nat.blt k 48 then (bif Nat.blt k 44 then (bif Nat.blt k 42 then (bif Nat.beq k 41 then kc_41 a else true) else (bif Nat.blt k 43 then (bif Nat.beq k 42 then kc_42 a else true) else (bif Nat.beq k 43 then kc_43 a else true))) else (bif Nat.blt k 46 then (bif Nat.blt k 45 then (bif Nat.beq k 44 then kc_44 a else true) else (bif Nat.beq k 45 then kc_45 a else true)) else (bif Nat.blt k 47 then (bif Nat.beq k 46 then kc_46 a else true) else (bif Nat.beq k 47 then kc_47 a else true)))) else (bif Nat.blt k 51 then (bif Nat.blt k 49 then (bif Nat.beq k 48 then kc_48 a else true) else (bif Nat.blt k 50 then (bif Nat.beq k 49 then kc_49 a else true) else (bif Nat.beq k 50 then kc_50 a else true))) else (bif Nat.blt k 53 then (bif Nat.blt k 52 then (bif Nat.beq k 51 then kc_51 a else true) else (bif Nat.beq k 52 then kc_52 a else true)) else (bif Nat.blt k 54 then (bif Nat.beq k 53 then kc_53 a else true) else (bif Nat.beq k 54 then kc_54 a else true))))))
theorem kq_all : ∀ a, a < 598 → kc (kd a) a = true := by decide +kernel
theorem kq_1 (a : Nat) (ha : a < 598) (h : kd a = 1) : kc_1 a = true := by
  have q := kq_all a ha
  rw [h] at q
  exact q
theorem kq_2 (a : Nat) (ha : a < 598) (h : kd a = 2) : kc_2 a = true := by
  have q := kq_all a ha
  rw [h] at q
  exact q
theorem kq_3 (a : Nat) (ha : a < 598) (h : kd a = 3) : kc_3 a = true := by
  have q := kq_all a ha
  rw [h] at q
  exact q
theorem kq_4 (a : Nat) (ha : a < 598) (h : kd a = 4) : kc_4 a = true := by
  have q := kq_all a ha
  rw [h] at q
  exact q
theorem kq_5 (a : Nat) (ha : a < 598) (h : kd a = 5) : kc_5 a = true := by
  have q := kq_all a ha
  rw [h] at q
  exact q
theorem kq_6 (a : Nat) (ha : a < 598) (h : kd a = 6) : kc_6 a = true := by
  have q := kq_all a ha
  rw [h] at q
  exact q
theorem kq_7 (a : Nat) (ha : a < 598) (h : kd a = 7) : kc_7 a = true := by
  have q := kq_all a ha
  rw [h] at q
  exact q
theorem kq_8 (a : Nat) (ha : a < 598) (h : kd a = 8) : kc_8 a = true := by
  have q := kq_all a ha
  rw [h] at q
  exact q
theorem kq_9 (a : Nat) (ha : a < 598) (h : kd a = 9) : kc_9 a = true := by
  have q := kq_all a ha
  rw [h] at q
  exact q
theorem kq_10 (a : Nat) (ha : a < 598) (h : kd a = 10) : kc_10 a = true := by
  have q := kq_all a ha
  rw [h] at q
  exact q
theorem kq_11 (a : Nat) (ha : a < 598) (h : kd a = 11) : kc_11 a = true := by
  have q := kq_all a ha
  rw [h] at q
  exact q
theorem kq_12 (a : Nat) (ha : a < 598) (h : kd a = 12) : kc_12 a = true := by
  have q := kq_all a ha
  rw [h] at q
  exact q
theorem kq_13 (a : Nat) (ha : a < 598) (h : kd a = 13) : kc_13 a = true := by
  have q := kq_all a ha
  rw [h] at q
  exact q
theorem kq_14 (a : Nat) (ha : a < 598) (h : kd a = 14) : kc_14 a = true := by
  have q := kq_all a ha
  rw [h] at q
  exact q
theorem kq_15 (a : Nat) (ha : a < 598) (h : kd a = 15) : kc_15 a = true := by
  have q := kq_all a ha
  rw [h] at q
  exact q
theorem kq_16 (a : Nat) (ha : a < 598) (h : kd a = 16) : kc_16 a = true := by
  have q := kq_all a ha
  rw [h] at q
  exact q
theorem kq_17 (a : Nat) (ha : a < 598) (h : kd a = 17) : kc_17 a = true := by
  have q := kq_all a ha
  rw [h] at q
  exact q
theorem kq_18 (a : Nat) (ha : a < 598) (h : kd a = 18) : kc_18 a = true := by
  have q := kq_all a ha
  rw [h] at q
  exact q
theorem kq_19 (a : Nat) (ha : a < 598) (h : kd a = 19) : kc_19 a = true := by
  have q := kq_all a ha
  rw [h] at q
  exact q
theorem kq_20 (a : Nat) (ha : a < 598) (h : kd a = 20) : kc_20 a = true := by
  have q := kq_all a ha
  rw [h] at q
  exact q
theorem kq_21 (a : Nat) (ha : a < 598) (h : kd a = 21) : kc_21 a = true := by
  have q := kq_all a ha
  rw [h] at q
  exact q
theorem kq_22 (a : Nat) (ha : a < 598) (h : kd a = 22) : kc_22 a = true := by
  have q := kq_all a ha
  rw [h] at q
  exact q
theorem kq_23 (a : Nat) (ha : a < 598) (h : kd a = 23) : kc_23 a = true := by
  have q := kq_all a ha
  rw [h] at q
  exact q
theorem kq_24 (a : Nat) (ha : a < 598) (h : kd a = 24) : kc_24 a = true := by
  have q := kq_all a ha
  rw [h] at q
  exact q
theorem kq_25 (a : Nat) (ha : a < 598) (h : kd a = 25) : kc_25 a = true := by
  have q := kq_all a ha
  rw [h] at q
  exact q
theorem kq_26 (a : Nat) (ha : a < 598) (h : kd a = 26) : kc_26 a = true := by
  have q := kq_all a ha
  rw [h] at q
  exact q
theorem kq_27 (a : Nat) (ha : a < 598) (h : kd a = 27) : kc_27 a = true := by
  have q := kq_all a ha
  rw [h] at q
  exact q
theorem kq_28 (a : Nat) (ha : a < 598) (h : kd a = 28) : kc_28 a = true := by
  have q := kq_all a ha
  rw [h] at q
  exact q
theorem kq_29 (a : Nat) (ha : a < 598) (h : kd a = 29) : kc_29 a = true := by
  have q := kq_all a ha
  rw [h] at q
  exact q
theorem kq_30 (a : Nat) (ha : a < 598) (h : kd a = 30) : kc_30 a = true := by
  have q := kq_all a ha
  rw [h] at q
  exact q
theorem kq_31 (a : Nat) (ha : a < 598) (h : kd a = 31) : kc_31 a = true := by
  have q := kq_all a ha
  rw [h] at q
  exact q
theorem kq_32 (a : Nat) (ha : a < 598) (h : kd a = 32) : kc_32 a = true := by
  have q := kq_all a ha
  rw [h] at q
  exact q
theorem kq_33 (a : Nat) (ha : a < 598) (h : kd a = 33) : kc_33 a = true := by
  have q := kq_all a ha
  rw [h] at q
  exact q
theorem kq_34 (a : Nat) (ha : a < 598) (h : kd a = 34) : kc_34 a = true := by
  have q := kq_all a ha
  rw [h] at q
  exact q
theorem kq_35 (a : Nat) (ha : a < 598) (h : kd a = 35) : kc_35 a = true := by
  have q := kq_all a ha
  rw [h] at q
  exact q
theorem kq_36 (a : Nat) (ha : a < 598) (h : kd a = 36) : kc_36 a = true := by
  have q := kq_all a ha
  rw [h] at q
  exact q
theorem kq_37 (a : Nat) (ha : a < 598) (h : kd a = 37) : kc_37 a = true := by
  have q := kq_all a ha
  rw [h] at q
  exact q
theorem kq_38 (a : Nat) (ha : a < 598) (h : kd a = 38) : kc_38 a = true := by
  have q := kq_all a ha
  rw [h] at q
  exact q
theorem kq_39 (a : Nat) (ha : a < 598) (h : kd a = 39) : kc_39 a = true := by
  have q := kq_all a ha
  rw [h] at q
  exact q
end
