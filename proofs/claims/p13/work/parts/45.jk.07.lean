section
theorem kq_40 (a : Nat) (ha : a < 598) (h : kd a = 40) : kc_40 a = true := by
  have q := kq_all a ha
  rw [h] at q
  exact q
theorem kq_41 (a : Nat) (ha : a < 598) (h : kd a = 41) : kc_41 a = true := by
  have q := kq_all a ha
  rw [h] at q
  exact q
theorem kq_42 (a : Nat) (ha : a < 598) (h : kd a = 42) : kc_42 a = true := by
  have q := kq_all a ha
  rw [h] at q
  exact q
theorem kq_43 (a : Nat) (ha : a < 598) (h : kd a = 43) : kc_43 a = true := by
  have q := kq_all a ha
  rw [h] at q
  exact q
theorem kq_44 (a : Nat) (ha : a < 598) (h : kd a = 44) : kc_44 a = true := by
  have q := kq_all a ha
  rw [h] at q
  exact q
theorem kq_45 (a : Nat) (ha : a < 598) (h : kd a = 45) : kc_45 a = true := by
  have q := kq_all a ha
  rw [h] at q
  exact q
theorem kq_46 (a : Nat) (ha : a < 598) (h : kd a = 46) : kc_46 a = true := by
  have q := kq_all a ha
  rw [h] at q
  exact q
theorem kq_47 (a : Nat) (ha : a < 598) (h : kd a = 47) : kc_47 a = true := by
  have q := kq_all a ha
  rw [h] at q
  exact q
theorem kq_48 (a : Nat) (ha : a < 598) (h : kd a = 48) : kc_48 a = true := by
  have q := kq_all a ha
  rw [h] at q
  exact q
theorem kq_49 (a : Nat) (ha : a < 598) (h : kd a = 49) : kc_49 a = true := by
  have q := kq_all a ha
  rw [h] at q
  exact q
theorem kq_50 (a : Nat) (ha : a < 598) (h : kd a = 50) : kc_50 a = true := by
  have q := kq_all a ha
  rw [h] at q
  exact q
theorem kq_51 (a : Nat) (ha : a < 598) (h : kd a = 51) : kc_51 a = true := by
  have q := kq_all a ha
  rw [h] at q
  exact q
theorem kq_52 (a : Nat) (ha : a < 598) (h : kd a = 52) : kc_52 a = true := by
  have q := kq_all a ha
  rw [h] at q
  exact q
theorem kq_53 (a : Nat) (ha : a < 598) (h : kd a = 53) : kc_53 a = true := by
  have q := kq_all a ha
  rw [h] at q
  exact q
theorem kq_54 (a : Nat) (ha : a < 598) (h : kd a = 54) : kc_54 a = true := by
  have q := kq_all a ha
  rw [h] at q
  exact q
theorem kb_1 : ∀ a, a < 598 → kd a = 1 → a < 598 ∧ xsh a = (101, 16) := fun a ha h => of_decide_eq_true (kb_l (kq_1 a ha h))
theorem kx_1 {a : Nat} (h : kd a = 1) : a < 598 ∧ xsh a = (101, 16) := kb_1 a (kd_lt (by rw [h]; decide)) h
theorem kg_1_3 : ∀ a, a < 598 → kd a = 1 → xfx a 3 = some (a + 1) ∧ kd (a + 1) = 2 := fun a ha h => of_decide_eq_true (kb_l (kb_r (kq_1 a ha h)))
theorem kf_1_3 {a : Nat} (h : kd a = 1) : xfx a 3 = some (a + 1) ∧ kd (a + 1) = 2 := kg_1_3 a (kd_lt (by rw [h]; decide)) h
theorem kg_1_4 : ∀ a, a < 598 → kd a = 1 → xfx a 4 = some (a + 2) ∧ kd (a + 2) = 7 := fun a ha h => of_decide_eq_true (kb_l (kb_r (kb_r (kq_1 a ha h))))
theorem kf_1_4 {a : Nat} (h : kd a = 1) : xfx a 4 = some (a + 2) ∧ kd (a + 2) = 7 := kg_1_4 a (kd_lt (by rw [h]; decide)) h
theorem kg_1_7 : ∀ a, a < 598 → kd a = 1 → xfx a 7 = some (a + 3) ∧ kd (a + 3) = 5 := fun a ha h => of_decide_eq_true (kb_l (kb_r (kb_r (kb_r (kq_1 a ha h)))))
theorem kf_1_7 {a : Nat} (h : kd a = 1) : xfx a 7 = some (a + 3) ∧ kd (a + 3) = 5 := kg_1_7 a (kd_lt (by rw [h]; decide)) h
theorem kg_1_8 : ∀ a, a < 598 → kd a = 1 → xfx a 8 = some (a + 4) ∧ kd (a + 4) = 4 := fun a ha h => of_decide_eq_true (kb_l (kb_r (kb_r (kb_r (kb_r (kq_1 a ha h))))))
theorem kf_1_8 {a : Nat} (h : kd a = 1) : xfx a 8 = some (a + 4) ∧ kd (a + 4) = 4 := kg_1_8 a (kd_lt (by rw [h]; decide)) h
theorem kg_1_9 : ∀ a, a < 598 → kd a = 1 → xfx a 9 = some (a + 5) ∧ kd (a + 5) = 8 := fun a ha h => of_decide_eq_true (kb_l (kb_r (kb_r (kb_r (kb_r (kb_r (kq_1 a ha h)))))))
theorem kf_1_9 {a : Nat} (h : kd a = 1) : xfx a 9 = some (a + 5) ∧ kd (a + 5) = 8 := kg_1_9 a (kd_lt (by rw [h]; decide)) h
theorem kg_1_10 : ∀ a, a < 598 → kd a = 1 → xfx a 10 = some (a + 6) ∧ kd (a + 6) = 6 := fun a ha h => of_decide_eq_true (kb_l (kb_r (kb_r (kb_r (kb_r (kb_r (kb_r (kq_1 a ha h))))))))
theorem kf_1_10 {a : Nat} (h : kd a = 1) : xfx a 10 = some (a + 6) ∧ kd (a + 6) = 6 := kg_1_10 a (kd_lt (by rw [h]; decide)) h
theorem kg_1_11 : ∀ a, a < 598 → kd a = 1 → xfx a 11 = some (a + 7) ∧ kd (a + 7) = 3 := fun a ha h => of_decide_eq_true (kb_r (kb_r (kb_r (kb_r (kb_r (kb_r (kb_r (kq_1 a ha h))))))))
theorem kf_1_11 {a : Nat} (h : kd a = 1) : xfx a 11 = some (a + 7) ∧ kd (a + 7) = 3 := kg_1_11 a (kd_lt (by rw [h]; decide)) h
theorem kb_9 : ∀ a, a < 598 → kd a = 9 → a < 598 ∧ xsh a = (102, 9) := fun a ha h => of_decide_eq_true (kb_l (kq_9 a ha h))
theorem kx_9 {a : Nat} (h : kd a = 9) : a < 598 ∧ xsh a = (102, 9) := kb_9 a (kd_lt (by rw [h]; decide)) h
theorem kg_9_2 : ∀ a, a < 598 → kd a = 9 → xfx a 2 = some (a + 3) ∧ kd (a + 3) = 1 := fun a ha h => of_decide_eq_true (kb_l (kb_r (kq_9 a ha h)))
theorem kf_9_2 {a : Nat} (h : kd a = 9) : xfx a 2 = some (a + 3) ∧ kd (a + 3) = 1 := kg_9_2 a (kd_lt (by rw [h]; decide)) h
theorem kg_9_6 : ∀ a, a < 598 → kd a = 9 → xfx a 6 = some (a + 11) ∧ kd (a + 11) = 10 := fun a ha h => of_decide_eq_true (kb_l (kb_r (kb_r (kq_9 a ha h))))
theorem kf_9_6 {a : Nat} (h : kd a = 9) : xfx a 6 = some (a + 11) ∧ kd (a + 11) = 10 := kg_9_6 a (kd_lt (by rw [h]; decide)) h
theorem kg_9_7 : ∀ a, a < 598 → kd a = 9 → xfx a 7 = some (a + 12) ∧ kd (a + 12) = 11 := fun a ha h => of_decide_eq_true (kb_l (kb_r (kb_r (kb_r (kq_9 a ha h)))))
theorem kf_9_7 {a : Nat} (h : kd a = 9) : xfx a 7 = some (a + 12) ∧ kd (a + 12) = 11 := kg_9_7 a (kd_lt (by rw [h]; decide)) h
theorem kg_9_8 : ∀ a, a < 598 → kd a = 9 → xfx a 8 = some (a + 13) ∧ kd (a + 13) = 12 := fun a ha h => of_decide_eq_true (kb_r (kb_r (kb_r (kb_r (kq_9 a ha h)))))
theorem kf_9_8 {a : Nat} (h : kd a = 9) : xfx a 8 = some (a + 13) ∧ kd (a + 13) = 12 := kg_9_8 a (kd_lt (by rw [h]; decide)) h
theorem kb_14 : ∀ a, a < 598 → kd a = 14 → a < 598 ∧ xsh a = (103, 4) := fun a ha h => of_decide_eq_true (kb_l (kq_14 a ha h))
theorem kx_14 {a : Nat} (h : kd a = 14) : a < 598 ∧ xsh a = (103, 4) := kb_14 a (kd_lt (by rw [h]; decide)) h
theorem kg_14_3 : ∀ a, a < 598 → kd a = 14 → xfx a 3 = some (a + 1) ∧ kd (a + 1) = 27 := fun a ha h => of_decide_eq_true (kb_r (kq_14 a ha h))
theorem kf_14_3 {a : Nat} (h : kd a = 14) : xfx a 3 = some (a + 1) ∧ kd (a + 1) = 27 := kg_14_3 a (kd_lt (by rw [h]; decide)) h
theorem kb_15 : ∀ a, a < 598 → kd a = 15 → a < 598 ∧ xsh a = (104, 14) := fun a ha h => of_decide_eq_true (kb_l (kq_15 a ha h))
theorem kx_15 {a : Nat} (h : kd a = 15) : a < 598 ∧ xsh a = (104, 14) := kb_15 a (kd_lt (by rw [h]; decide)) h
theorem kg_15_9 : ∀ a, a < 598 → kd a = 15 → xfx a 9 = some (a + 1) ∧ kd (a + 1) = 17 := fun a ha h => of_decide_eq_true (kb_l (kb_r (kq_15 a ha h)))
theorem kf_15_9 {a : Nat} (h : kd a = 15) : xfx a 9 = some (a + 1) ∧ kd (a + 1) = 17 := kg_15_9 a (kd_lt (by rw [h]; decide)) h
theorem kg_15_10 : ∀ a, a < 598 → kd a = 15 → xfx a 10 = some (a + 2) ∧ kd (a + 2) = 16 := fun a ha h => of_decide_eq_true (kb_r (kb_r (kq_15 a ha h)))
theorem kf_15_10 {a : Nat} (h : kd a = 15) : xfx a 10 = some (a + 2) ∧ kd (a + 2) = 16 := kg_15_10 a (kd_lt (by rw [h]; decide)) h
theorem kb_18 : ∀ a, a < 598 → kd a = 18 → a < 598 ∧ xsh a = (105, 8) := fun a ha h => of_decide_eq_true (kb_l (kq_18 a ha h))
theorem kx_18 {a : Nat} (h : kd a = 18) : a < 598 ∧ xsh a = (105, 8) := kb_18 a (kd_lt (by rw [h]; decide)) h
theorem kg_18_0 : ∀ a, a < 598 → kd a = 18 → xfx a 0 = some (a + 1) ∧ kd (a + 1) = 19 := fun a ha h => of_decide_eq_true (kb_l (kb_r (kq_18 a ha h)))
theorem kf_18_0 {a : Nat} (h : kd a = 18) : xfx a 0 = some (a + 1) ∧ kd (a + 1) = 19 := kg_18_0 a (kd_lt (by rw [h]; decide)) h
theorem kg_18_1 : ∀ a, a < 598 → kd a = 18 → xfx a 1 = some (a + 2) ∧ kd (a + 2) = 20 := fun a ha h => of_decide_eq_true (kb_l (kb_r (kb_r (kq_18 a ha h))))
theorem kf_18_1 {a : Nat} (h : kd a = 18) : xfx a 1 = some (a + 2) ∧ kd (a + 2) = 20 := kg_18_1 a (kd_lt (by rw [h]; decide)) h
theorem kg_18_2 : ∀ a, a < 598 → kd a = 18 → xfx a 2 = some (a + 3) ∧ kd (a + 3) = 21 := fun a ha h => of_decide_eq_true (kb_r (kb_r (kb_r (kq_18 a ha h))))
theorem kf_18_2 {a : Nat} (h : kd a = 18) : xfx a 2 = some (a + 3) ∧ kd (a + 3) = 21 := kg_18_2 a (kd_lt (by rw [h]; decide)) h
theorem kb_22 : ∀ a, a < 598 → kd a = 22 → a < 598 ∧ xsh a = (106, 20) := fun a ha h => of_decide_eq_true (kb_l (kq_22 a ha h))
theorem kx_22 {a : Nat} (h : kd a = 22) : a < 598 ∧ xsh a = (106, 20) := kb_22 a (kd_lt (by rw [h]; decide)) h
theorem kg_22_0 : ∀ a, a < 598 → kd a = 22 → xfx a 0 = some (a + 1) ∧ kd (a + 1) = 25 := fun a ha h => of_decide_eq_true (kb_l (kb_r (kq_22 a ha h)))
theorem kf_22_0 {a : Nat} (h : kd a = 22) : xfx a 0 = some (a + 1) ∧ kd (a + 1) = 25 := kg_22_0 a (kd_lt (by rw [h]; decide)) h
theorem kg_22_1 : ∀ a, a < 598 → kd a = 22 → xfx a 1 = some (a + 2) ∧ kd (a + 2) = 27 := fun a ha h => of_decide_eq_true (kb_l (kb_r (kb_r (kq_22 a ha h))))
theorem kf_22_1 {a : Nat} (h : kd a = 22) : xfx a 1 = some (a + 2) ∧ kd (a + 2) = 27 := kg_22_1 a (kd_lt (by rw [h]; decide)) h
theorem kg_22_6 : ∀ a, a < 598 → kd a = 22 → xfx a 6 = some (a + 13) ∧ kd (a + 13) = 23 := fun a ha h => of_decide_eq_true (kb_l (kb_r (kb_r (kb_r (kq_22 a ha h)))))
theorem kf_22_6 {a : Nat} (h : kd a = 22) : xfx a 6 = some (a + 13) ∧ kd (a + 13) = 23 := kg_22_6 a (kd_lt (by rw [h]; decide)) h
theorem kg_22_8 : ∀ a, a < 598 → kd a = 22 → xfx a 8 = some (a + 14) ∧ kd (a + 14) = 26 := fun a ha h => of_decide_eq_true (kb_l (kb_r (kb_r (kb_r (kb_r (kq_22 a ha h))))))
theorem kf_22_8 {a : Nat} (h : kd a = 22) : xfx a 8 = some (a + 14) ∧ kd (a + 14) = 26 := kg_22_8 a (kd_lt (by rw [h]; decide)) h
theorem kg_22_10 : ∀ a, a < 598 → kd a = 22 → xfx a 10 = some (a + 15) ∧ kd (a + 15) = 24 := fun a ha h => of_decide_eq_true (kb_r (kb_r (kb_r (kb_r (kb_r (kq_22 a ha h))))))
theorem kf_22_10 {a : Nat} (h : kd a = 22) : xfx a 10 = some (a + 15) ∧ kd (a + 15) = 24 := kg_22_10 a (kd_lt (by rw [h]; decide)) h
theorem kb_27 : ∀ a, a < 598 → kd a = 27 → a < 598 ∧ xsh a = (107, 7) := fun a ha h => of_decide_eq_true (kb_l (kq_27 a ha h))
theorem kx_27 {a : Nat} (h : kd a = 27) : a < 598 ∧ xsh a = (107, 7) := kb_27 a (kd_lt (by rw [h]; decide)) h
theorem kg_27_0 : ∀ a, a < 598 → kd a = 27 → xfx a 0 = some (a + 1) ∧ kd (a + 1) = 29 := fun a ha h => of_decide_eq_true (kb_l (kb_r (kq_27 a ha h)))
end
