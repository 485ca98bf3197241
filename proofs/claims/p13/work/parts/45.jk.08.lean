section
theorem kf_27_0 {a : Nat} (h : kd a = 27) : xfx a 0 = some (a + 1) ∧ kd (a + 1) = 29 := kg_27_0 a (kd_lt (by rw [h]; decide)) h
theorem kg_27_1 : ∀ a, a < 598 → kd a = 27 → xfx a 1 = some (a + 2) ∧ kd (a + 2) = 28 := fun a ha h => of_decide_eq_true (kb_l (kb_r (kb_r (kq_27 a ha h))))
theorem kf_27_1 {a : Nat} (h : kd a = 27) : xfx a 1 = some (a + 2) ∧ kd (a + 2) = 28 := kg_27_1 a (kd_lt (by rw [h]; decide)) h
theorem kg_27_2 : ∀ a, a < 598 → kd a = 27 → xfx a 2 = some (a + 3) ∧ kd (a + 3) = 31 := fun a ha h => of_decide_eq_true (kb_l (kb_r (kb_r (kb_r (kq_27 a ha h)))))
theorem kf_27_2 {a : Nat} (h : kd a = 27) : xfx a 2 = some (a + 3) ∧ kd (a + 3) = 31 := kg_27_2 a (kd_lt (by rw [h]; decide)) h
theorem kg_27_3 : ∀ a, a < 598 → kd a = 27 → xfx a 3 = some (a + 4) ∧ kd (a + 4) = 32 := fun a ha h => of_decide_eq_true (kb_l (kb_r (kb_r (kb_r (kb_r (kq_27 a ha h))))))
theorem kf_27_3 {a : Nat} (h : kd a = 27) : xfx a 3 = some (a + 4) ∧ kd (a + 4) = 32 := kg_27_3 a (kd_lt (by rw [h]; decide)) h
theorem kg_27_4 : ∀ a, a < 598 → kd a = 27 → xfx a 4 = some (a + 5) ∧ kd (a + 5) = 30 := fun a ha h => of_decide_eq_true (kb_r (kb_r (kb_r (kb_r (kb_r (kq_27 a ha h))))))
theorem kf_27_4 {a : Nat} (h : kd a = 27) : xfx a 4 = some (a + 5) ∧ kd (a + 5) = 30 := kg_27_4 a (kd_lt (by rw [h]; decide)) h
theorem kb_33 : ∀ a, a < 598 → kd a = 33 → a < 598 ∧ xsh a = (108, 3) := fun a ha h => of_decide_eq_true (kb_l (kq_33 a ha h))
theorem kx_33 {a : Nat} (h : kd a = 33) : a < 598 ∧ xsh a = (108, 3) := kb_33 a (kd_lt (by rw [h]; decide)) h
theorem kg_33_0 : ∀ a, a < 598 → kd a = 33 → xfx a 0 = some (a + 1) ∧ kd (a + 1) = 34 := fun a ha h => of_decide_eq_true (kb_r (kq_33 a ha h))
theorem kf_33_0 {a : Nat} (h : kd a = 33) : xfx a 0 = some (a + 1) ∧ kd (a + 1) = 34 := kg_33_0 a (kd_lt (by rw [h]; decide)) h
theorem kb_35 : ∀ a, a < 598 → kd a = 35 → a < 598 ∧ xsh a = (100, 15) := fun a ha h => of_decide_eq_true (kb_l (kq_35 a ha h))
theorem kx_35 {a : Nat} (h : kd a = 35) : a < 598 ∧ xsh a = (100, 15) := kb_35 a (kd_lt (by rw [h]; decide)) h
theorem kg_35_0 : ∀ a, a < 598 → kd a = 35 → xfx a 0 = some (a + 1) ∧ kd (a + 1) = 43 := fun a ha h => of_decide_eq_true (kb_l (kb_r (kq_35 a ha h)))
theorem kf_35_0 {a : Nat} (h : kd a = 35) : xfx a 0 = some (a + 1) ∧ kd (a + 1) = 43 := kg_35_0 a (kd_lt (by rw [h]; decide)) h
theorem kg_35_2 : ∀ a, a < 598 → kd a = 35 → xfx a 2 = some (a + 2) ∧ kd (a + 2) = 42 := fun a ha h => of_decide_eq_true (kb_l (kb_r (kb_r (kq_35 a ha h))))
theorem kf_35_2 {a : Nat} (h : kd a = 35) : xfx a 2 = some (a + 2) ∧ kd (a + 2) = 42 := kg_35_2 a (kd_lt (by rw [h]; decide)) h
theorem kg_35_3 : ∀ a, a < 598 → kd a = 35 → xfx a 3 = some (a + 3) ∧ kd (a + 3) = 18 := fun a ha h => of_decide_eq_true (kb_l (kb_r (kb_r (kb_r (kq_35 a ha h)))))
theorem kf_35_3 {a : Nat} (h : kd a = 35) : xfx a 3 = some (a + 3) ∧ kd (a + 3) = 18 := kg_35_3 a (kd_lt (by rw [h]; decide)) h
theorem kg_35_4 : ∀ a, a < 598 → kd a = 35 → xfx a 4 = some (a + 9) ∧ kd (a + 9) = 39 := fun a ha h => of_decide_eq_true (kb_l (kb_r (kb_r (kb_r (kb_r (kq_35 a ha h))))))
theorem kf_35_4 {a : Nat} (h : kd a = 35) : xfx a 4 = some (a + 9) ∧ kd (a + 9) = 39 := kg_35_4 a (kd_lt (by rw [h]; decide)) h
theorem kg_35_5 : ∀ a, a < 598 → kd a = 35 → xfx a 5 = some (a + 10) ∧ kd (a + 10) = 40 := fun a ha h => of_decide_eq_true (kb_l (kb_r (kb_r (kb_r (kb_r (kb_r (kq_35 a ha h)))))))
theorem kf_35_5 {a : Nat} (h : kd a = 35) : xfx a 5 = some (a + 10) ∧ kd (a + 10) = 40 := kg_35_5 a (kd_lt (by rw [h]; decide)) h
theorem kg_35_6 : ∀ a, a < 598 → kd a = 35 → xfx a 6 = some (a + 11) ∧ kd (a + 11) = 15 := fun a ha h => of_decide_eq_true (kb_l (kb_r (kb_r (kb_r (kb_r (kb_r (kb_r (kq_35 a ha h))))))))
theorem kf_35_6 {a : Nat} (h : kd a = 35) : xfx a 6 = some (a + 11) ∧ kd (a + 11) = 15 := kg_35_6 a (kd_lt (by rw [h]; decide)) h
theorem kg_35_7 : ∀ a, a < 598 → kd a = 35 → xfx a 7 = some (a + 14) ∧ kd (a + 14) = 41 := fun a ha h => of_decide_eq_true (kb_l (kb_r (kb_r (kb_r (kb_r (kb_r (kb_r (kb_r (kq_35 a ha h)))))))))
theorem kf_35_7 {a : Nat} (h : kd a = 35) : xfx a 7 = some (a + 14) ∧ kd (a + 14) = 41 := kg_35_7 a (kd_lt (by rw [h]; decide)) h
theorem kg_35_9 : ∀ a, a < 598 → kd a = 35 → xfx a 9 = some (a + 15) ∧ kd (a + 15) = 9 := fun a ha h => of_decide_eq_true (kb_l (kb_r (kb_r (kb_r (kb_r (kb_r (kb_r (kb_r (kb_r (kq_35 a ha h))))))))))
theorem kf_35_9 {a : Nat} (h : kd a = 35) : xfx a 9 = some (a + 15) ∧ kd (a + 15) = 9 := kg_35_9 a (kd_lt (by rw [h]; decide)) h
theorem kg_35_10 : ∀ a, a < 598 → kd a = 35 → xfx a 10 = some (a + 413) ∧ kd (a + 413) = 44 := fun a ha h => of_decide_eq_true (kb_l (kb_r (kb_r (kb_r (kb_r (kb_r (kb_r (kb_r (kb_r (kb_r (kq_35 a ha h)))))))))))
theorem kf_35_10 {a : Nat} (h : kd a = 35) : xfx a 10 = some (a + 413) ∧ kd (a + 413) = 44 := kg_35_10 a (kd_lt (by rw [h]; decide)) h
theorem kg_35_11 : ∀ a, a < 598 → kd a = 35 → xfx a 11 = some (a + 421) ∧ kd (a + 421) = 22 := fun a ha h => of_decide_eq_true (kb_l (kb_r (kb_r (kb_r (kb_r (kb_r (kb_r (kb_r (kb_r (kb_r (kb_r (kq_35 a ha h))))))))))))
theorem kf_35_11 {a : Nat} (h : kd a = 35) : xfx a 11 = some (a + 421) ∧ kd (a + 421) = 22 := kg_35_11 a (kd_lt (by rw [h]; decide)) h
theorem kg_35_12 : ∀ a, a < 598 → kd a = 35 → xfx a 12 = some (a + 523) ∧ kd (a + 523) = 38 := fun a ha h => of_decide_eq_true (kb_l (kb_r (kb_r (kb_r (kb_r (kb_r (kb_r (kb_r (kb_r (kb_r (kb_r (kb_r (kq_35 a ha h)))))))))))))
theorem kf_35_12 {a : Nat} (h : kd a = 35) : xfx a 12 = some (a + 523) ∧ kd (a + 523) = 38 := kg_35_12 a (kd_lt (by rw [h]; decide)) h
theorem kg_35_13 : ∀ a, a < 598 → kd a = 35 → xfx a 13 = some (a + 524) ∧ kd (a + 524) = 36 := fun a ha h => of_decide_eq_true (kb_l (kb_r (kb_r (kb_r (kb_r (kb_r (kb_r (kb_r (kb_r (kb_r (kb_r (kb_r (kb_r (kq_35 a ha h))))))))))))))
theorem kf_35_13 {a : Nat} (h : kd a = 35) : xfx a 13 = some (a + 524) ∧ kd (a + 524) = 36 := kg_35_13 a (kd_lt (by rw [h]; decide)) h
theorem kg_35_14 : ∀ a, a < 598 → kd a = 35 → xfx a 14 = some (a + 525) ∧ kd (a + 525) = 37 := fun a ha h => of_decide_eq_true (kb_r (kb_r (kb_r (kb_r (kb_r (kb_r (kb_r (kb_r (kb_r (kb_r (kb_r (kb_r (kb_r (kq_35 a ha h))))))))))))))
theorem kf_35_14 {a : Nat} (h : kd a = 35) : xfx a 14 = some (a + 525) ∧ kd (a + 525) = 37 := kg_35_14 a (kd_lt (by rw [h]; decide)) h
theorem kb_44 : ∀ a, a < 598 → kd a = 44 → a < 598 ∧ xsh a = (109, 12) := fun a ha h => of_decide_eq_true (kb_l (kq_44 a ha h))
theorem kx_44 {a : Nat} (h : kd a = 44) : a < 598 ∧ xsh a = (109, 12) := kb_44 a (kd_lt (by rw [h]; decide)) h
theorem kg_44_5 : ∀ a, a < 598 → kd a = 44 → xfx a 5 = some (a + 7) ∧ kd (a + 7) = 45 := fun a ha h => of_decide_eq_true (kb_r (kq_44 a ha h))
theorem kf_44_5 {a : Nat} (h : kd a = 44) : xfx a 5 = some (a + 7) ∧ kd (a + 7) = 45 := kg_44_5 a (kd_lt (by rw [h]; decide)) h
theorem kb_47 : ∀ a, a < 598 → kd a = 47 → a < 598 ∧ xsh a = (110, 7) := fun a ha h => of_decide_eq_true (kb_l (kq_47 a ha h))
theorem kx_47 {a : Nat} (h : kd a = 47) : a < 598 ∧ xsh a = (110, 7) := kb_47 a (kd_lt (by rw [h]; decide)) h
theorem kg_47_0 : ∀ a, a < 598 → kd a = 47 → xfx a 0 = some (a + 1) ∧ kd (a + 1) = 51 := fun a ha h => of_decide_eq_true (kb_l (kb_r (kq_47 a ha h)))
theorem kf_47_0 {a : Nat} (h : kd a = 47) : xfx a 0 = some (a + 1) ∧ kd (a + 1) = 51 := kg_47_0 a (kd_lt (by rw [h]; decide)) h
theorem kg_47_1 : ∀ a, a < 598 → kd a = 47 → xfx a 1 = some (a + 2) ∧ kd (a + 2) = 48 := fun a ha h => of_decide_eq_true (kb_l (kb_r (kb_r (kq_47 a ha h))))
theorem kf_47_1 {a : Nat} (h : kd a = 47) : xfx a 1 = some (a + 2) ∧ kd (a + 2) = 48 := kg_47_1 a (kd_lt (by rw [h]; decide)) h
theorem kg_47_5 : ∀ a, a < 598 → kd a = 47 → xfx a 5 = some (a + 3) ∧ kd (a + 3) = 50 := fun a ha h => of_decide_eq_true (kb_l (kb_r (kb_r (kb_r (kq_47 a ha h)))))
theorem kf_47_5 {a : Nat} (h : kd a = 47) : xfx a 5 = some (a + 3) ∧ kd (a + 3) = 50 := kg_47_5 a (kd_lt (by rw [h]; decide)) h
theorem kg_47_6 : ∀ a, a < 598 → kd a = 47 → xfx a 6 = some (a + 4) ∧ kd (a + 4) = 49 := fun a ha h => of_decide_eq_true (kb_r (kb_r (kb_r (kb_r (kq_47 a ha h)))))
theorem kf_47_6 {a : Nat} (h : kd a = 47) : xfx a 6 = some (a + 4) ∧ kd (a + 4) = 49 := kg_47_6 a (kd_lt (by rw [h]; decide)) h
theorem kb_52 : ∀ a, a < 598 → kd a = 52 → a < 598 ∧ xsh a = (111, 4) := fun a ha h => of_decide_eq_true (kb_l (kq_52 a ha h))
theorem kx_52 {a : Nat} (h : kd a = 52) : a < 598 ∧ xsh a = (111, 4) := kb_52 a (kd_lt (by rw [h]; decide)) h
theorem kg_52_2 : ∀ a, a < 598 → kd a = 52 → xfx a 2 = some (a + 1) ∧ kd (a + 1) = 54 := fun a ha h => of_decide_eq_true (kb_l (kb_r (kq_52 a ha h)))
theorem kf_52_2 {a : Nat} (h : kd a = 52) : xfx a 2 = some (a + 1) ∧ kd (a + 1) = 54 := kg_52_2 a (kd_lt (by rw [h]; decide)) h
theorem kg_52_3 : ∀ a, a < 598 → kd a = 52 → xfx a 3 = some (a + 2) ∧ kd (a + 2) = 53 := fun a ha h => of_decide_eq_true (kb_r (kb_r (kq_52 a ha h)))
theorem kf_52_3 {a : Nat} (h : kd a = 52) : xfx a 3 = some (a + 2) ∧ kd (a + 2) = 53 := kg_52_3 a (kd_lt (by rw [h]; decide)) h
theorem kb_2 : ∀ a, a < 598 → kd a = 2 → a < 598 ∧ xsh a = (1, 2) := fun a ha h => of_decide_eq_true (kq_2 a ha h)
theorem kx_2 {a : Nat} (h : kd a = 2) : a < 598 ∧ xsh a = (1, 2) := kb_2 a (kd_lt (by rw [h]; decide)) h
theorem kb_3 : ∀ a, a < 598 → kd a = 3 → a < 598 ∧ xsh a = (1, 2) := fun a ha h => of_decide_eq_true (kq_3 a ha h)
theorem kx_3 {a : Nat} (h : kd a = 3) : a < 598 ∧ xsh a = (1, 2) := kb_3 a (kd_lt (by rw [h]; decide)) h
theorem kb_4 : ∀ a, a < 598 → kd a = 4 → a < 598 ∧ xsh a = (2, 2) := fun a ha h => of_decide_eq_true (kq_4 a ha h)
theorem kx_4 {a : Nat} (h : kd a = 4) : a < 598 ∧ xsh a = (2, 2) := kb_4 a (kd_lt (by rw [h]; decide)) h
theorem kb_5 : ∀ a, a < 598 → kd a = 5 → a < 598 ∧ xsh a = (0, 2) := fun a ha h => of_decide_eq_true (kq_5 a ha h)
theorem kx_5 {a : Nat} (h : kd a = 5) : a < 598 ∧ xsh a = (0, 2) := kb_5 a (kd_lt (by rw [h]; decide)) h
theorem kb_6 : ∀ a, a < 598 → kd a = 6 → a < 598 ∧ xsh a = (1, 2) := fun a ha h => of_decide_eq_true (kq_6 a ha h)
theorem kx_6 {a : Nat} (h : kd a = 6) : a < 598 ∧ xsh a = (1, 2) := kb_6 a (kd_lt (by rw [h]; decide)) h
end
