set_option maxRecDepth 1000000 in
set_option maxHeartbeats 8000000 in
theorem xo_6_k0 (xs : Nat → Int32) : ∃ (N : Nat) (hp : ix_H), N ≤ 2 ^ 15 ∧ ix_R (xTT 6 (va_up xs 1 0)) (ix_run (xTT 6 (va_up xs 1 0)) 14 8) xm_law N (396, xLS, [], xhp0) (some (.int 1), hp) ∧ hp.1 ≤ 600000 ∧ hp.2.1 ≤ 7302250 :=
  ⟨25, _, Nat.le_of_ble_eq_true rfl, (ix_R.fin 25 (iy_n_ok (iy_run_ok _ _ _) rfl)), Nat.le_of_ble_eq_true rfl, Nat.le_of_ble_eq_true rfl⟩
set_option maxRecDepth 1000000 in
set_option maxHeartbeats 8000000 in
theorem xo_6_k1 (xs : Nat → Int32) : ∃ (N : Nat) (hp : ix_H), N ≤ 2 ^ 15 ∧ ix_R (xTT 6 (va_up xs 1 1)) (ix_run (xTT 6 (va_up xs 1 1)) 14 8) xm_law N (396, xLS, [], xhp0) (some (.int 1), hp) ∧ hp.1 ≤ 600000 ∧ hp.2.1 ≤ 7302250 :=
  ⟨25, _, Nat.le_of_ble_eq_true rfl, (ix_R.fin 25 (iy_n_ok (iy_run_ok _ _ _) rfl)), Nat.le_of_ble_eq_true rfl, Nat.le_of_ble_eq_true rfl⟩
set_option maxRecDepth 1000000 in
set_option maxHeartbeats 8000000 in
theorem xo_6_k2 (xs : Nat → Int32) : ∃ (N : Nat) (hp : ix_H), N ≤ 2 ^ 15 ∧ ix_R (xTT 6 (va_up xs 1 2)) (ix_run (xTT 6 (va_up xs 1 2)) 14 8) xm_law N (396, xLS, [], xhp0) (some (.int 1), hp) ∧ hp.1 ≤ 600000 ∧ hp.2.1 ≤ 7302250 :=
  ⟨25, _, Nat.le_of_ble_eq_true rfl, (ix_R.fin 25 (iy_n_ok (iy_run_ok _ _ _) rfl)), Nat.le_of_ble_eq_true rfl, Nat.le_of_ble_eq_true rfl⟩
set_option maxRecDepth 1000000 in
set_option maxHeartbeats 8000000 in
theorem xo_6_k3 (xs : Nat → Int32) : ∃ (N : Nat) (hp : ix_H), N ≤ 2 ^ 15 ∧ ix_R (xTT 6 (va_up xs 1 3)) (ix_run (xTT 6 (va_up xs 1 3)) 14 8) xm_law N (396, xLS, [], xhp0) (some (.int 1), hp) ∧ hp.1 ≤ 600000 ∧ hp.2.1 ≤ 7302250 :=
  ⟨25, _, Nat.le_of_ble_eq_true rfl, (ix_R.fin 25 (iy_n_ok (iy_run_ok _ _ _) rfl)), Nat.le_of_ble_eq_true rfl, Nat.le_of_ble_eq_true rfl⟩
set_option maxRecDepth 1000000 in
set_option maxHeartbeats 8000000 in
theorem xo_7_neg (xs : Nat → Int32) (h1 : -2147483648 ≤ (xs 1).toInt ∧ (xs 1).toInt ≤ -1) : ∃ (N : Nat) (hp : ix_H), N ≤ 2 ^ 15 ∧ ix_R (xTT 6 xs) (ix_run (xTT 6 xs) 14 8) xm_law N (419, xLS, [], xhp0) (some (.int 1), hp) ∧ hp.1 ≤ 600000 ∧ hp.2.1 ≤ 7302250 :=
  ⟨35, _, Nat.le_of_ble_eq_true rfl, (ix_R.step 11 (iy_n_ok (iy_run_ok _ _ _) rfl) (ix_R.step 1 (ix_n_call (Or.inl ⟨_, rfl⟩) rfl (ix_cal_v rfl (Or.inl rfl) rfl rfl rfl ⟨rfl, Nat.le_of_ble_eq_true rfl, Nat.le_of_ble_eq_true rfl⟩ (ix_R.run (N := 6) rfl (Nat.le_of_ble_eq_true rfl) (ix_R.step 2 (iy_n_ok (iy_run_ok _ _ _) rfl) (ix_R.step 1 (ix_n_call (Or.inl ⟨_, rfl⟩) rfl (ix_cal_v rfl (Or.inl rfl) rfl rfl rfl ⟨rfl, Nat.le_of_ble_eq_true rfl, Nat.le_of_ble_eq_true rfl⟩ (ix_R.run (N := 4) rfl (Nat.le_of_ble_eq_true rfl) (ix_R.step 1 (iy_n_ok (iy_run_ok _ _ _) rfl) (ix_R.step 1 (ix_n_ift rfl rfl (cbt_lt (x := xs 1) (y := 0) (by have e9 : (0 : Int32).toInt = 0 := rfl; omega))) (ix_R.fin 2 (iy_n_ok (iy_run_ok _ _ _) rfl)))) (Nat.le_of_ble_eq_true rfl)))) (ix_R.fin 3 (iy_n_ok (iy_run_ok _ _ _) rfl)))) (Nat.le_of_ble_eq_true rfl)))) (ix_R.step 11 (iy_n_ok (iy_run_ok _ _ _) rfl) (ix_R.step 1 (ix_n_call (Or.inl ⟨_, rfl⟩) rfl (ix_cal_v rfl (Or.inl rfl) rfl rfl rfl ⟨rfl, Nat.le_of_ble_eq_true rfl, Nat.le_of_ble_eq_true rfl⟩ (ix_R.run (N := 6) rfl (Nat.le_of_ble_eq_true rfl) (ix_R.step 2 (iy_n_ok (iy_run_ok _ _ _) rfl) (ix_R.step 1 (ix_n_call (Or.inl ⟨_, rfl⟩) rfl (ix_cal_v rfl (Or.inl rfl) rfl rfl rfl ⟨rfl, Nat.le_of_ble_eq_true rfl, Nat.le_of_ble_eq_true rfl⟩ (ix_R.run (N := 5) rfl (Nat.le_of_ble_eq_true rfl) (ix_R.step 1 (iy_n_ok (iy_run_ok _ _ _) rfl) (ix_R.step 1 (ix_n_call (Or.inr (Or.inr ⟨_, rfl⟩)) rfl (ix_cal_s rfl (Or.inl rfl) ⟨Nat.le_of_ble_eq_true rfl, Nat.le_of_ble_eq_true rfl⟩ (ix_R.run (N := 6) rfl (Nat.le_of_ble_eq_true rfl) (ix_R.step 4 (iy_n_ok (iy_run_ok _ _ _) rfl) (ix_R.step 1 (ix_n_call (Or.inr (Or.inr ⟨_, rfl⟩)) rfl (ix_cal_s rfl (Or.inl rfl) ⟨Nat.le_of_ble_eq_true rfl, Nat.le_of_ble_eq_true rfl⟩ (ix_R.run (N := 6) rfl (Nat.le_of_ble_eq_true rfl) (ix_R.step 3 (iy_n_ok (iy_run_ok _ _ _) rfl) (ix_R.step 1 (ix_n_ift rfl rfl (clt_lt (x := (xs 1).toInt64) (y := 0) (by rw [Int32.toInt_toInt64]; have e9 : (0 : Int64).toInt = 0 := rfl; omega))) (ix_R.fin 2 (iy_n_ok (iy_run_ok _ _ _) rfl)))) (Nat.le_of_ble_eq_true rfl)))) (ix_R.fin 1 (iy_n_ok (iy_run_ok _ _ _) rfl)))) (Nat.le_of_ble_eq_true rfl)))) (ix_R.fin 3 (iy_n_ok (iy_run_ok _ _ _) rfl)))) (Nat.le_of_ble_eq_true rfl)))) (ix_R.fin 3 (iy_n_ok (iy_run_ok _ _ _) rfl)))) (Nat.le_of_ble_eq_true rfl)))) (ix_R.fin 11 (iy_n_ok (iy_run_ok _ _ _) rfl)))))), Nat.le_of_ble_eq_true rfl, Nat.le_of_ble_eq_true rfl⟩
set_option maxRecDepth 1000000 in
set_option maxHeartbeats 8000000 in
theorem xo_7_big (xs : Nat → Int32) (h1 : 24 ≤ (xs 1).toInt ∧ (xs 1).toInt ≤ 2147483647) : ∃ (N : Nat) (hp : ix_H), N ≤ 2 ^ 15 ∧ ix_R (xTT 6 xs) (ix_run (xTT 6 xs) 14 8) xm_law N (419, xLS, [], xhp0) (some (.int 1), hp) ∧ hp.1 ≤ 600000 ∧ hp.2.1 ≤ 7302250 :=
  ⟨35, _, Nat.le_of_ble_eq_true rfl, (ix_R.step 11 (iy_n_ok (iy_run_ok _ _ _) rfl) (ix_R.step 1 (ix_n_call (Or.inl ⟨_, rfl⟩) rfl (ix_cal_v rfl (Or.inl rfl) rfl rfl rfl ⟨rfl, Nat.le_of_ble_eq_true rfl, Nat.le_of_ble_eq_true rfl⟩ (ix_R.run (N := 6) rfl (Nat.le_of_ble_eq_true rfl) (ix_R.step 2 (iy_n_ok (iy_run_ok _ _ _) rfl) (ix_R.step 1 (ix_n_call (Or.inl ⟨_, rfl⟩) rfl (ix_cal_v rfl (Or.inl rfl) rfl rfl rfl ⟨rfl, Nat.le_of_ble_eq_true rfl, Nat.le_of_ble_eq_true rfl⟩ (ix_R.run (N := 7) rfl (Nat.le_of_ble_eq_true rfl) (ix_R.step 1 (iy_n_ok (iy_run_ok _ _ _) rfl) (ix_R.step 1 (ix_n_iff rfl rfl (cbf_lt (x := xs 1) (y := 0) (by have e9 : (0 : Int32).toInt = 0 := rfl; omega))) (ix_R.step 2 (iy_n_ok (iy_run_ok _ _ _) rfl) (ix_R.step 1 (ix_n_icmpt rfl rfl (cbt_ge (x := xs 1) (y := 24) (by have e9 : (24 : Int32).toInt = 24 := rfl; omega))) (ix_R.fin 2 (iy_n_ok (iy_run_ok _ _ _) rfl)))))) (Nat.le_of_ble_eq_true rfl)))) (ix_R.fin 3 (iy_n_ok (iy_run_ok _ _ _) rfl)))) (Nat.le_of_ble_eq_true rfl)))) (ix_R.step 11 (iy_n_ok (iy_run_ok _ _ _) rfl) (ix_R.step 1 (ix_n_call (Or.inl ⟨_, rfl⟩) rfl (ix_cal_v rfl (Or.inl rfl) rfl rfl rfl ⟨rfl, Nat.le_of_ble_eq_true rfl, Nat.le_of_ble_eq_true rfl⟩ (ix_R.run (N := 6) rfl (Nat.le_of_ble_eq_true rfl) (ix_R.step 2 (iy_n_ok (iy_run_ok _ _ _) rfl) (ix_R.step 1 (ix_n_call (Or.inl ⟨_, rfl⟩) rfl (ix_cal_v rfl (Or.inl rfl) rfl rfl rfl ⟨rfl, Nat.le_of_ble_eq_true rfl, Nat.le_of_ble_eq_true rfl⟩ (ix_R.run (N := 5) rfl (Nat.le_of_ble_eq_true rfl) (ix_R.step 1 (iy_n_ok (iy_run_ok _ _ _) rfl) (ix_R.step 1 (ix_n_call (Or.inr (Or.inr ⟨_, rfl⟩)) rfl (ix_cal_s rfl (Or.inl rfl) ⟨Nat.le_of_ble_eq_true rfl, Nat.le_of_ble_eq_true rfl⟩ (ix_R.run (N := 6) rfl (Nat.le_of_ble_eq_true rfl) (ix_R.step 4 (iy_n_ok (iy_run_ok _ _ _) rfl) (ix_R.step 1 (ix_n_call (Or.inr (Or.inr ⟨_, rfl⟩)) rfl (ix_cal_s rfl (Or.inl rfl) ⟨Nat.le_of_ble_eq_true rfl, Nat.le_of_ble_eq_true rfl⟩ (ix_R.run (N := 10) rfl (Nat.le_of_ble_eq_true rfl) (ix_R.step 3 (iy_n_ok (iy_run_ok _ _ _) rfl) (ix_R.step 1 (ix_n_iff rfl rfl (clf_lt (x := (xs 1).toInt64) (y := 0) (by rw [Int32.toInt_toInt64]; have e9 : (0 : Int64).toInt = 0 := rfl; omega))) (ix_R.step 3 (iy_n_ok (iy_run_ok _ _ _) rfl) (ix_R.step 1 (ix_n_ift rfl rfl (clt_gt (x := (xs 1).toInt64) (y := 23) (by rw [Int32.toInt_toInt64]; have e9 : (23 : Int64).toInt = 23 := rfl; omega))) (ix_R.fin 2 (iy_n_ok (iy_run_ok _ _ _) rfl)))))) (Nat.le_of_ble_eq_true rfl)))) (ix_R.fin 1 (iy_n_ok (iy_run_ok _ _ _) rfl)))) (Nat.le_of_ble_eq_true rfl)))) (ix_R.fin 3 (iy_n_ok (iy_run_ok _ _ _) rfl)))) (Nat.le_of_ble_eq_true rfl)))) (ix_R.fin 3 (iy_n_ok (iy_run_ok _ _ _) rfl)))) (Nat.le_of_ble_eq_true rfl)))) (ix_R.fin 11 (iy_n_ok (iy_run_ok _ _ _) rfl)))))), Nat.le_of_ble_eq_true rfl, Nat.le_of_ble_eq_true rfl⟩
set_option maxRecDepth 1000000 in
set_option maxHeartbeats 8000000 in
theorem xo_7_k0 (xs : Nat → Int32) : ∃ (N : Nat) (hp : ix_H), N ≤ 2 ^ 15 ∧ ix_R (xTT 6 (va_up xs 1 0)) (ix_run (xTT 6 (va_up xs 1 0)) 14 8) xm_law N (419, xLS, [], xhp0) (some (.int 1), hp) ∧ hp.1 ≤ 600000 ∧ hp.2.1 ≤ 7302250 :=
  ⟨35, _, Nat.le_of_ble_eq_true rfl, (ix_R.fin 35 (iy_n_ok (iy_run_ok _ _ _) rfl)), Nat.le_of_ble_eq_true rfl, Nat.le_of_ble_eq_true rfl⟩
set_option maxRecDepth 1000000 in
set_option maxHeartbeats 8000000 in
theorem xo_7_k1 (xs : Nat → Int32) : ∃ (N : Nat) (hp : ix_H), N ≤ 2 ^ 15 ∧ ix_R (xTT 6 (va_up xs 1 1)) (ix_run (xTT 6 (va_up xs 1 1)) 14 8) xm_law N (419, xLS, [], xhp0) (some (.int 1), hp) ∧ hp.1 ≤ 600000 ∧ hp.2.1 ≤ 7302250 :=
  ⟨35, _, Nat.le_of_ble_eq_true rfl, (ix_R.fin 35 (iy_n_ok (iy_run_ok _ _ _) rfl)), Nat.le_of_ble_eq_true rfl, Nat.le_of_ble_eq_true rfl⟩
set_option maxRecDepth 1000000 in
set_option maxHeartbeats 8000000 in
theorem xo_7_k2 (xs : Nat → Int32) : ∃ (N : Nat) (hp : ix_H), N ≤ 2 ^ 15 ∧ ix_R (xTT 6 (va_up xs 1 2)) (ix_run (xTT 6 (va_up xs 1 2)) 14 8) xm_law N (419, xLS, [], xhp0) (some (.int 1), hp) ∧ hp.1 ≤ 600000 ∧ hp.2.1 ≤ 7302250 :=
  ⟨35, _, Nat.le_of_ble_eq_true rfl, (ix_R.fin 35 (iy_n_ok (iy_run_ok _ _ _) rfl)), Nat.le_of_ble_eq_true rfl, Nat.le_of_ble_eq_true rfl⟩
set_option maxRecDepth 1000000 in
set_option maxHeartbeats 8000000 in
theorem xo_7_k3 (xs : Nat → Int32) : ∃ (N : Nat) (hp : ix_H), N ≤ 2 ^ 15 ∧ ix_R (xTT 6 (va_up xs 1 3)) (ix_run (xTT 6 (va_up xs 1 3)) 14 8) xm_law N (419, xLS, [], xhp0) (some (.int 1), hp) ∧ hp.1 ≤ 600000 ∧ hp.2.1 ≤ 7302250 :=
  ⟨35, _, Nat.le_of_ble_eq_true rfl, (ix_R.fin 35 (iy_n_ok (iy_run_ok _ _ _) rfl)), Nat.le_of_ble_eq_true rfl, Nat.le_of_ble_eq_true rfl⟩
set_option maxRecDepth 1000000 in
set_option maxHeartbeats 8000000 in
theorem xo_7_k4 (xs : Nat → Int32) : ∃ (N : Nat) (hp : ix_H), N ≤ 2 ^ 15 ∧ ix_R (xTT 6 (va_up xs 1 4)) (ix_run (xTT 6 (va_up xs 1 4)) 14 8) xm_law N (419, xLS, [], xhp0) (some (.int 1), hp) ∧ hp.1 ≤ 600000 ∧ hp.2.1 ≤ 7302250 :=
  ⟨35, _, Nat.le_of_ble_eq_true rfl, (ix_R.fin 35 (iy_n_ok (iy_run_ok _ _ _) rfl)), Nat.le_of_ble_eq_true rfl, Nat.le_of_ble_eq_true rfl⟩
set_option maxRecDepth 1000000 in
set_option maxHeartbeats 8000000 in
theorem xo_7_k5 (xs : Nat → Int32) : ∃ (N : Nat) (hp : ix_H), N ≤ 2 ^ 15 ∧ ix_R (xTT 6 (va_up xs 1 5)) (ix_run (xTT 6 (va_up xs 1 5)) 14 8) xm_law N (419, xLS, [], xhp0) (some (.int 1), hp) ∧ hp.1 ≤ 600000 ∧ hp.2.1 ≤ 7302250 :=
  ⟨35, _, Nat.le_of_ble_eq_true rfl, (ix_R.fin 35 (iy_n_ok (iy_run_ok _ _ _) rfl)), Nat.le_of_ble_eq_true rfl, Nat.le_of_ble_eq_true rfl⟩
set_option maxRecDepth 1000000 in
set_option maxHeartbeats 8000000 in
theorem xo_7_k6 (xs : Nat → Int32) : ∃ (N : Nat) (hp : ix_H), N ≤ 2 ^ 15 ∧ ix_R (xTT 6 (va_up xs 1 6)) (ix_run (xTT 6 (va_up xs 1 6)) 14 8) xm_law N (419, xLS, [], xhp0) (some (.int 1), hp) ∧ hp.1 ≤ 600000 ∧ hp.2.1 ≤ 7302250 :=
  ⟨35, _, Nat.le_of_ble_eq_true rfl, (ix_R.fin 35 (iy_n_ok (iy_run_ok _ _ _) rfl)), Nat.le_of_ble_eq_true rfl, Nat.le_of_ble_eq_true rfl⟩
set_option maxRecDepth 1000000 in
set_option maxHeartbeats 8000000 in
theorem xo_7_k7 (xs : Nat → Int32) : ∃ (N : Nat) (hp : ix_H), N ≤ 2 ^ 15 ∧ ix_R (xTT 6 (va_up xs 1 7)) (ix_run (xTT 6 (va_up xs 1 7)) 14 8) xm_law N (419, xLS, [], xhp0) (some (.int 1), hp) ∧ hp.1 ≤ 600000 ∧ hp.2.1 ≤ 7302250 :=
  ⟨35, _, Nat.le_of_ble_eq_true rfl, (ix_R.fin 35 (iy_n_ok (iy_run_ok _ _ _) rfl)), Nat.le_of_ble_eq_true rfl, Nat.le_of_ble_eq_true rfl⟩
set_option maxRecDepth 1000000 in
set_option maxHeartbeats 8000000 in
theorem xo_7_k8 (xs : Nat → Int32) : ∃ (N : Nat) (hp : ix_H), N ≤ 2 ^ 15 ∧ ix_R (xTT 6 (va_up xs 1 8)) (ix_run (xTT 6 (va_up xs 1 8)) 14 8) xm_law N (419, xLS, [], xhp0) (some (.int 1), hp) ∧ hp.1 ≤ 600000 ∧ hp.2.1 ≤ 7302250 :=
  ⟨35, _, Nat.le_of_ble_eq_true rfl, (ix_R.fin 35 (iy_n_ok (iy_run_ok _ _ _) rfl)), Nat.le_of_ble_eq_true rfl, Nat.le_of_ble_eq_true rfl⟩
set_option maxRecDepth 1000000 in
set_option maxHeartbeats 8000000 in
theorem xo_7_k9 (xs : Nat → Int32) : ∃ (N : Nat) (hp : ix_H), N ≤ 2 ^ 15 ∧ ix_R (xTT 6 (va_up xs 1 9)) (ix_run (xTT 6 (va_up xs 1 9)) 14 8) xm_law N (419, xLS, [], xhp0) (some (.int 1), hp) ∧ hp.1 ≤ 600000 ∧ hp.2.1 ≤ 7302250 :=
  ⟨35, _, Nat.le_of_ble_eq_true rfl, (ix_R.fin 35 (iy_n_ok (iy_run_ok _ _ _) rfl)), Nat.le_of_ble_eq_true rfl, Nat.le_of_ble_eq_true rfl⟩
set_option maxRecDepth 1000000 in
set_option maxHeartbeats 8000000 in
theorem xo_7_k10 (xs : Nat → Int32) : ∃ (N : Nat) (hp : ix_H), N ≤ 2 ^ 15 ∧ ix_R (xTT 6 (va_up xs 1 10)) (ix_run (xTT 6 (va_up xs 1 10)) 14 8) xm_law N (419, xLS, [], xhp0) (some (.int 1), hp) ∧ hp.1 ≤ 600000 ∧ hp.2.1 ≤ 7302250 :=
  ⟨35, _, Nat.le_of_ble_eq_true rfl, (ix_R.fin 35 (iy_n_ok (iy_run_ok _ _ _) rfl)), Nat.le_of_ble_eq_true rfl, Nat.le_of_ble_eq_true rfl⟩
set_option maxRecDepth 1000000 in
set_option maxHeartbeats 8000000 in
theorem xo_7_k11 (xs : Nat → Int32) : ∃ (N : Nat) (hp : ix_H), N ≤ 2 ^ 15 ∧ ix_R (xTT 6 (va_up xs 1 11)) (ix_run (xTT 6 (va_up xs 1 11)) 14 8) xm_law N (419, xLS, [], xhp0) (some (.int 1), hp) ∧ hp.1 ≤ 600000 ∧ hp.2.1 ≤ 7302250 :=
  ⟨35, _, Nat.le_of_ble_eq_true rfl, (ix_R.fin 35 (iy_n_ok (iy_run_ok _ _ _) rfl)), Nat.le_of_ble_eq_true rfl, Nat.le_of_ble_eq_true rfl⟩
set_option maxRecDepth 1000000 in
set_option maxHeartbeats 8000000 in
theorem xo_7_k12 (xs : Nat → Int32) : ∃ (N : Nat) (hp : ix_H), N ≤ 2 ^ 15 ∧ ix_R (xTT 6 (va_up xs 1 12)) (ix_run (xTT 6 (va_up xs 1 12)) 14 8) xm_law N (419, xLS, [], xhp0) (some (.int 1), hp) ∧ hp.1 ≤ 600000 ∧ hp.2.1 ≤ 7302250 :=
  ⟨35, _, Nat.le_of_ble_eq_true rfl, (ix_R.fin 35 (iy_n_ok (iy_run_ok _ _ _) rfl)), Nat.le_of_ble_eq_true rfl, Nat.le_of_ble_eq_true rfl⟩
set_option maxRecDepth 1000000 in
set_option maxHeartbeats 8000000 in
theorem xo_7_k13 (xs : Nat → Int32) : ∃ (N : Nat) (hp : ix_H), N ≤ 2 ^ 15 ∧ ix_R (xTT 6 (va_up xs 1 13)) (ix_run (xTT 6 (va_up xs 1 13)) 14 8) xm_law N (419, xLS, [], xhp0) (some (.int 1), hp) ∧ hp.1 ≤ 600000 ∧ hp.2.1 ≤ 7302250 :=
  ⟨35, _, Nat.le_of_ble_eq_true rfl, (ix_R.fin 35 (iy_n_ok (iy_run_ok _ _ _) rfl)), Nat.le_of_ble_eq_true rfl, Nat.le_of_ble_eq_true rfl⟩
set_option maxRecDepth 1000000 in
set_option maxHeartbeats 8000000 in
theorem xo_7_k14 (xs : Nat → Int32) : ∃ (N : Nat) (hp : ix_H), N ≤ 2 ^ 15 ∧ ix_R (xTT 6 (va_up xs 1 14)) (ix_run (xTT 6 (va_up xs 1 14)) 14 8) xm_law N (419, xLS, [], xhp0) (some (.int 1), hp) ∧ hp.1 ≤ 600000 ∧ hp.2.1 ≤ 7302250 :=
  ⟨35, _, Nat.le_of_ble_eq_true rfl, (ix_R.fin 35 (iy_n_ok (iy_run_ok _ _ _) rfl)), Nat.le_of_ble_eq_true rfl, Nat.le_of_ble_eq_true rfl⟩
set_option maxRecDepth 1000000 in
set_option maxHeartbeats 8000000 in
theorem xo_7_k15 (xs : Nat → Int32) : ∃ (N : Nat) (hp : ix_H), N ≤ 2 ^ 15 ∧ ix_R (xTT 6 (va_up xs 1 15)) (ix_run (xTT 6 (va_up xs 1 15)) 14 8) xm_law N (419, xLS, [], xhp0) (some (.int 1), hp) ∧ hp.1 ≤ 600000 ∧ hp.2.1 ≤ 7302250 :=
  ⟨35, _, Nat.le_of_ble_eq_true rfl, (ix_R.fin 35 (iy_n_ok (iy_run_ok _ _ _) rfl)), Nat.le_of_ble_eq_true rfl, Nat.le_of_ble_eq_true rfl⟩
set_option maxRecDepth 1000000 in
set_option maxHeartbeats 8000000 in
theorem xo_7_k16 (xs : Nat → Int32) : ∃ (N : Nat) (hp : ix_H), N ≤ 2 ^ 15 ∧ ix_R (xTT 6 (va_up xs 1 16)) (ix_run (xTT 6 (va_up xs 1 16)) 14 8) xm_law N (419, xLS, [], xhp0) (some (.int 1), hp) ∧ hp.1 ≤ 600000 ∧ hp.2.1 ≤ 7302250 :=
  ⟨35, _, Nat.le_of_ble_eq_true rfl, (ix_R.fin 35 (iy_n_ok (iy_run_ok _ _ _) rfl)), Nat.le_of_ble_eq_true rfl, Nat.le_of_ble_eq_true rfl⟩
set_option maxRecDepth 1000000 in
set_option maxHeartbeats 8000000 in
theorem xo_7_k17 (xs : Nat → Int32) : ∃ (N : Nat) (hp : ix_H), N ≤ 2 ^ 15 ∧ ix_R (xTT 6 (va_up xs 1 17)) (ix_run (xTT 6 (va_up xs 1 17)) 14 8) xm_law N (419, xLS, [], xhp0) (some (.int 1), hp) ∧ hp.1 ≤ 600000 ∧ hp.2.1 ≤ 7302250 :=
  ⟨35, _, Nat.le_of_ble_eq_true rfl, (ix_R.fin 35 (iy_n_ok (iy_run_ok _ _ _) rfl)), Nat.le_of_ble_eq_true rfl, Nat.le_of_ble_eq_true rfl⟩
set_option maxRecDepth 1000000 in
set_option maxHeartbeats 8000000 in
theorem xo_7_k18 (xs : Nat → Int32) : ∃ (N : Nat) (hp : ix_H), N ≤ 2 ^ 15 ∧ ix_R (xTT 6 (va_up xs 1 18)) (ix_run (xTT 6 (va_up xs 1 18)) 14 8) xm_law N (419, xLS, [], xhp0) (some (.int 1), hp) ∧ hp.1 ≤ 600000 ∧ hp.2.1 ≤ 7302250 :=
  ⟨35, _, Nat.le_of_ble_eq_true rfl, (ix_R.fin 35 (iy_n_ok (iy_run_ok _ _ _) rfl)), Nat.le_of_ble_eq_true rfl, Nat.le_of_ble_eq_true rfl⟩
set_option maxRecDepth 1000000 in
set_option maxHeartbeats 8000000 in
theorem xo_7_k19 (xs : Nat → Int32) : ∃ (N : Nat) (hp : ix_H), N ≤ 2 ^ 15 ∧ ix_R (xTT 6 (va_up xs 1 19)) (ix_run (xTT 6 (va_up xs 1 19)) 14 8) xm_law N (419, xLS, [], xhp0) (some (.int 1), hp) ∧ hp.1 ≤ 600000 ∧ hp.2.1 ≤ 7302250 :=
  ⟨35, _, Nat.le_of_ble_eq_true rfl, (ix_R.fin 35 (iy_n_ok (iy_run_ok _ _ _) rfl)), Nat.le_of_ble_eq_true rfl, Nat.le_of_ble_eq_true rfl⟩
set_option maxRecDepth 1000000 in
set_option maxHeartbeats 8000000 in
theorem xo_7_k20 (xs : Nat → Int32) : ∃ (N : Nat) (hp : ix_H), N ≤ 2 ^ 15 ∧ ix_R (xTT 6 (va_up xs 1 20)) (ix_run (xTT 6 (va_up xs 1 20)) 14 8) xm_law N (419, xLS, [], xhp0) (some (.int 1), hp) ∧ hp.1 ≤ 600000 ∧ hp.2.1 ≤ 7302250 :=
  ⟨35, _, Nat.le_of_ble_eq_true rfl, (ix_R.fin 35 (iy_n_ok (iy_run_ok _ _ _) rfl)), Nat.le_of_ble_eq_true rfl, Nat.le_of_ble_eq_true rfl⟩
set_option maxRecDepth 1000000 in
set_option maxHeartbeats 8000000 in
theorem xo_7_k21 (xs : Nat → Int32) : ∃ (N : Nat) (hp : ix_H), N ≤ 2 ^ 15 ∧ ix_R (xTT 6 (va_up xs 1 21)) (ix_run (xTT 6 (va_up xs 1 21)) 14 8) xm_law N (419, xLS, [], xhp0) (some (.int 1), hp) ∧ hp.1 ≤ 600000 ∧ hp.2.1 ≤ 7302250 :=
  ⟨35, _, Nat.le_of_ble_eq_true rfl, (ix_R.fin 35 (iy_n_ok (iy_run_ok _ _ _) rfl)), Nat.le_of_ble_eq_true rfl, Nat.le_of_ble_eq_true rfl⟩
set_option maxRecDepth 1000000 in
set_option maxHeartbeats 8000000 in
theorem xo_7_k22 (xs : Nat → Int32) : ∃ (N : Nat) (hp : ix_H), N ≤ 2 ^ 15 ∧ ix_R (xTT 6 (va_up xs 1 22)) (ix_run (xTT 6 (va_up xs 1 22)) 14 8) xm_law N (419, xLS, [], xhp0) (some (.int 1), hp) ∧ hp.1 ≤ 600000 ∧ hp.2.1 ≤ 7302250 :=
  ⟨35, _, Nat.le_of_ble_eq_true rfl, (ix_R.fin 35 (iy_n_ok (iy_run_ok _ _ _) rfl)), Nat.le_of_ble_eq_true rfl, Nat.le_of_ble_eq_true rfl⟩
set_option maxRecDepth 1000000 in
set_option maxHeartbeats 8000000 in
theorem xo_7_k23 (xs : Nat → Int32) : ∃ (N : Nat) (hp : ix_H), N ≤ 2 ^ 15 ∧ ix_R (xTT 6 (va_up xs 1 23)) (ix_run (xTT 6 (va_up xs 1 23)) 14 8) xm_law N (419, xLS, [], xhp0) (some (.int 1), hp) ∧ hp.1 ≤ 600000 ∧ hp.2.1 ≤ 7302250 :=
  ⟨35, _, Nat.le_of_ble_eq_true rfl, (ix_R.fin 35 (iy_n_ok (iy_run_ok _ _ _) rfl)), Nat.le_of_ble_eq_true rfl, Nat.le_of_ble_eq_true rfl⟩
set_option maxRecDepth 1000000 in
set_option maxHeartbeats 8000000 in
theorem xo_8_neg (xs : Nat → Int32) (h1 : -2147483648 ≤ (xs 1).toInt ∧ (xs 1).toInt ≤ -1) : ∃ (N : Nat) (hp : ix_H), N ≤ 2 ^ 15 ∧ ix_R (xTT 6 xs) (ix_run (xTT 6 xs) 14 8) xm_law N (452, xLS, [], xhp0) (some (.int 1), hp) ∧ hp.1 ≤ 600000 ∧ hp.2.1 ≤ 7302250 :=
  ⟨46, _, Nat.le_of_ble_eq_true rfl, (ix_R.step 16 (iy_n_ok (iy_run_ok _ _ _) rfl) (ix_R.step 1 (ix_n_call (Or.inl ⟨_, rfl⟩) rfl (ix_cal_v rfl (Or.inl rfl) rfl rfl rfl ⟨rfl, Nat.le_of_ble_eq_true rfl, Nat.le_of_ble_eq_true rfl⟩ (ix_R.run (N := 6) rfl (Nat.le_of_ble_eq_true rfl) (ix_R.step 2 (iy_n_ok (iy_run_ok _ _ _) rfl) (ix_R.step 1 (ix_n_call (Or.inl ⟨_, rfl⟩) rfl (ix_cal_v rfl (Or.inl rfl) rfl rfl rfl ⟨rfl, Nat.le_of_ble_eq_true rfl, Nat.le_of_ble_eq_true rfl⟩ (ix_R.run (N := 4) rfl (Nat.le_of_ble_eq_true rfl) (ix_R.step 1 (iy_n_ok (iy_run_ok _ _ _) rfl) (ix_R.step 1 (ix_n_ift rfl rfl (cbt_lt (x := xs 1) (y := 0) (by have e9 : (0 : Int32).toInt = 0 := rfl; omega))) (ix_R.fin 2 (iy_n_ok (iy_run_ok _ _ _) rfl)))) (Nat.le_of_ble_eq_true rfl)))) (ix_R.fin 3 (iy_n_ok (iy_run_ok _ _ _) rfl)))) (Nat.le_of_ble_eq_true rfl)))) (ix_R.step 16 (iy_n_ok (iy_run_ok _ _ _) rfl) (ix_R.step 1 (ix_n_call (Or.inl ⟨_, rfl⟩) rfl (ix_cal_v rfl (Or.inl rfl) rfl rfl rfl ⟨rfl, Nat.le_of_ble_eq_true rfl, Nat.le_of_ble_eq_true rfl⟩ (ix_R.run (N := 6) rfl (Nat.le_of_ble_eq_true rfl) (ix_R.step 2 (iy_n_ok (iy_run_ok _ _ _) rfl) (ix_R.step 1 (ix_n_call (Or.inl ⟨_, rfl⟩) rfl (ix_cal_v rfl (Or.inl rfl) rfl rfl rfl ⟨rfl, Nat.le_of_ble_eq_true rfl, Nat.le_of_ble_eq_true rfl⟩ (ix_R.run (N := 5) rfl (Nat.le_of_ble_eq_true rfl) (ix_R.step 1 (iy_n_ok (iy_run_ok _ _ _) rfl) (ix_R.step 1 (ix_n_call (Or.inr (Or.inr ⟨_, rfl⟩)) rfl (ix_cal_s rfl (Or.inl rfl) ⟨Nat.le_of_ble_eq_true rfl, Nat.le_of_ble_eq_true rfl⟩ (ix_R.run (N := 6) rfl (Nat.le_of_ble_eq_true rfl) (ix_R.step 4 (iy_n_ok (iy_run_ok _ _ _) rfl) (ix_R.step 1 (ix_n_call (Or.inr (Or.inr ⟨_, rfl⟩)) rfl (ix_cal_s rfl (Or.inl rfl) ⟨Nat.le_of_ble_eq_true rfl, Nat.le_of_ble_eq_true rfl⟩ (ix_R.run (N := 6) rfl (Nat.le_of_ble_eq_true rfl) (ix_R.step 3 (iy_n_ok (iy_run_ok _ _ _) rfl) (ix_R.step 1 (ix_n_ift rfl rfl (clt_lt (x := (xs 1).toInt64) (y := 0) (by rw [Int32.toInt_toInt64]; have e9 : (0 : Int64).toInt = 0 := rfl; omega))) (ix_R.fin 2 (iy_n_ok (iy_run_ok _ _ _) rfl)))) (Nat.le_of_ble_eq_true rfl)))) (ix_R.fin 1 (iy_n_ok (iy_run_ok _ _ _) rfl)))) (Nat.le_of_ble_eq_true rfl)))) (ix_R.fin 3 (iy_n_ok (iy_run_ok _ _ _) rfl)))) (Nat.le_of_ble_eq_true rfl)))) (ix_R.fin 3 (iy_n_ok (iy_run_ok _ _ _) rfl)))) (Nat.le_of_ble_eq_true rfl)))) (ix_R.fin 12 (iy_n_ok (iy_run_ok _ _ _) rfl)))))), Nat.le_of_ble_eq_true rfl, Nat.le_of_ble_eq_true rfl⟩
set_option maxRecDepth 1000000 in
set_option maxHeartbeats 8000000 in
theorem xo_8_big (xs : Nat → Int32) (h1 : 24 ≤ (xs 1).toInt ∧ (xs 1).toInt ≤ 2147483647) : ∃ (N : Nat) (hp : ix_H), N ≤ 2 ^ 15 ∧ ix_R (xTT 6 xs) (ix_run (xTT 6 xs) 14 8) xm_law N (452, xLS, [], xhp0) (some (.int 1), hp) ∧ hp.1 ≤ 600000 ∧ hp.2.1 ≤ 7302250 :=
  ⟨46, _, Nat.le_of_ble_eq_true rfl, (ix_R.step 16 (iy_n_ok (iy_run_ok _ _ _) rfl) (ix_R.step 1 (ix_n_call (Or.inl ⟨_, rfl⟩) rfl (ix_cal_v rfl (Or.inl rfl) rfl rfl rfl ⟨rfl, Nat.le_of_ble_eq_true rfl, Nat.le_of_ble_eq_true rfl⟩ (ix_R.run (N := 6) rfl (Nat.le_of_ble_eq_true rfl) (ix_R.step 2 (iy_n_ok (iy_run_ok _ _ _) rfl) (ix_R.step 1 (ix_n_call (Or.inl ⟨_, rfl⟩) rfl (ix_cal_v rfl (Or.inl rfl) rfl rfl rfl ⟨rfl, Nat.le_of_ble_eq_true rfl, Nat.le_of_ble_eq_true rfl⟩ (ix_R.run (N := 7) rfl (Nat.le_of_ble_eq_true rfl) (ix_R.step 1 (iy_n_ok (iy_run_ok _ _ _) rfl) (ix_R.step 1 (ix_n_iff rfl rfl (cbf_lt (x := xs 1) (y := 0) (by have e9 : (0 : Int32).toInt = 0 := rfl; omega))) (ix_R.step 2 (iy_n_ok (iy_run_ok _ _ _) rfl) (ix_R.step 1 (ix_n_icmpt rfl rfl (cbt_ge (x := xs 1) (y := 24) (by have e9 : (24 : Int32).toInt = 24 := rfl; omega))) (ix_R.fin 2 (iy_n_ok (iy_run_ok _ _ _) rfl)))))) (Nat.le_of_ble_eq_true rfl)))) (ix_R.fin 3 (iy_n_ok (iy_run_ok _ _ _) rfl)))) (Nat.le_of_ble_eq_true rfl)))) (ix_R.step 16 (iy_n_ok (iy_run_ok _ _ _) rfl) (ix_R.step 1 (ix_n_call (Or.inl ⟨_, rfl⟩) rfl (ix_cal_v rfl (Or.inl rfl) rfl rfl rfl ⟨rfl, Nat.le_of_ble_eq_true rfl, Nat.le_of_ble_eq_true rfl⟩ (ix_R.run (N := 6) rfl (Nat.le_of_ble_eq_true rfl) (ix_R.step 2 (iy_n_ok (iy_run_ok _ _ _) rfl) (ix_R.step 1 (ix_n_call (Or.inl ⟨_, rfl⟩) rfl (ix_cal_v rfl (Or.inl rfl) rfl rfl rfl ⟨rfl, Nat.le_of_ble_eq_true rfl, Nat.le_of_ble_eq_true rfl⟩ (ix_R.run (N := 5) rfl (Nat.le_of_ble_eq_true rfl) (ix_R.step 1 (iy_n_ok (iy_run_ok _ _ _) rfl) (ix_R.step 1 (ix_n_call (Or.inr (Or.inr ⟨_, rfl⟩)) rfl (ix_cal_s rfl (Or.inl rfl) ⟨Nat.le_of_ble_eq_true rfl, Nat.le_of_ble_eq_true rfl⟩ (ix_R.run (N := 6) rfl (Nat.le_of_ble_eq_true rfl) (ix_R.step 4 (iy_n_ok (iy_run_ok _ _ _) rfl) (ix_R.step 1 (ix_n_call (Or.inr (Or.inr ⟨_, rfl⟩)) rfl (ix_cal_s rfl (Or.inl rfl) ⟨Nat.le_of_ble_eq_true rfl, Nat.le_of_ble_eq_true rfl⟩ (ix_R.run (N := 10) rfl (Nat.le_of_ble_eq_true rfl) (ix_R.step 3 (iy_n_ok (iy_run_ok _ _ _) rfl) (ix_R.step 1 (ix_n_iff rfl rfl (clf_lt (x := (xs 1).toInt64) (y := 0) (by rw [Int32.toInt_toInt64]; have e9 : (0 : Int64).toInt = 0 := rfl; omega))) (ix_R.step 3 (iy_n_ok (iy_run_ok _ _ _) rfl) (ix_R.step 1 (ix_n_ift rfl rfl (clt_gt (x := (xs 1).toInt64) (y := 23) (by rw [Int32.toInt_toInt64]; have e9 : (23 : Int64).toInt = 23 := rfl; omega))) (ix_R.fin 2 (iy_n_ok (iy_run_ok _ _ _) rfl)))))) (Nat.le_of_ble_eq_true rfl)))) (ix_R.fin 1 (iy_n_ok (iy_run_ok _ _ _) rfl)))) (Nat.le_of_ble_eq_true rfl)))) (ix_R.fin 3 (iy_n_ok (iy_run_ok _ _ _) rfl)))) (Nat.le_of_ble_eq_true rfl)))) (ix_R.fin 3 (iy_n_ok (iy_run_ok _ _ _) rfl)))) (Nat.le_of_ble_eq_true rfl)))) (ix_R.fin 12 (iy_n_ok (iy_run_ok _ _ _) rfl)))))), Nat.le_of_ble_eq_true rfl, Nat.le_of_ble_eq_true rfl⟩
set_option maxRecDepth 1000000 in
set_option maxHeartbeats 8000000 in
theorem xo_8_k0 (xs : Nat → Int32) : ∃ (N : Nat) (hp : ix_H), N ≤ 2 ^ 15 ∧ ix_R (xTT 6 (va_up xs 1 0)) (ix_run (xTT 6 (va_up xs 1 0)) 14 8) xm_law N (452, xLS, [], xhp0) (some (.int 1), hp) ∧ hp.1 ≤ 600000 ∧ hp.2.1 ≤ 7302250 :=
  ⟨46, _, Nat.le_of_ble_eq_true rfl, (ix_R.fin 46 (iy_n_ok (iy_run_ok _ _ _) rfl)), Nat.le_of_ble_eq_true rfl, Nat.le_of_ble_eq_true rfl⟩
set_option maxRecDepth 1000000 in
set_option maxHeartbeats 8000000 in
theorem xo_8_k1 (xs : Nat → Int32) : ∃ (N : Nat) (hp : ix_H), N ≤ 2 ^ 15 ∧ ix_R (xTT 6 (va_up xs 1 1)) (ix_run (xTT 6 (va_up xs 1 1)) 14 8) xm_law N (452, xLS, [], xhp0) (some (.int 1), hp) ∧ hp.1 ≤ 600000 ∧ hp.2.1 ≤ 7302250 :=
  ⟨46, _, Nat.le_of_ble_eq_true rfl, (ix_R.fin 46 (iy_n_ok (iy_run_ok _ _ _) rfl)), Nat.le_of_ble_eq_true rfl, Nat.le_of_ble_eq_true rfl⟩
set_option maxRecDepth 1000000 in
set_option maxHeartbeats 8000000 in
theorem xo_8_k2 (xs : Nat → Int32) : ∃ (N : Nat) (hp : ix_H), N ≤ 2 ^ 15 ∧ ix_R (xTT 6 (va_up xs 1 2)) (ix_run (xTT 6 (va_up xs 1 2)) 14 8) xm_law N (452, xLS, [], xhp0) (some (.int 1), hp) ∧ hp.1 ≤ 600000 ∧ hp.2.1 ≤ 7302250 :=
  ⟨46, _, Nat.le_of_ble_eq_true rfl, (ix_R.fin 46 (iy_n_ok (iy_run_ok _ _ _) rfl)), Nat.le_of_ble_eq_true rfl, Nat.le_of_ble_eq_true rfl⟩
set_option maxRecDepth 1000000 in
set_option maxHeartbeats 8000000 in
theorem xo_8_k3 (xs : Nat → Int32) : ∃ (N : Nat) (hp : ix_H), N ≤ 2 ^ 15 ∧ ix_R (xTT 6 (va_up xs 1 3)) (ix_run (xTT 6 (va_up xs 1 3)) 14 8) xm_law N (452, xLS, [], xhp0) (some (.int 1), hp) ∧ hp.1 ≤ 600000 ∧ hp.2.1 ≤ 7302250 :=
  ⟨46, _, Nat.le_of_ble_eq_true rfl, (ix_R.fin 46 (iy_n_ok (iy_run_ok _ _ _) rfl)), Nat.le_of_ble_eq_true rfl, Nat.le_of_ble_eq_true rfl⟩
set_option maxRecDepth 1000000 in
set_option maxHeartbeats 8000000 in
theorem xo_8_k4 (xs : Nat → Int32) : ∃ (N : Nat) (hp : ix_H), N ≤ 2 ^ 15 ∧ ix_R (xTT 6 (va_up xs 1 4)) (ix_run (xTT 6 (va_up xs 1 4)) 14 8) xm_law N (452, xLS, [], xhp0) (some (.int 1), hp) ∧ hp.1 ≤ 600000 ∧ hp.2.1 ≤ 7302250 :=
  ⟨46, _, Nat.le_of_ble_eq_true rfl, (ix_R.fin 46 (iy_n_ok (iy_run_ok _ _ _) rfl)), Nat.le_of_ble_eq_true rfl, Nat.le_of_ble_eq_true rfl⟩
set_option maxRecDepth 1000000 in
set_option maxHeartbeats 8000000 in
theorem xo_8_k5 (xs : Nat → Int32) : ∃ (N : Nat) (hp : ix_H), N ≤ 2 ^ 15 ∧ ix_R (xTT 6 (va_up xs 1 5)) (ix_run (xTT 6 (va_up xs 1 5)) 14 8) xm_law N (452, xLS, [], xhp0) (some (.int 1), hp) ∧ hp.1 ≤ 600000 ∧ hp.2.1 ≤ 7302250 :=
  ⟨46, _, Nat.le_of_ble_eq_true rfl, (ix_R.fin 46 (iy_n_ok (iy_run_ok _ _ _) rfl)), Nat.le_of_ble_eq_true rfl, Nat.le_of_ble_eq_true rfl⟩
set_option maxRecDepth 1000000 in
set_option maxHeartbeats 8000000 in
theorem xo_8_k6 (xs : Nat → Int32) : ∃ (N : Nat) (hp : ix_H), N ≤ 2 ^ 15 ∧ ix_R (xTT 6 (va_up xs 1 6)) (ix_run (xTT 6 (va_up xs 1 6)) 14 8) xm_law N (452, xLS, [], xhp0) (some (.int 1), hp) ∧ hp.1 ≤ 600000 ∧ hp.2.1 ≤ 7302250 :=
  ⟨46, _, Nat.le_of_ble_eq_true rfl, (ix_R.fin 46 (iy_n_ok (iy_run_ok _ _ _) rfl)), Nat.le_of_ble_eq_true rfl, Nat.le_of_ble_eq_true rfl⟩
set_option maxRecDepth 1000000 in
set_option maxHeartbeats 8000000 in
theorem xo_8_k7 (xs : Nat → Int32) : ∃ (N : Nat) (hp : ix_H), N ≤ 2 ^ 15 ∧ ix_R (xTT 6 (va_up xs 1 7)) (ix_run (xTT 6 (va_up xs 1 7)) 14 8) xm_law N (452, xLS, [], xhp0) (some (.int 1), hp) ∧ hp.1 ≤ 600000 ∧ hp.2.1 ≤ 7302250 :=
  ⟨46, _, Nat.le_of_ble_eq_true rfl, (ix_R.fin 46 (iy_n_ok (iy_run_ok _ _ _) rfl)), Nat.le_of_ble_eq_true rfl, Nat.le_of_ble_eq_true rfl⟩
set_option maxRecDepth 1000000 in
set_option maxHeartbeats 8000000 in
theorem xo_8_k8 (xs : Nat → Int32) : ∃ (N : Nat) (hp : ix_H), N ≤ 2 ^ 15 ∧ ix_R (xTT 6 (va_up xs 1 8)) (ix_run (xTT 6 (va_up xs 1 8)) 14 8) xm_law N (452, xLS, [], xhp0) (some (.int 1), hp) ∧ hp.1 ≤ 600000 ∧ hp.2.1 ≤ 7302250 :=
  ⟨46, _, Nat.le_of_ble_eq_true rfl, (ix_R.fin 46 (iy_n_ok (iy_run_ok _ _ _) rfl)), Nat.le_of_ble_eq_true rfl, Nat.le_of_ble_eq_true rfl⟩
set_option maxRecDepth 1000000 in
set_option maxHeartbeats 8000000 in
theorem xo_8_k9 (xs : Nat → Int32) : ∃ (N : Nat) (hp : ix_H), N ≤ 2 ^ 15 ∧ ix_R (xTT 6 (va_up xs 1 9)) (ix_run (xTT 6 (va_up xs 1 9)) 14 8) xm_law N (452, xLS, [], xhp0) (some (.int 1), hp) ∧ hp.1 ≤ 600000 ∧ hp.2.1 ≤ 7302250 :=
  ⟨46, _, Nat.le_of_ble_eq_true rfl, (ix_R.fin 46 (iy_n_ok (iy_run_ok _ _ _) rfl)), Nat.le_of_ble_eq_true rfl, Nat.le_of_ble_eq_true rfl⟩
set_option maxRecDepth 1000000 in
set_option maxHeartbeats 8000000 in
theorem xo_8_k10 (xs : Nat → Int32) : ∃ (N : Nat) (hp : ix_H), N ≤ 2 ^ 15 ∧ ix_R (xTT 6 (va_up xs 1 10)) (ix_run (xTT 6 (va_up xs 1 10)) 14 8) xm_law N (452, xLS, [], xhp0) (some (.int 1), hp) ∧ hp.1 ≤ 600000 ∧ hp.2.1 ≤ 7302250 :=
  ⟨46, _, Nat.le_of_ble_eq_true rfl, (ix_R.fin 46 (iy_n_ok (iy_run_ok _ _ _) rfl)), Nat.le_of_ble_eq_true rfl, Nat.le_of_ble_eq_true rfl⟩
set_option maxRecDepth 1000000 in
set_option maxHeartbeats 8000000 in
theorem xo_8_k11 (xs : Nat → Int32) : ∃ (N : Nat) (hp : ix_H), N ≤ 2 ^ 15 ∧ ix_R (xTT 6 (va_up xs 1 11)) (ix_run (xTT 6 (va_up xs 1 11)) 14 8) xm_law N (452, xLS, [], xhp0) (some (.int 1), hp) ∧ hp.1 ≤ 600000 ∧ hp.2.1 ≤ 7302250 :=
  ⟨46, _, Nat.le_of_ble_eq_true rfl, (ix_R.fin 46 (iy_n_ok (iy_run_ok _ _ _) rfl)), Nat.le_of_ble_eq_true rfl, Nat.le_of_ble_eq_true rfl⟩
set_option maxRecDepth 1000000 in
set_option maxHeartbeats 8000000 in
theorem xo_8_k12 (xs : Nat → Int32) : ∃ (N : Nat) (hp : ix_H), N ≤ 2 ^ 15 ∧ ix_R (xTT 6 (va_up xs 1 12)) (ix_run (xTT 6 (va_up xs 1 12)) 14 8) xm_law N (452, xLS, [], xhp0) (some (.int 1), hp) ∧ hp.1 ≤ 600000 ∧ hp.2.1 ≤ 7302250 :=
  ⟨46, _, Nat.le_of_ble_eq_true rfl, (ix_R.fin 46 (iy_n_ok (iy_run_ok _ _ _) rfl)), Nat.le_of_ble_eq_true rfl, Nat.le_of_ble_eq_true rfl⟩
set_option maxRecDepth 1000000 in
set_option maxHeartbeats 8000000 in
theorem xo_8_k13 (xs : Nat → Int32) : ∃ (N : Nat) (hp : ix_H), N ≤ 2 ^ 15 ∧ ix_R (xTT 6 (va_up xs 1 13)) (ix_run (xTT 6 (va_up xs 1 13)) 14 8) xm_law N (452, xLS, [], xhp0) (some (.int 1), hp) ∧ hp.1 ≤ 600000 ∧ hp.2.1 ≤ 7302250 :=
  ⟨46, _, Nat.le_of_ble_eq_true rfl, (ix_R.fin 46 (iy_n_ok (iy_run_ok _ _ _) rfl)), Nat.le_of_ble_eq_true rfl, Nat.le_of_ble_eq_true rfl⟩
set_option maxRecDepth 1000000 in
set_option maxHeartbeats 8000000 in
theorem xo_8_k14 (xs : Nat → Int32) : ∃ (N : Nat) (hp : ix_H), N ≤ 2 ^ 15 ∧ ix_R (xTT 6 (va_up xs 1 14)) (ix_run (xTT 6 (va_up xs 1 14)) 14 8) xm_law N (452, xLS, [], xhp0) (some (.int 1), hp) ∧ hp.1 ≤ 600000 ∧ hp.2.1 ≤ 7302250 :=
  ⟨46, _, Nat.le_of_ble_eq_true rfl, (ix_R.fin 46 (iy_n_ok (iy_run_ok _ _ _) rfl)), Nat.le_of_ble_eq_true rfl, Nat.le_of_ble_eq_true rfl⟩
set_option maxRecDepth 1000000 in
set_option maxHeartbeats 8000000 in
theorem xo_8_k15 (xs : Nat → Int32) : ∃ (N : Nat) (hp : ix_H), N ≤ 2 ^ 15 ∧ ix_R (xTT 6 (va_up xs 1 15)) (ix_run (xTT 6 (va_up xs 1 15)) 14 8) xm_law N (452, xLS, [], xhp0) (some (.int 1), hp) ∧ hp.1 ≤ 600000 ∧ hp.2.1 ≤ 7302250 :=
  ⟨46, _, Nat.le_of_ble_eq_true rfl, (ix_R.fin 46 (iy_n_ok (iy_run_ok _ _ _) rfl)), Nat.le_of_ble_eq_true rfl, Nat.le_of_ble_eq_true rfl⟩
set_option maxRecDepth 1000000 in
set_option maxHeartbeats 8000000 in
theorem xo_8_k16 (xs : Nat → Int32) : ∃ (N : Nat) (hp : ix_H), N ≤ 2 ^ 15 ∧ ix_R (xTT 6 (va_up xs 1 16)) (ix_run (xTT 6 (va_up xs 1 16)) 14 8) xm_law N (452, xLS, [], xhp0) (some (.int 1), hp) ∧ hp.1 ≤ 600000 ∧ hp.2.1 ≤ 7302250 :=
  ⟨46, _, Nat.le_of_ble_eq_true rfl, (ix_R.fin 46 (iy_n_ok (iy_run_ok _ _ _) rfl)), Nat.le_of_ble_eq_true rfl, Nat.le_of_ble_eq_true rfl⟩
set_option maxRecDepth 1000000 in
set_option maxHeartbeats 8000000 in
theorem xo_8_k17 (xs : Nat → Int32) : ∃ (N : Nat) (hp : ix_H), N ≤ 2 ^ 15 ∧ ix_R (xTT 6 (va_up xs 1 17)) (ix_run (xTT 6 (va_up xs 1 17)) 14 8) xm_law N (452, xLS, [], xhp0) (some (.int 1), hp) ∧ hp.1 ≤ 600000 ∧ hp.2.1 ≤ 7302250 :=
  ⟨46, _, Nat.le_of_ble_eq_true rfl, (ix_R.fin 46 (iy_n_ok (iy_run_ok _ _ _) rfl)), Nat.le_of_ble_eq_true rfl, Nat.le_of_ble_eq_true rfl⟩
set_option maxRecDepth 1000000 in
set_option maxHeartbeats 8000000 in
theorem xo_8_k18 (xs : Nat → Int32) : ∃ (N : Nat) (hp : ix_H), N ≤ 2 ^ 15 ∧ ix_R (xTT 6 (va_up xs 1 18)) (ix_run (xTT 6 (va_up xs 1 18)) 14 8) xm_law N (452, xLS, [], xhp0) (some (.int 1), hp) ∧ hp.1 ≤ 600000 ∧ hp.2.1 ≤ 7302250 :=
  ⟨46, _, Nat.le_of_ble_eq_true rfl, (ix_R.fin 46 (iy_n_ok (iy_run_ok _ _ _) rfl)), Nat.le_of_ble_eq_true rfl, Nat.le_of_ble_eq_true rfl⟩
set_option maxRecDepth 1000000 in
set_option maxHeartbeats 8000000 in
theorem xo_8_k19 (xs : Nat → Int32) : ∃ (N : Nat) (hp : ix_H), N ≤ 2 ^ 15 ∧ ix_R (xTT 6 (va_up xs 1 19)) (ix_run (xTT 6 (va_up xs 1 19)) 14 8) xm_law N (452, xLS, [], xhp0) (some (.int 1), hp) ∧ hp.1 ≤ 600000 ∧ hp.2.1 ≤ 7302250 :=
  ⟨46, _, Nat.le_of_ble_eq_true rfl, (ix_R.fin 46 (iy_n_ok (iy_run_ok _ _ _) rfl)), Nat.le_of_ble_eq_true rfl, Nat.le_of_ble_eq_true rfl⟩
set_option maxRecDepth 1000000 in
set_option maxHeartbeats 8000000 in
theorem xo_8_k20 (xs : Nat → Int32) : ∃ (N : Nat) (hp : ix_H), N ≤ 2 ^ 15 ∧ ix_R (xTT 6 (va_up xs 1 20)) (ix_run (xTT 6 (va_up xs 1 20)) 14 8) xm_law N (452, xLS, [], xhp0) (some (.int 1), hp) ∧ hp.1 ≤ 600000 ∧ hp.2.1 ≤ 7302250 :=
  ⟨46, _, Nat.le_of_ble_eq_true rfl, (ix_R.fin 46 (iy_n_ok (iy_run_ok _ _ _) rfl)), Nat.le_of_ble_eq_true rfl, Nat.le_of_ble_eq_true rfl⟩
set_option maxRecDepth 1000000 in
set_option maxHeartbeats 8000000 in
theorem xo_8_k21 (xs : Nat → Int32) : ∃ (N : Nat) (hp : ix_H), N ≤ 2 ^ 15 ∧ ix_R (xTT 6 (va_up xs 1 21)) (ix_run (xTT 6 (va_up xs 1 21)) 14 8) xm_law N (452, xLS, [], xhp0) (some (.int 1), hp) ∧ hp.1 ≤ 600000 ∧ hp.2.1 ≤ 7302250 :=
  ⟨46, _, Nat.le_of_ble_eq_true rfl, (ix_R.fin 46 (iy_n_ok (iy_run_ok _ _ _) rfl)), Nat.le_of_ble_eq_true rfl, Nat.le_of_ble_eq_true rfl⟩
set_option maxRecDepth 1000000 in
set_option maxHeartbeats 8000000 in
theorem xo_8_k22 (xs : Nat → Int32) : ∃ (N : Nat) (hp : ix_H), N ≤ 2 ^ 15 ∧ ix_R (xTT 6 (va_up xs 1 22)) (ix_run (xTT 6 (va_up xs 1 22)) 14 8) xm_law N (452, xLS, [], xhp0) (some (.int 1), hp) ∧ hp.1 ≤ 600000 ∧ hp.2.1 ≤ 7302250 :=
  ⟨46, _, Nat.le_of_ble_eq_true rfl, (ix_R.fin 46 (iy_n_ok (iy_run_ok _ _ _) rfl)), Nat.le_of_ble_eq_true rfl, Nat.le_of_ble_eq_true rfl⟩
set_option maxRecDepth 1000000 in
set_option maxHeartbeats 8000000 in
theorem xo_8_k23 (xs : Nat → Int32) : ∃ (N : Nat) (hp : ix_H), N ≤ 2 ^ 15 ∧ ix_R (xTT 6 (va_up xs 1 23)) (ix_run (xTT 6 (va_up xs 1 23)) 14 8) xm_law N (452, xLS, [], xhp0) (some (.int 1), hp) ∧ hp.1 ≤ 600000 ∧ hp.2.1 ≤ 7302250 :=
  ⟨46, _, Nat.le_of_ble_eq_true rfl, (ix_R.fin 46 (iy_n_ok (iy_run_ok _ _ _) rfl)), Nat.le_of_ble_eq_true rfl, Nat.le_of_ble_eq_true rfl⟩
set_option maxRecDepth 1000000 in
set_option maxHeartbeats 8000000 in
theorem xo_9_neg (xs : Nat → Int32) (h1 : -2147483648 ≤ (xs 1).toInt ∧ (xs 1).toInt ≤ -1) : ∃ (N : Nat) (hp : ix_H), N ≤ 2 ^ 15 ∧ ix_R (xTT 6 xs) (ix_run (xTT 6 xs) 14 8) xm_law N (496, xLS, [], xhp0) (some (.int 1), hp) ∧ hp.1 ≤ 600000 ∧ hp.2.1 ≤ 7302250 :=
  ⟨35, _, Nat.le_of_ble_eq_true rfl, (ix_R.step 11 (iy_n_ok (iy_run_ok _ _ _) rfl) (ix_R.step 1 (ix_n_call (Or.inl ⟨_, rfl⟩) rfl (ix_cal_v rfl (Or.inl rfl) rfl rfl rfl ⟨rfl, Nat.le_of_ble_eq_true rfl, Nat.le_of_ble_eq_true rfl⟩ (ix_R.run (N := 6) rfl (Nat.le_of_ble_eq_true rfl) (ix_R.step 2 (iy_n_ok (iy_run_ok _ _ _) rfl) (ix_R.step 1 (ix_n_call (Or.inl ⟨_, rfl⟩) rfl (ix_cal_v rfl (Or.inl rfl) rfl rfl rfl ⟨rfl, Nat.le_of_ble_eq_true rfl, Nat.le_of_ble_eq_true rfl⟩ (ix_R.run (N := 4) rfl (Nat.le_of_ble_eq_true rfl) (ix_R.step 1 (iy_n_ok (iy_run_ok _ _ _) rfl) (ix_R.step 1 (ix_n_ift rfl rfl (cbt_lt (x := xs 1) (y := 0) (by have e9 : (0 : Int32).toInt = 0 := rfl; omega))) (ix_R.fin 2 (iy_n_ok (iy_run_ok _ _ _) rfl)))) (Nat.le_of_ble_eq_true rfl)))) (ix_R.fin 3 (iy_n_ok (iy_run_ok _ _ _) rfl)))) (Nat.le_of_ble_eq_true rfl)))) (ix_R.step 11 (iy_n_ok (iy_run_ok _ _ _) rfl) (ix_R.step 1 (ix_n_call (Or.inl ⟨_, rfl⟩) rfl (ix_cal_v rfl (Or.inl rfl) rfl rfl rfl ⟨rfl, Nat.le_of_ble_eq_true rfl, Nat.le_of_ble_eq_true rfl⟩ (ix_R.run (N := 6) rfl (Nat.le_of_ble_eq_true rfl) (ix_R.step 2 (iy_n_ok (iy_run_ok _ _ _) rfl) (ix_R.step 1 (ix_n_call (Or.inl ⟨_, rfl⟩) rfl (ix_cal_v rfl (Or.inl rfl) rfl rfl rfl ⟨rfl, Nat.le_of_ble_eq_true rfl, Nat.le_of_ble_eq_true rfl⟩ (ix_R.run (N := 5) rfl (Nat.le_of_ble_eq_true rfl) (ix_R.step 1 (iy_n_ok (iy_run_ok _ _ _) rfl) (ix_R.step 1 (ix_n_call (Or.inr (Or.inr ⟨_, rfl⟩)) rfl (ix_cal_s rfl (Or.inl rfl) ⟨Nat.le_of_ble_eq_true rfl, Nat.le_of_ble_eq_true rfl⟩ (ix_R.run (N := 6) rfl (Nat.le_of_ble_eq_true rfl) (ix_R.step 4 (iy_n_ok (iy_run_ok _ _ _) rfl) (ix_R.step 1 (ix_n_call (Or.inr (Or.inr ⟨_, rfl⟩)) rfl (ix_cal_s rfl (Or.inl rfl) ⟨Nat.le_of_ble_eq_true rfl, Nat.le_of_ble_eq_true rfl⟩ (ix_R.run (N := 6) rfl (Nat.le_of_ble_eq_true rfl) (ix_R.step 3 (iy_n_ok (iy_run_ok _ _ _) rfl) (ix_R.step 1 (ix_n_ift rfl rfl (clt_lt (x := (xs 1).toInt64) (y := 0) (by rw [Int32.toInt_toInt64]; have e9 : (0 : Int64).toInt = 0 := rfl; omega))) (ix_R.fin 2 (iy_n_ok (iy_run_ok _ _ _) rfl)))) (Nat.le_of_ble_eq_true rfl)))) (ix_R.fin 1 (iy_n_ok (iy_run_ok _ _ _) rfl)))) (Nat.le_of_ble_eq_true rfl)))) (ix_R.fin 3 (iy_n_ok (iy_run_ok _ _ _) rfl)))) (Nat.le_of_ble_eq_true rfl)))) (ix_R.fin 3 (iy_n_ok (iy_run_ok _ _ _) rfl)))) (Nat.le_of_ble_eq_true rfl)))) (ix_R.fin 11 (iy_n_ok (iy_run_ok _ _ _) rfl)))))), Nat.le_of_ble_eq_true rfl, Nat.le_of_ble_eq_true rfl⟩
set_option maxRecDepth 1000000 in
set_option maxHeartbeats 8000000 in
theorem xo_9_big (xs : Nat → Int32) (h1 : 24 ≤ (xs 1).toInt ∧ (xs 1).toInt ≤ 2147483647) : ∃ (N : Nat) (hp : ix_H), N ≤ 2 ^ 15 ∧ ix_R (xTT 6 xs) (ix_run (xTT 6 xs) 14 8) xm_law N (496, xLS, [], xhp0) (some (.int 1), hp) ∧ hp.1 ≤ 600000 ∧ hp.2.1 ≤ 7302250 :=
  ⟨35, _, Nat.le_of_ble_eq_true rfl, (ix_R.step 11 (iy_n_ok (iy_run_ok _ _ _) rfl) (ix_R.step 1 (ix_n_call (Or.inl ⟨_, rfl⟩) rfl (ix_cal_v rfl (Or.inl rfl) rfl rfl rfl ⟨rfl, Nat.le_of_ble_eq_true rfl, Nat.le_of_ble_eq_true rfl⟩ (ix_R.run (N := 6) rfl (Nat.le_of_ble_eq_true rfl) (ix_R.step 2 (iy_n_ok (iy_run_ok _ _ _) rfl) (ix_R.step 1 (ix_n_call (Or.inl ⟨_, rfl⟩) rfl (ix_cal_v rfl (Or.inl rfl) rfl rfl rfl ⟨rfl, Nat.le_of_ble_eq_true rfl, Nat.le_of_ble_eq_true rfl⟩ (ix_R.run (N := 7) rfl (Nat.le_of_ble_eq_true rfl) (ix_R.step 1 (iy_n_ok (iy_run_ok _ _ _) rfl) (ix_R.step 1 (ix_n_iff rfl rfl (cbf_lt (x := xs 1) (y := 0) (by have e9 : (0 : Int32).toInt = 0 := rfl; omega))) (ix_R.step 2 (iy_n_ok (iy_run_ok _ _ _) rfl) (ix_R.step 1 (ix_n_icmpt rfl rfl (cbt_ge (x := xs 1) (y := 24) (by have e9 : (24 : Int32).toInt = 24 := rfl; omega))) (ix_R.fin 2 (iy_n_ok (iy_run_ok _ _ _) rfl)))))) (Nat.le_of_ble_eq_true rfl)))) (ix_R.fin 3 (iy_n_ok (iy_run_ok _ _ _) rfl)))) (Nat.le_of_ble_eq_true rfl)))) (ix_R.step 11 (iy_n_ok (iy_run_ok _ _ _) rfl) (ix_R.step 1 (ix_n_call (Or.inl ⟨_, rfl⟩) rfl (ix_cal_v rfl (Or.inl rfl) rfl rfl rfl ⟨rfl, Nat.le_of_ble_eq_true rfl, Nat.le_of_ble_eq_true rfl⟩ (ix_R.run (N := 6) rfl (Nat.le_of_ble_eq_true rfl) (ix_R.step 2 (iy_n_ok (iy_run_ok _ _ _) rfl) (ix_R.step 1 (ix_n_call (Or.inl ⟨_, rfl⟩) rfl (ix_cal_v rfl (Or.inl rfl) rfl rfl rfl ⟨rfl, Nat.le_of_ble_eq_true rfl, Nat.le_of_ble_eq_true rfl⟩ (ix_R.run (N := 5) rfl (Nat.le_of_ble_eq_true rfl) (ix_R.step 1 (iy_n_ok (iy_run_ok _ _ _) rfl) (ix_R.step 1 (ix_n_call (Or.inr (Or.inr ⟨_, rfl⟩)) rfl (ix_cal_s rfl (Or.inl rfl) ⟨Nat.le_of_ble_eq_true rfl, Nat.le_of_ble_eq_true rfl⟩ (ix_R.run (N := 6) rfl (Nat.le_of_ble_eq_true rfl) (ix_R.step 4 (iy_n_ok (iy_run_ok _ _ _) rfl) (ix_R.step 1 (ix_n_call (Or.inr (Or.inr ⟨_, rfl⟩)) rfl (ix_cal_s rfl (Or.inl rfl) ⟨Nat.le_of_ble_eq_true rfl, Nat.le_of_ble_eq_true rfl⟩ (ix_R.run (N := 10) rfl (Nat.le_of_ble_eq_true rfl) (ix_R.step 3 (iy_n_ok (iy_run_ok _ _ _) rfl) (ix_R.step 1 (ix_n_iff rfl rfl (clf_lt (x := (xs 1).toInt64) (y := 0) (by rw [Int32.toInt_toInt64]; have e9 : (0 : Int64).toInt = 0 := rfl; omega))) (ix_R.step 3 (iy_n_ok (iy_run_ok _ _ _) rfl) (ix_R.step 1 (ix_n_ift rfl rfl (clt_gt (x := (xs 1).toInt64) (y := 23) (by rw [Int32.toInt_toInt64]; have e9 : (23 : Int64).toInt = 23 := rfl; omega))) (ix_R.fin 2 (iy_n_ok (iy_run_ok _ _ _) rfl)))))) (Nat.le_of_ble_eq_true rfl)))) (ix_R.fin 1 (iy_n_ok (iy_run_ok _ _ _) rfl)))) (Nat.le_of_ble_eq_true rfl)))) (ix_R.fin 3 (iy_n_ok (iy_run_ok _ _ _) rfl)))) (Nat.le_of_ble_eq_true rfl)))) (ix_R.fin 3 (iy_n_ok (iy_run_ok _ _ _) rfl)))) (Nat.le_of_ble_eq_true rfl)))) (ix_R.fin 11 (iy_n_ok (iy_run_ok _ _ _) rfl)))))), Nat.le_of_ble_eq_true rfl, Nat.le_of_ble_eq_true rfl⟩
set_option maxRecDepth 1000000 in
set_option maxHeartbeats 8000000 in
theorem xo_9_k0 (xs : Nat → Int32) : ∃ (N : Nat) (hp : ix_H), N ≤ 2 ^ 15 ∧ ix_R (xTT 6 (va_up xs 1 0)) (ix_run (xTT 6 (va_up xs 1 0)) 14 8) xm_law N (496, xLS, [], xhp0) (some (.int 1), hp) ∧ hp.1 ≤ 600000 ∧ hp.2.1 ≤ 7302250 :=
  ⟨35, _, Nat.le_of_ble_eq_true rfl, (ix_R.fin 35 (iy_n_ok (iy_run_ok _ _ _) rfl)), Nat.le_of_ble_eq_true rfl, Nat.le_of_ble_eq_true rfl⟩
set_option maxRecDepth 1000000 in
set_option maxHeartbeats 8000000 in
theorem xo_9_k1 (xs : Nat → Int32) : ∃ (N : Nat) (hp : ix_H), N ≤ 2 ^ 15 ∧ ix_R (xTT 6 (va_up xs 1 1)) (ix_run (xTT 6 (va_up xs 1 1)) 14 8) xm_law N (496, xLS, [], xhp0) (some (.int 1), hp) ∧ hp.1 ≤ 600000 ∧ hp.2.1 ≤ 7302250 :=
  ⟨35, _, Nat.le_of_ble_eq_true rfl, (ix_R.fin 35 (iy_n_ok (iy_run_ok _ _ _) rfl)), Nat.le_of_ble_eq_true rfl, Nat.le_of_ble_eq_true rfl⟩
set_option maxRecDepth 1000000 in
set_option maxHeartbeats 8000000 in
theorem xo_9_k2 (xs : Nat → Int32) : ∃ (N : Nat) (hp : ix_H), N ≤ 2 ^ 15 ∧ ix_R (xTT 6 (va_up xs 1 2)) (ix_run (xTT 6 (va_up xs 1 2)) 14 8) xm_law N (496, xLS, [], xhp0) (some (.int 1), hp) ∧ hp.1 ≤ 600000 ∧ hp.2.1 ≤ 7302250 :=
  ⟨35, _, Nat.le_of_ble_eq_true rfl, (ix_R.fin 35 (iy_n_ok (iy_run_ok _ _ _) rfl)), Nat.le_of_ble_eq_true rfl, Nat.le_of_ble_eq_true rfl⟩
set_option maxRecDepth 1000000 in
set_option maxHeartbeats 8000000 in
theorem xo_9_k3 (xs : Nat → Int32) : ∃ (N : Nat) (hp : ix_H), N ≤ 2 ^ 15 ∧ ix_R (xTT 6 (va_up xs 1 3)) (ix_run (xTT 6 (va_up xs 1 3)) 14 8) xm_law N (496, xLS, [], xhp0) (some (.int 1), hp) ∧ hp.1 ≤ 600000 ∧ hp.2.1 ≤ 7302250 :=
  ⟨35, _, Nat.le_of_ble_eq_true rfl, (ix_R.fin 35 (iy_n_ok (iy_run_ok _ _ _) rfl)), Nat.le_of_ble_eq_true rfl, Nat.le_of_ble_eq_true rfl⟩
set_option maxRecDepth 1000000 in
set_option maxHeartbeats 8000000 in
theorem xo_9_k4 (xs : Nat → Int32) : ∃ (N : Nat) (hp : ix_H), N ≤ 2 ^ 15 ∧ ix_R (xTT 6 (va_up xs 1 4)) (ix_run (xTT 6 (va_up xs 1 4)) 14 8) xm_law N (496, xLS, [], xhp0) (some (.int 1), hp) ∧ hp.1 ≤ 600000 ∧ hp.2.1 ≤ 7302250 :=
  ⟨35, _, Nat.le_of_ble_eq_true rfl, (ix_R.fin 35 (iy_n_ok (iy_run_ok _ _ _) rfl)), Nat.le_of_ble_eq_true rfl, Nat.le_of_ble_eq_true rfl⟩
set_option maxRecDepth 1000000 in
set_option maxHeartbeats 8000000 in
theorem xo_9_k5 (xs : Nat → Int32) : ∃ (N : Nat) (hp : ix_H), N ≤ 2 ^ 15 ∧ ix_R (xTT 6 (va_up xs 1 5)) (ix_run (xTT 6 (va_up xs 1 5)) 14 8) xm_law N (496, xLS, [], xhp0) (some (.int 1), hp) ∧ hp.1 ≤ 600000 ∧ hp.2.1 ≤ 7302250 :=
  ⟨35, _, Nat.le_of_ble_eq_true rfl, (ix_R.fin 35 (iy_n_ok (iy_run_ok _ _ _) rfl)), Nat.le_of_ble_eq_true rfl, Nat.le_of_ble_eq_true rfl⟩
set_option maxRecDepth 1000000 in
set_option maxHeartbeats 8000000 in
theorem xo_9_k6 (xs : Nat → Int32) : ∃ (N : Nat) (hp : ix_H), N ≤ 2 ^ 15 ∧ ix_R (xTT 6 (va_up xs 1 6)) (ix_run (xTT 6 (va_up xs 1 6)) 14 8) xm_law N (496, xLS, [], xhp0) (some (.int 1), hp) ∧ hp.1 ≤ 600000 ∧ hp.2.1 ≤ 7302250 :=
  ⟨35, _, Nat.le_of_ble_eq_true rfl, (ix_R.fin 35 (iy_n_ok (iy_run_ok _ _ _) rfl)), Nat.le_of_ble_eq_true rfl, Nat.le_of_ble_eq_true rfl⟩
set_option maxRecDepth 1000000 in
set_option maxHeartbeats 8000000 in
theorem xo_9_k7 (xs : Nat → Int32) : ∃ (N : Nat) (hp : ix_H), N ≤ 2 ^ 15 ∧ ix_R (xTT 6 (va_up xs 1 7)) (ix_run (xTT 6 (va_up xs 1 7)) 14 8) xm_law N (496, xLS, [], xhp0) (some (.int 1), hp) ∧ hp.1 ≤ 600000 ∧ hp.2.1 ≤ 7302250 :=
  ⟨35, _, Nat.le_of_ble_eq_true rfl, (ix_R.fin 35 (iy_n_ok (iy_run_ok _ _ _) rfl)), Nat.le_of_ble_eq_true rfl, Nat.le_of_ble_eq_true rfl⟩
set_option maxRecDepth 1000000 in
set_option maxHeartbeats 8000000 in
theorem xo_9_k8 (xs : Nat → Int32) : ∃ (N : Nat) (hp : ix_H), N ≤ 2 ^ 15 ∧ ix_R (xTT 6 (va_up xs 1 8)) (ix_run (xTT 6 (va_up xs 1 8)) 14 8) xm_law N (496, xLS, [], xhp0) (some (.int 1), hp) ∧ hp.1 ≤ 600000 ∧ hp.2.1 ≤ 7302250 :=
  ⟨35, _, Nat.le_of_ble_eq_true rfl, (ix_R.fin 35 (iy_n_ok (iy_run_ok _ _ _) rfl)), Nat.le_of_ble_eq_true rfl, Nat.le_of_ble_eq_true rfl⟩
set_option maxRecDepth 1000000 in
set_option maxHeartbeats 8000000 in
theorem xo_9_k9 (xs : Nat → Int32) : ∃ (N : Nat) (hp : ix_H), N ≤ 2 ^ 15 ∧ ix_R (xTT 6 (va_up xs 1 9)) (ix_run (xTT 6 (va_up xs 1 9)) 14 8) xm_law N (496, xLS, [], xhp0) (some (.int 1), hp) ∧ hp.1 ≤ 600000 ∧ hp.2.1 ≤ 7302250 :=
  ⟨35, _, Nat.le_of_ble_eq_true rfl, (ix_R.fin 35 (iy_n_ok (iy_run_ok _ _ _) rfl)), Nat.le_of_ble_eq_true rfl, Nat.le_of_ble_eq_true rfl⟩
set_option maxRecDepth 1000000 in
set_option maxHeartbeats 8000000 in
theorem xo_9_k10 (xs : Nat → Int32) : ∃ (N : Nat) (hp : ix_H), N ≤ 2 ^ 15 ∧ ix_R (xTT 6 (va_up xs 1 10)) (ix_run (xTT 6 (va_up xs 1 10)) 14 8) xm_law N (496, xLS, [], xhp0) (some (.int 1), hp) ∧ hp.1 ≤ 600000 ∧ hp.2.1 ≤ 7302250 :=
  ⟨35, _, Nat.le_of_ble_eq_true rfl, (ix_R.fin 35 (iy_n_ok (iy_run_ok _ _ _) rfl)), Nat.le_of_ble_eq_true rfl, Nat.le_of_ble_eq_true rfl⟩
set_option maxRecDepth 1000000 in
set_option maxHeartbeats 8000000 in
theorem xo_9_k11 (xs : Nat → Int32) : ∃ (N : Nat) (hp : ix_H), N ≤ 2 ^ 15 ∧ ix_R (xTT 6 (va_up xs 1 11)) (ix_run (xTT 6 (va_up xs 1 11)) 14 8) xm_law N (496, xLS, [], xhp0) (some (.int 1), hp) ∧ hp.1 ≤ 600000 ∧ hp.2.1 ≤ 7302250 :=
  ⟨35, _, Nat.le_of_ble_eq_true rfl, (ix_R.fin 35 (iy_n_ok (iy_run_ok _ _ _) rfl)), Nat.le_of_ble_eq_true rfl, Nat.le_of_ble_eq_true rfl⟩
set_option maxRecDepth 1000000 in
set_option maxHeartbeats 8000000 in
theorem xo_9_k12 (xs : Nat → Int32) : ∃ (N : Nat) (hp : ix_H), N ≤ 2 ^ 15 ∧ ix_R (xTT 6 (va_up xs 1 12)) (ix_run (xTT 6 (va_up xs 1 12)) 14 8) xm_law N (496, xLS, [], xhp0) (some (.int 1), hp) ∧ hp.1 ≤ 600000 ∧ hp.2.1 ≤ 7302250 :=
  ⟨35, _, Nat.le_of_ble_eq_true rfl, (ix_R.fin 35 (iy_n_ok (iy_run_ok _ _ _) rfl)), Nat.le_of_ble_eq_true rfl, Nat.le_of_ble_eq_true rfl⟩
set_option maxRecDepth 1000000 in
set_option maxHeartbeats 8000000 in
theorem xo_9_k13 (xs : Nat → Int32) : ∃ (N : Nat) (hp : ix_H), N ≤ 2 ^ 15 ∧ ix_R (xTT 6 (va_up xs 1 13)) (ix_run (xTT 6 (va_up xs 1 13)) 14 8) xm_law N (496, xLS, [], xhp0) (some (.int 1), hp) ∧ hp.1 ≤ 600000 ∧ hp.2.1 ≤ 7302250 :=
  ⟨35, _, Nat.le_of_ble_eq_true rfl, (ix_R.fin 35 (iy_n_ok (iy_run_ok _ _ _) rfl)), Nat.le_of_ble_eq_true rfl, Nat.le_of_ble_eq_true rfl⟩
set_option maxRecDepth 1000000 in
set_option maxHeartbeats 8000000 in
theorem xo_9_k14 (xs : Nat → Int32) : ∃ (N : Nat) (hp : ix_H), N ≤ 2 ^ 15 ∧ ix_R (xTT 6 (va_up xs 1 14)) (ix_run (xTT 6 (va_up xs 1 14)) 14 8) xm_law N (496, xLS, [], xhp0) (some (.int 1), hp) ∧ hp.1 ≤ 600000 ∧ hp.2.1 ≤ 7302250 :=
  ⟨35, _, Nat.le_of_ble_eq_true rfl, (ix_R.fin 35 (iy_n_ok (iy_run_ok _ _ _) rfl)), Nat.le_of_ble_eq_true rfl, Nat.le_of_ble_eq_true rfl⟩
set_option maxRecDepth 1000000 in
set_option maxHeartbeats 8000000 in
theorem xo_9_k15 (xs : Nat → Int32) : ∃ (N : Nat) (hp : ix_H), N ≤ 2 ^ 15 ∧ ix_R (xTT 6 (va_up xs 1 15)) (ix_run (xTT 6 (va_up xs 1 15)) 14 8) xm_law N (496, xLS, [], xhp0) (some (.int 1), hp) ∧ hp.1 ≤ 600000 ∧ hp.2.1 ≤ 7302250 :=
  ⟨35, _, Nat.le_of_ble_eq_true rfl, (ix_R.fin 35 (iy_n_ok (iy_run_ok _ _ _) rfl)), Nat.le_of_ble_eq_true rfl, Nat.le_of_ble_eq_true rfl⟩
set_option maxRecDepth 1000000 in
set_option maxHeartbeats 8000000 in
theorem xo_9_k16 (xs : Nat → Int32) : ∃ (N : Nat) (hp : ix_H), N ≤ 2 ^ 15 ∧ ix_R (xTT 6 (va_up xs 1 16)) (ix_run (xTT 6 (va_up xs 1 16)) 14 8) xm_law N (496, xLS, [], xhp0) (some (.int 1), hp) ∧ hp.1 ≤ 600000 ∧ hp.2.1 ≤ 7302250 :=
  ⟨35, _, Nat.le_of_ble_eq_true rfl, (ix_R.fin 35 (iy_n_ok (iy_run_ok _ _ _) rfl)), Nat.le_of_ble_eq_true rfl, Nat.le_of_ble_eq_true rfl⟩
set_option maxRecDepth 1000000 in
set_option maxHeartbeats 8000000 in
theorem xo_9_k17 (xs : Nat → Int32) : ∃ (N : Nat) (hp : ix_H), N ≤ 2 ^ 15 ∧ ix_R (xTT 6 (va_up xs 1 17)) (ix_run (xTT 6 (va_up xs 1 17)) 14 8) xm_law N (496, xLS, [], xhp0) (some (.int 1), hp) ∧ hp.1 ≤ 600000 ∧ hp.2.1 ≤ 7302250 :=
  ⟨35, _, Nat.le_of_ble_eq_true rfl, (ix_R.fin 35 (iy_n_ok (iy_run_ok _ _ _) rfl)), Nat.le_of_ble_eq_true rfl, Nat.le_of_ble_eq_true rfl⟩
set_option maxRecDepth 1000000 in
set_option maxHeartbeats 8000000 in
theorem xo_9_k18 (xs : Nat → Int32) : ∃ (N : Nat) (hp : ix_H), N ≤ 2 ^ 15 ∧ ix_R (xTT 6 (va_up xs 1 18)) (ix_run (xTT 6 (va_up xs 1 18)) 14 8) xm_law N (496, xLS, [], xhp0) (some (.int 1), hp) ∧ hp.1 ≤ 600000 ∧ hp.2.1 ≤ 7302250 :=
  ⟨35, _, Nat.le_of_ble_eq_true rfl, (ix_R.fin 35 (iy_n_ok (iy_run_ok _ _ _) rfl)), Nat.le_of_ble_eq_true rfl, Nat.le_of_ble_eq_true rfl⟩
set_option maxRecDepth 1000000 in
set_option maxHeartbeats 8000000 in
theorem xo_9_k19 (xs : Nat → Int32) : ∃ (N : Nat) (hp : ix_H), N ≤ 2 ^ 15 ∧ ix_R (xTT 6 (va_up xs 1 19)) (ix_run (xTT 6 (va_up xs 1 19)) 14 8) xm_law N (496, xLS, [], xhp0) (some (.int 1), hp) ∧ hp.1 ≤ 600000 ∧ hp.2.1 ≤ 7302250 :=
  ⟨35, _, Nat.le_of_ble_eq_true rfl, (ix_R.fin 35 (iy_n_ok (iy_run_ok _ _ _) rfl)), Nat.le_of_ble_eq_true rfl, Nat.le_of_ble_eq_true rfl⟩
set_option maxRecDepth 1000000 in
set_option maxHeartbeats 8000000 in
theorem xo_9_k20 (xs : Nat → Int32) : ∃ (N : Nat) (hp : ix_H), N ≤ 2 ^ 15 ∧ ix_R (xTT 6 (va_up xs 1 20)) (ix_run (xTT 6 (va_up xs 1 20)) 14 8) xm_law N (496, xLS, [], xhp0) (some (.int 1), hp) ∧ hp.1 ≤ 600000 ∧ hp.2.1 ≤ 7302250 :=
  ⟨35, _, Nat.le_of_ble_eq_true rfl, (ix_R.fin 35 (iy_n_ok (iy_run_ok _ _ _) rfl)), Nat.le_of_ble_eq_true rfl, Nat.le_of_ble_eq_true rfl⟩
set_option maxRecDepth 1000000 in
set_option maxHeartbeats 8000000 in
theorem xo_9_k21 (xs : Nat → Int32) : ∃ (N : Nat) (hp : ix_H), N ≤ 2 ^ 15 ∧ ix_R (xTT 6 (va_up xs 1 21)) (ix_run (xTT 6 (va_up xs 1 21)) 14 8) xm_law N (496, xLS, [], xhp0) (some (.int 1), hp) ∧ hp.1 ≤ 600000 ∧ hp.2.1 ≤ 7302250 :=
  ⟨35, _, Nat.le_of_ble_eq_true rfl, (ix_R.fin 35 (iy_n_ok (iy_run_ok _ _ _) rfl)), Nat.le_of_ble_eq_true rfl, Nat.le_of_ble_eq_true rfl⟩
set_option maxRecDepth 1000000 in
set_option maxHeartbeats 8000000 in
theorem xo_9_k22 (xs : Nat → Int32) : ∃ (N : Nat) (hp : ix_H), N ≤ 2 ^ 15 ∧ ix_R (xTT 6 (va_up xs 1 22)) (ix_run (xTT 6 (va_up xs 1 22)) 14 8) xm_law N (496, xLS, [], xhp0) (some (.int 1), hp) ∧ hp.1 ≤ 600000 ∧ hp.2.1 ≤ 7302250 :=
  ⟨35, _, Nat.le_of_ble_eq_true rfl, (ix_R.fin 35 (iy_n_ok (iy_run_ok _ _ _) rfl)), Nat.le_of_ble_eq_true rfl, Nat.le_of_ble_eq_true rfl⟩
set_option maxRecDepth 1000000 in
set_option maxHeartbeats 8000000 in
theorem xo_9_k23 (xs : Nat → Int32) : ∃ (N : Nat) (hp : ix_H), N ≤ 2 ^ 15 ∧ ix_R (xTT 6 (va_up xs 1 23)) (ix_run (xTT 6 (va_up xs 1 23)) 14 8) xm_law N (496, xLS, [], xhp0) (some (.int 1), hp) ∧ hp.1 ≤ 600000 ∧ hp.2.1 ≤ 7302250 :=
  ⟨35, _, Nat.le_of_ble_eq_true rfl, (ix_R.fin 35 (iy_n_ok (iy_run_ok _ _ _) rfl)), Nat.le_of_ble_eq_true rfl, Nat.le_of_ble_eq_true rfl⟩
set_option maxRecDepth 1000000 in
set_option maxHeartbeats 8000000 in
theorem xo_10_neg (xs : Nat → Int32) (h1 : -2147483648 ≤ (xs 1).toInt ∧ (xs 1).toInt ≤ -1) : ∃ (N : Nat) (hp : ix_H), N ≤ 2 ^ 15 ∧ ix_R (xTT 6 xs) (ix_run (xTT 6 xs) 14 8) xm_law N (529, xLS, [], xhp0) (some (.int 1), hp) ∧ hp.1 ≤ 600000 ∧ hp.2.1 ≤ 7302250 :=
  ⟨45, _, Nat.le_of_ble_eq_true rfl, (ix_R.step 16 (iy_n_ok (iy_run_ok _ _ _) rfl) (ix_R.step 1 (ix_n_call (Or.inl ⟨_, rfl⟩) rfl (ix_cal_v rfl (Or.inl rfl) rfl rfl rfl ⟨rfl, Nat.le_of_ble_eq_true rfl, Nat.le_of_ble_eq_true rfl⟩ (ix_R.run (N := 6) rfl (Nat.le_of_ble_eq_true rfl) (ix_R.step 2 (iy_n_ok (iy_run_ok _ _ _) rfl) (ix_R.step 1 (ix_n_call (Or.inl ⟨_, rfl⟩) rfl (ix_cal_v rfl (Or.inl rfl) rfl rfl rfl ⟨rfl, Nat.le_of_ble_eq_true rfl, Nat.le_of_ble_eq_true rfl⟩ (ix_R.run (N := 4) rfl (Nat.le_of_ble_eq_true rfl) (ix_R.step 1 (iy_n_ok (iy_run_ok _ _ _) rfl) (ix_R.step 1 (ix_n_ift rfl rfl (cbt_lt (x := xs 1) (y := 0) (by have e9 : (0 : Int32).toInt = 0 := rfl; omega))) (ix_R.fin 2 (iy_n_ok (iy_run_ok _ _ _) rfl)))) (Nat.le_of_ble_eq_true rfl)))) (ix_R.fin 3 (iy_n_ok (iy_run_ok _ _ _) rfl)))) (Nat.le_of_ble_eq_true rfl)))) (ix_R.step 16 (iy_n_ok (iy_run_ok _ _ _) rfl) (ix_R.step 1 (ix_n_call (Or.inl ⟨_, rfl⟩) rfl (ix_cal_v rfl (Or.inl rfl) rfl rfl rfl ⟨rfl, Nat.le_of_ble_eq_true rfl, Nat.le_of_ble_eq_true rfl⟩ (ix_R.run (N := 6) rfl (Nat.le_of_ble_eq_true rfl) (ix_R.step 2 (iy_n_ok (iy_run_ok _ _ _) rfl) (ix_R.step 1 (ix_n_call (Or.inl ⟨_, rfl⟩) rfl (ix_cal_v rfl (Or.inl rfl) rfl rfl rfl ⟨rfl, Nat.le_of_ble_eq_true rfl, Nat.le_of_ble_eq_true rfl⟩ (ix_R.run (N := 5) rfl (Nat.le_of_ble_eq_true rfl) (ix_R.step 1 (iy_n_ok (iy_run_ok _ _ _) rfl) (ix_R.step 1 (ix_n_call (Or.inr (Or.inr ⟨_, rfl⟩)) rfl (ix_cal_s rfl (Or.inl rfl) ⟨Nat.le_of_ble_eq_true rfl, Nat.le_of_ble_eq_true rfl⟩ (ix_R.run (N := 6) rfl (Nat.le_of_ble_eq_true rfl) (ix_R.step 4 (iy_n_ok (iy_run_ok _ _ _) rfl) (ix_R.step 1 (ix_n_call (Or.inr (Or.inr ⟨_, rfl⟩)) rfl (ix_cal_s rfl (Or.inl rfl) ⟨Nat.le_of_ble_eq_true rfl, Nat.le_of_ble_eq_true rfl⟩ (ix_R.run (N := 6) rfl (Nat.le_of_ble_eq_true rfl) (ix_R.step 3 (iy_n_ok (iy_run_ok _ _ _) rfl) (ix_R.step 1 (ix_n_ift rfl rfl (clt_lt (x := (xs 1).toInt64) (y := 0) (by rw [Int32.toInt_toInt64]; have e9 : (0 : Int64).toInt = 0 := rfl; omega))) (ix_R.fin 2 (iy_n_ok (iy_run_ok _ _ _) rfl)))) (Nat.le_of_ble_eq_true rfl)))) (ix_R.fin 1 (iy_n_ok (iy_run_ok _ _ _) rfl)))) (Nat.le_of_ble_eq_true rfl)))) (ix_R.fin 3 (iy_n_ok (iy_run_ok _ _ _) rfl)))) (Nat.le_of_ble_eq_true rfl)))) (ix_R.fin 3 (iy_n_ok (iy_run_ok _ _ _) rfl)))) (Nat.le_of_ble_eq_true rfl)))) (ix_R.fin 11 (iy_n_ok (iy_run_ok _ _ _) rfl)))))), Nat.le_of_ble_eq_true rfl, Nat.le_of_ble_eq_true rfl⟩
set_option maxRecDepth 1000000 in
set_option maxHeartbeats 8000000 in
theorem xo_10_big (xs : Nat → Int32) (h1 : 24 ≤ (xs 1).toInt ∧ (xs 1).toInt ≤ 2147483647) : ∃ (N : Nat) (hp : ix_H), N ≤ 2 ^ 15 ∧ ix_R (xTT 6 xs) (ix_run (xTT 6 xs) 14 8) xm_law N (529, xLS, [], xhp0) (some (.int 1), hp) ∧ hp.1 ≤ 600000 ∧ hp.2.1 ≤ 7302250 :=
  ⟨45, _, Nat.le_of_ble_eq_true rfl, (ix_R.step 16 (iy_n_ok (iy_run_ok _ _ _) rfl) (ix_R.step 1 (ix_n_call (Or.inl ⟨_, rfl⟩) rfl (ix_cal_v rfl (Or.inl rfl) rfl rfl rfl ⟨rfl, Nat.le_of_ble_eq_true rfl, Nat.le_of_ble_eq_true rfl⟩ (ix_R.run (N := 6) rfl (Nat.le_of_ble_eq_true rfl) (ix_R.step 2 (iy_n_ok (iy_run_ok _ _ _) rfl) (ix_R.step 1 (ix_n_call (Or.inl ⟨_, rfl⟩) rfl (ix_cal_v rfl (Or.inl rfl) rfl rfl rfl ⟨rfl, Nat.le_of_ble_eq_true rfl, Nat.le_of_ble_eq_true rfl⟩ (ix_R.run (N := 7) rfl (Nat.le_of_ble_eq_true rfl) (ix_R.step 1 (iy_n_ok (iy_run_ok _ _ _) rfl) (ix_R.step 1 (ix_n_iff rfl rfl (cbf_lt (x := xs 1) (y := 0) (by have e9 : (0 : Int32).toInt = 0 := rfl; omega))) (ix_R.step 2 (iy_n_ok (iy_run_ok _ _ _) rfl) (ix_R.step 1 (ix_n_icmpt rfl rfl (cbt_ge (x := xs 1) (y := 24) (by have e9 : (24 : Int32).toInt = 24 := rfl; omega))) (ix_R.fin 2 (iy_n_ok (iy_run_ok _ _ _) rfl)))))) (Nat.le_of_ble_eq_true rfl)))) (ix_R.fin 3 (iy_n_ok (iy_run_ok _ _ _) rfl)))) (Nat.le_of_ble_eq_true rfl)))) (ix_R.step 16 (iy_n_ok (iy_run_ok _ _ _) rfl) (ix_R.step 1 (ix_n_call (Or.inl ⟨_, rfl⟩) rfl (ix_cal_v rfl (Or.inl rfl) rfl rfl rfl ⟨rfl, Nat.le_of_ble_eq_true rfl, Nat.le_of_ble_eq_true rfl⟩ (ix_R.run (N := 6) rfl (Nat.le_of_ble_eq_true rfl) (ix_R.step 2 (iy_n_ok (iy_run_ok _ _ _) rfl) (ix_R.step 1 (ix_n_call (Or.inl ⟨_, rfl⟩) rfl (ix_cal_v rfl (Or.inl rfl) rfl rfl rfl ⟨rfl, Nat.le_of_ble_eq_true rfl, Nat.le_of_ble_eq_true rfl⟩ (ix_R.run (N := 5) rfl (Nat.le_of_ble_eq_true rfl) (ix_R.step 1 (iy_n_ok (iy_run_ok _ _ _) rfl) (ix_R.step 1 (ix_n_call (Or.inr (Or.inr ⟨_, rfl⟩)) rfl (ix_cal_s rfl (Or.inl rfl) ⟨Nat.le_of_ble_eq_true rfl, Nat.le_of_ble_eq_true rfl⟩ (ix_R.run (N := 6) rfl (Nat.le_of_ble_eq_true rfl) (ix_R.step 4 (iy_n_ok (iy_run_ok _ _ _) rfl) (ix_R.step 1 (ix_n_call (Or.inr (Or.inr ⟨_, rfl⟩)) rfl (ix_cal_s rfl (Or.inl rfl) ⟨Nat.le_of_ble_eq_true rfl, Nat.le_of_ble_eq_true rfl⟩ (ix_R.run (N := 10) rfl (Nat.le_of_ble_eq_true rfl) (ix_R.step 3 (iy_n_ok (iy_run_ok _ _ _) rfl) (ix_R.step 1 (ix_n_iff rfl rfl (clf_lt (x := (xs 1).toInt64) (y := 0) (by rw [Int32.toInt_toInt64]; have e9 : (0 : Int64).toInt = 0 := rfl; omega))) (ix_R.step 3 (iy_n_ok (iy_run_ok _ _ _) rfl) (ix_R.step 1 (ix_n_ift rfl rfl (clt_gt (x := (xs 1).toInt64) (y := 23) (by rw [Int32.toInt_toInt64]; have e9 : (23 : Int64).toInt = 23 := rfl; omega))) (ix_R.fin 2 (iy_n_ok (iy_run_ok _ _ _) rfl)))))) (Nat.le_of_ble_eq_true rfl)))) (ix_R.fin 1 (iy_n_ok (iy_run_ok _ _ _) rfl)))) (Nat.le_of_ble_eq_true rfl)))) (ix_R.fin 3 (iy_n_ok (iy_run_ok _ _ _) rfl)))) (Nat.le_of_ble_eq_true rfl)))) (ix_R.fin 3 (iy_n_ok (iy_run_ok _ _ _) rfl)))) (Nat.le_of_ble_eq_true rfl)))) (ix_R.fin 11 (iy_n_ok (iy_run_ok _ _ _) rfl)))))), Nat.le_of_ble_eq_true rfl, Nat.le_of_ble_eq_true rfl⟩
set_option maxRecDepth 1000000 in
set_option maxHeartbeats 8000000 in
theorem xo_10_k0 (xs : Nat → Int32) : ∃ (N : Nat) (hp : ix_H), N ≤ 2 ^ 15 ∧ ix_R (xTT 6 (va_up xs 1 0)) (ix_run (xTT 6 (va_up xs 1 0)) 14 8) xm_law N (529, xLS, [], xhp0) (some (.int 1), hp) ∧ hp.1 ≤ 600000 ∧ hp.2.1 ≤ 7302250 :=
  ⟨45, _, Nat.le_of_ble_eq_true rfl, (ix_R.fin 45 (iy_n_ok (iy_run_ok _ _ _) rfl)), Nat.le_of_ble_eq_true rfl, Nat.le_of_ble_eq_true rfl⟩
set_option maxRecDepth 1000000 in
set_option maxHeartbeats 8000000 in
theorem xo_10_k1 (xs : Nat → Int32) : ∃ (N : Nat) (hp : ix_H), N ≤ 2 ^ 15 ∧ ix_R (xTT 6 (va_up xs 1 1)) (ix_run (xTT 6 (va_up xs 1 1)) 14 8) xm_law N (529, xLS, [], xhp0) (some (.int 1), hp) ∧ hp.1 ≤ 600000 ∧ hp.2.1 ≤ 7302250 :=
  ⟨45, _, Nat.le_of_ble_eq_true rfl, (ix_R.fin 45 (iy_n_ok (iy_run_ok _ _ _) rfl)), Nat.le_of_ble_eq_true rfl, Nat.le_of_ble_eq_true rfl⟩
set_option maxRecDepth 1000000 in
set_option maxHeartbeats 8000000 in
theorem xo_10_k2 (xs : Nat → Int32) : ∃ (N : Nat) (hp : ix_H), N ≤ 2 ^ 15 ∧ ix_R (xTT 6 (va_up xs 1 2)) (ix_run (xTT 6 (va_up xs 1 2)) 14 8) xm_law N (529, xLS, [], xhp0) (some (.int 1), hp) ∧ hp.1 ≤ 600000 ∧ hp.2.1 ≤ 7302250 :=
  ⟨45, _, Nat.le_of_ble_eq_true rfl, (ix_R.fin 45 (iy_n_ok (iy_run_ok _ _ _) rfl)), Nat.le_of_ble_eq_true rfl, Nat.le_of_ble_eq_true rfl⟩
set_option maxRecDepth 1000000 in
set_option maxHeartbeats 8000000 in
theorem xo_10_k3 (xs : Nat → Int32) : ∃ (N : Nat) (hp : ix_H), N ≤ 2 ^ 15 ∧ ix_R (xTT 6 (va_up xs 1 3)) (ix_run (xTT 6 (va_up xs 1 3)) 14 8) xm_law N (529, xLS, [], xhp0) (some (.int 1), hp) ∧ hp.1 ≤ 600000 ∧ hp.2.1 ≤ 7302250 :=
  ⟨45, _, Nat.le_of_ble_eq_true rfl, (ix_R.fin 45 (iy_n_ok (iy_run_ok _ _ _) rfl)), Nat.le_of_ble_eq_true rfl, Nat.le_of_ble_eq_true rfl⟩
set_option maxRecDepth 1000000 in
set_option maxHeartbeats 8000000 in
theorem xo_10_k4 (xs : Nat → Int32) : ∃ (N : Nat) (hp : ix_H), N ≤ 2 ^ 15 ∧ ix_R (xTT 6 (va_up xs 1 4)) (ix_run (xTT 6 (va_up xs 1 4)) 14 8) xm_law N (529, xLS, [], xhp0) (some (.int 1), hp) ∧ hp.1 ≤ 600000 ∧ hp.2.1 ≤ 7302250 :=
  ⟨45, _, Nat.le_of_ble_eq_true rfl, (ix_R.fin 45 (iy_n_ok (iy_run_ok _ _ _) rfl)), Nat.le_of_ble_eq_true rfl, Nat.le_of_ble_eq_true rfl⟩
set_option maxRecDepth 1000000 in
set_option maxHeartbeats 8000000 in
theorem xo_10_k5 (xs : Nat → Int32) : ∃ (N : Nat) (hp : ix_H), N ≤ 2 ^ 15 ∧ ix_R (xTT 6 (va_up xs 1 5)) (ix_run (xTT 6 (va_up xs 1 5)) 14 8) xm_law N (529, xLS, [], xhp0) (some (.int 1), hp) ∧ hp.1 ≤ 600000 ∧ hp.2.1 ≤ 7302250 :=
  ⟨45, _, Nat.le_of_ble_eq_true rfl, (ix_R.fin 45 (iy_n_ok (iy_run_ok _ _ _) rfl)), Nat.le_of_ble_eq_true rfl, Nat.le_of_ble_eq_true rfl⟩
set_option maxRecDepth 1000000 in
set_option maxHeartbeats 8000000 in
theorem xo_10_k6 (xs : Nat → Int32) : ∃ (N : Nat) (hp : ix_H), N ≤ 2 ^ 15 ∧ ix_R (xTT 6 (va_up xs 1 6)) (ix_run (xTT 6 (va_up xs 1 6)) 14 8) xm_law N (529, xLS, [], xhp0) (some (.int 1), hp) ∧ hp.1 ≤ 600000 ∧ hp.2.1 ≤ 7302250 :=
  ⟨45, _, Nat.le_of_ble_eq_true rfl, (ix_R.fin 45 (iy_n_ok (iy_run_ok _ _ _) rfl)), Nat.le_of_ble_eq_true rfl, Nat.le_of_ble_eq_true rfl⟩
set_option maxRecDepth 1000000 in
set_option maxHeartbeats 8000000 in
theorem xo_10_k7 (xs : Nat → Int32) : ∃ (N : Nat) (hp : ix_H), N ≤ 2 ^ 15 ∧ ix_R (xTT 6 (va_up xs 1 7)) (ix_run (xTT 6 (va_up xs 1 7)) 14 8) xm_law N (529, xLS, [], xhp0) (some (.int 1), hp) ∧ hp.1 ≤ 600000 ∧ hp.2.1 ≤ 7302250 :=
  ⟨45, _, Nat.le_of_ble_eq_true rfl, (ix_R.fin 45 (iy_n_ok (iy_run_ok _ _ _) rfl)), Nat.le_of_ble_eq_true rfl, Nat.le_of_ble_eq_true rfl⟩
set_option maxRecDepth 1000000 in
set_option maxHeartbeats 8000000 in
theorem xo_10_k8 (xs : Nat → Int32) : ∃ (N : Nat) (hp : ix_H), N ≤ 2 ^ 15 ∧ ix_R (xTT 6 (va_up xs 1 8)) (ix_run (xTT 6 (va_up xs 1 8)) 14 8) xm_law N (529, xLS, [], xhp0) (some (.int 1), hp) ∧ hp.1 ≤ 600000 ∧ hp.2.1 ≤ 7302250 :=
  ⟨45, _, Nat.le_of_ble_eq_true rfl, (ix_R.fin 45 (iy_n_ok (iy_run_ok _ _ _) rfl)), Nat.le_of_ble_eq_true rfl, Nat.le_of_ble_eq_true rfl⟩
set_option maxRecDepth 1000000 in
set_option maxHeartbeats 8000000 in
theorem xo_10_k9 (xs : Nat → Int32) : ∃ (N : Nat) (hp : ix_H), N ≤ 2 ^ 15 ∧ ix_R (xTT 6 (va_up xs 1 9)) (ix_run (xTT 6 (va_up xs 1 9)) 14 8) xm_law N (529, xLS, [], xhp0) (some (.int 1), hp) ∧ hp.1 ≤ 600000 ∧ hp.2.1 ≤ 7302250 :=
  ⟨45, _, Nat.le_of_ble_eq_true rfl, (ix_R.fin 45 (iy_n_ok (iy_run_ok _ _ _) rfl)), Nat.le_of_ble_eq_true rfl, Nat.le_of_ble_eq_true rfl⟩
set_option maxRecDepth 1000000 in
set_option maxHeartbeats 8000000 in
theorem xo_10_k10 (xs : Nat → Int32) : ∃ (N : Nat) (hp : ix_H), N ≤ 2 ^ 15 ∧ ix_R (xTT 6 (va_up xs 1 10)) (ix_run (xTT 6 (va_up xs 1 10)) 14 8) xm_law N (529, xLS, [], xhp0) (some (.int 1), hp) ∧ hp.1 ≤ 600000 ∧ hp.2.1 ≤ 7302250 :=
  ⟨45, _, Nat.le_of_ble_eq_true rfl, (ix_R.fin 45 (iy_n_ok (iy_run_ok _ _ _) rfl)), Nat.le_of_ble_eq_true rfl, Nat.le_of_ble_eq_true rfl⟩
set_option maxRecDepth 1000000 in
set_option maxHeartbeats 8000000 in
theorem xo_10_k11 (xs : Nat → Int32) : ∃ (N : Nat) (hp : ix_H), N ≤ 2 ^ 15 ∧ ix_R (xTT 6 (va_up xs 1 11)) (ix_run (xTT 6 (va_up xs 1 11)) 14 8) xm_law N (529, xLS, [], xhp0) (some (.int 1), hp) ∧ hp.1 ≤ 600000 ∧ hp.2.1 ≤ 7302250 :=
  ⟨45, _, Nat.le_of_ble_eq_true rfl, (ix_R.fin 45 (iy_n_ok (iy_run_ok _ _ _) rfl)), Nat.le_of_ble_eq_true rfl, Nat.le_of_ble_eq_true rfl⟩
set_option maxRecDepth 1000000 in
set_option maxHeartbeats 8000000 in
theorem xo_10_k12 (xs : Nat → Int32) : ∃ (N : Nat) (hp : ix_H), N ≤ 2 ^ 15 ∧ ix_R (xTT 6 (va_up xs 1 12)) (ix_run (xTT 6 (va_up xs 1 12)) 14 8) xm_law N (529, xLS, [], xhp0) (some (.int 1), hp) ∧ hp.1 ≤ 600000 ∧ hp.2.1 ≤ 7302250 :=
  ⟨45, _, Nat.le_of_ble_eq_true rfl, (ix_R.fin 45 (iy_n_ok (iy_run_ok _ _ _) rfl)), Nat.le_of_ble_eq_true rfl, Nat.le_of_ble_eq_true rfl⟩
set_option maxRecDepth 1000000 in
set_option maxHeartbeats 8000000 in
theorem xo_10_k13 (xs : Nat → Int32) : ∃ (N : Nat) (hp : ix_H), N ≤ 2 ^ 15 ∧ ix_R (xTT 6 (va_up xs 1 13)) (ix_run (xTT 6 (va_up xs 1 13)) 14 8) xm_law N (529, xLS, [], xhp0) (some (.int 1), hp) ∧ hp.1 ≤ 600000 ∧ hp.2.1 ≤ 7302250 :=
  ⟨45, _, Nat.le_of_ble_eq_true rfl, (ix_R.fin 45 (iy_n_ok (iy_run_ok _ _ _) rfl)), Nat.le_of_ble_eq_true rfl, Nat.le_of_ble_eq_true rfl⟩
set_option maxRecDepth 1000000 in
set_option maxHeartbeats 8000000 in
theorem xo_10_k14 (xs : Nat → Int32) : ∃ (N : Nat) (hp : ix_H), N ≤ 2 ^ 15 ∧ ix_R (xTT 6 (va_up xs 1 14)) (ix_run (xTT 6 (va_up xs 1 14)) 14 8) xm_law N (529, xLS, [], xhp0) (some (.int 1), hp) ∧ hp.1 ≤ 600000 ∧ hp.2.1 ≤ 7302250 :=
  ⟨45, _, Nat.le_of_ble_eq_true rfl, (ix_R.fin 45 (iy_n_ok (iy_run_ok _ _ _) rfl)), Nat.le_of_ble_eq_true rfl, Nat.le_of_ble_eq_true rfl⟩
set_option maxRecDepth 1000000 in
set_option maxHeartbeats 8000000 in
theorem xo_10_k15 (xs : Nat → Int32) : ∃ (N : Nat) (hp : ix_H), N ≤ 2 ^ 15 ∧ ix_R (xTT 6 (va_up xs 1 15)) (ix_run (xTT 6 (va_up xs 1 15)) 14 8) xm_law N (529, xLS, [], xhp0) (some (.int 1), hp) ∧ hp.1 ≤ 600000 ∧ hp.2.1 ≤ 7302250 :=
  ⟨45, _, Nat.le_of_ble_eq_true rfl, (ix_R.fin 45 (iy_n_ok (iy_run_ok _ _ _) rfl)), Nat.le_of_ble_eq_true rfl, Nat.le_of_ble_eq_true rfl⟩
set_option maxRecDepth 1000000 in
set_option maxHeartbeats 8000000 in
theorem xo_10_k16 (xs : Nat → Int32) : ∃ (N : Nat) (hp : ix_H), N ≤ 2 ^ 15 ∧ ix_R (xTT 6 (va_up xs 1 16)) (ix_run (xTT 6 (va_up xs 1 16)) 14 8) xm_law N (529, xLS, [], xhp0) (some (.int 1), hp) ∧ hp.1 ≤ 600000 ∧ hp.2.1 ≤ 7302250 :=
  ⟨45, _, Nat.le_of_ble_eq_true rfl, (ix_R.fin 45 (iy_n_ok (iy_run_ok _ _ _) rfl)), Nat.le_of_ble_eq_true rfl, Nat.le_of_ble_eq_true rfl⟩
set_option maxRecDepth 1000000 in
set_option maxHeartbeats 8000000 in
theorem xo_10_k17 (xs : Nat → Int32) : ∃ (N : Nat) (hp : ix_H), N ≤ 2 ^ 15 ∧ ix_R (xTT 6 (va_up xs 1 17)) (ix_run (xTT 6 (va_up xs 1 17)) 14 8) xm_law N (529, xLS, [], xhp0) (some (.int 1), hp) ∧ hp.1 ≤ 600000 ∧ hp.2.1 ≤ 7302250 :=
  ⟨45, _, Nat.le_of_ble_eq_true rfl, (ix_R.fin 45 (iy_n_ok (iy_run_ok _ _ _) rfl)), Nat.le_of_ble_eq_true rfl, Nat.le_of_ble_eq_true rfl⟩
set_option maxRecDepth 1000000 in
set_option maxHeartbeats 8000000 in
theorem xo_10_k18 (xs : Nat → Int32) : ∃ (N : Nat) (hp : ix_H), N ≤ 2 ^ 15 ∧ ix_R (xTT 6 (va_up xs 1 18)) (ix_run (xTT 6 (va_up xs 1 18)) 14 8) xm_law N (529, xLS, [], xhp0) (some (.int 1), hp) ∧ hp.1 ≤ 600000 ∧ hp.2.1 ≤ 7302250 :=
  ⟨45, _, Nat.le_of_ble_eq_true rfl, (ix_R.fin 45 (iy_n_ok (iy_run_ok _ _ _) rfl)), Nat.le_of_ble_eq_true rfl, Nat.le_of_ble_eq_true rfl⟩
set_option maxRecDepth 1000000 in
set_option maxHeartbeats 8000000 in
theorem xo_10_k19 (xs : Nat → Int32) : ∃ (N : Nat) (hp : ix_H), N ≤ 2 ^ 15 ∧ ix_R (xTT 6 (va_up xs 1 19)) (ix_run (xTT 6 (va_up xs 1 19)) 14 8) xm_law N (529, xLS, [], xhp0) (some (.int 1), hp) ∧ hp.1 ≤ 600000 ∧ hp.2.1 ≤ 7302250 :=
  ⟨45, _, Nat.le_of_ble_eq_true rfl, (ix_R.fin 45 (iy_n_ok (iy_run_ok _ _ _) rfl)), Nat.le_of_ble_eq_true rfl, Nat.le_of_ble_eq_true rfl⟩
set_option maxRecDepth 1000000 in
set_option maxHeartbeats 8000000 in
theorem xo_10_k20 (xs : Nat → Int32) : ∃ (N : Nat) (hp : ix_H), N ≤ 2 ^ 15 ∧ ix_R (xTT 6 (va_up xs 1 20)) (ix_run (xTT 6 (va_up xs 1 20)) 14 8) xm_law N (529, xLS, [], xhp0) (some (.int 1), hp) ∧ hp.1 ≤ 600000 ∧ hp.2.1 ≤ 7302250 :=
  ⟨45, _, Nat.le_of_ble_eq_true rfl, (ix_R.fin 45 (iy_n_ok (iy_run_ok _ _ _) rfl)), Nat.le_of_ble_eq_true rfl, Nat.le_of_ble_eq_true rfl⟩
set_option maxRecDepth 1000000 in
set_option maxHeartbeats 8000000 in
theorem xo_10_k21 (xs : Nat → Int32) : ∃ (N : Nat) (hp : ix_H), N ≤ 2 ^ 15 ∧ ix_R (xTT 6 (va_up xs 1 21)) (ix_run (xTT 6 (va_up xs 1 21)) 14 8) xm_law N (529, xLS, [], xhp0) (some (.int 1), hp) ∧ hp.1 ≤ 600000 ∧ hp.2.1 ≤ 7302250 :=
  ⟨45, _, Nat.le_of_ble_eq_true rfl, (ix_R.fin 45 (iy_n_ok (iy_run_ok _ _ _) rfl)), Nat.le_of_ble_eq_true rfl, Nat.le_of_ble_eq_true rfl⟩
set_option maxRecDepth 1000000 in
set_option maxHeartbeats 8000000 in
theorem xo_10_k22 (xs : Nat → Int32) : ∃ (N : Nat) (hp : ix_H), N ≤ 2 ^ 15 ∧ ix_R (xTT 6 (va_up xs 1 22)) (ix_run (xTT 6 (va_up xs 1 22)) 14 8) xm_law N (529, xLS, [], xhp0) (some (.int 1), hp) ∧ hp.1 ≤ 600000 ∧ hp.2.1 ≤ 7302250 :=
  ⟨45, _, Nat.le_of_ble_eq_true rfl, (ix_R.fin 45 (iy_n_ok (iy_run_ok _ _ _) rfl)), Nat.le_of_ble_eq_true rfl, Nat.le_of_ble_eq_true rfl⟩
set_option maxRecDepth 1000000 in
set_option maxHeartbeats 8000000 in
theorem xo_10_k23 (xs : Nat → Int32) : ∃ (N : Nat) (hp : ix_H), N ≤ 2 ^ 15 ∧ ix_R (xTT 6 (va_up xs 1 23)) (ix_run (xTT 6 (va_up xs 1 23)) 14 8) xm_law N (529, xLS, [], xhp0) (some (.int 1), hp) ∧ hp.1 ≤ 600000 ∧ hp.2.1 ≤ 7302250 :=
  ⟨45, _, Nat.le_of_ble_eq_true rfl, (ix_R.fin 45 (iy_n_ok (iy_run_ok _ _ _) rfl)), Nat.le_of_ble_eq_true rfl, Nat.le_of_ble_eq_true rfl⟩
set_option maxRecDepth 1000000 in
set_option maxHeartbeats 8000000 in
theorem xo_11_neg (xs : Nat → Int32) (h1 : -2147483648 ≤ (xs 1).toInt ∧ (xs 1).toInt ≤ -1) : ∃ (N : Nat) (hp : ix_H), N ≤ 2 ^ 15 ∧ ix_R (xTT 6 xs) (ix_run (xTT 6 xs) 14 8) xm_law N (572, xLS, [], xhp0) (some (.int 1), hp) ∧ hp.1 ≤ 600000 ∧ hp.2.1 ≤ 7302250 :=
  ⟨35, _, Nat.le_of_ble_eq_true rfl, (ix_R.step 11 (iy_n_ok (iy_run_ok _ _ _) rfl) (ix_R.step 1 (ix_n_call (Or.inl ⟨_, rfl⟩) rfl (ix_cal_v rfl (Or.inl rfl) rfl rfl rfl ⟨rfl, Nat.le_of_ble_eq_true rfl, Nat.le_of_ble_eq_true rfl⟩ (ix_R.run (N := 6) rfl (Nat.le_of_ble_eq_true rfl) (ix_R.step 2 (iy_n_ok (iy_run_ok _ _ _) rfl) (ix_R.step 1 (ix_n_call (Or.inl ⟨_, rfl⟩) rfl (ix_cal_v rfl (Or.inl rfl) rfl rfl rfl ⟨rfl, Nat.le_of_ble_eq_true rfl, Nat.le_of_ble_eq_true rfl⟩ (ix_R.run (N := 4) rfl (Nat.le_of_ble_eq_true rfl) (ix_R.step 1 (iy_n_ok (iy_run_ok _ _ _) rfl) (ix_R.step 1 (ix_n_ift rfl rfl (cbt_lt (x := xs 1) (y := 0) (by have e9 : (0 : Int32).toInt = 0 := rfl; omega))) (ix_R.fin 2 (iy_n_ok (iy_run_ok _ _ _) rfl)))) (Nat.le_of_ble_eq_true rfl)))) (ix_R.fin 3 (iy_n_ok (iy_run_ok _ _ _) rfl)))) (Nat.le_of_ble_eq_true rfl)))) (ix_R.step 11 (iy_n_ok (iy_run_ok _ _ _) rfl) (ix_R.step 1 (ix_n_call (Or.inl ⟨_, rfl⟩) rfl (ix_cal_v rfl (Or.inl rfl) rfl rfl rfl ⟨rfl, Nat.le_of_ble_eq_true rfl, Nat.le_of_ble_eq_true rfl⟩ (ix_R.run (N := 6) rfl (Nat.le_of_ble_eq_true rfl) (ix_R.step 2 (iy_n_ok (iy_run_ok _ _ _) rfl) (ix_R.step 1 (ix_n_call (Or.inl ⟨_, rfl⟩) rfl (ix_cal_v rfl (Or.inl rfl) rfl rfl rfl ⟨rfl, Nat.le_of_ble_eq_true rfl, Nat.le_of_ble_eq_true rfl⟩ (ix_R.run (N := 5) rfl (Nat.le_of_ble_eq_true rfl) (ix_R.step 1 (iy_n_ok (iy_run_ok _ _ _) rfl) (ix_R.step 1 (ix_n_call (Or.inr (Or.inr ⟨_, rfl⟩)) rfl (ix_cal_s rfl (Or.inl rfl) ⟨Nat.le_of_ble_eq_true rfl, Nat.le_of_ble_eq_true rfl⟩ (ix_R.run (N := 6) rfl (Nat.le_of_ble_eq_true rfl) (ix_R.step 4 (iy_n_ok (iy_run_ok _ _ _) rfl) (ix_R.step 1 (ix_n_call (Or.inr (Or.inr ⟨_, rfl⟩)) rfl (ix_cal_s rfl (Or.inl rfl) ⟨Nat.le_of_ble_eq_true rfl, Nat.le_of_ble_eq_true rfl⟩ (ix_R.run (N := 6) rfl (Nat.le_of_ble_eq_true rfl) (ix_R.step 3 (iy_n_ok (iy_run_ok _ _ _) rfl) (ix_R.step 1 (ix_n_ift rfl rfl (clt_lt (x := (xs 1).toInt64) (y := 0) (by rw [Int32.toInt_toInt64]; have e9 : (0 : Int64).toInt = 0 := rfl; omega))) (ix_R.fin 2 (iy_n_ok (iy_run_ok _ _ _) rfl)))) (Nat.le_of_ble_eq_true rfl)))) (ix_R.fin 1 (iy_n_ok (iy_run_ok _ _ _) rfl)))) (Nat.le_of_ble_eq_true rfl)))) (ix_R.fin 3 (iy_n_ok (iy_run_ok _ _ _) rfl)))) (Nat.le_of_ble_eq_true rfl)))) (ix_R.fin 3 (iy_n_ok (iy_run_ok _ _ _) rfl)))) (Nat.le_of_ble_eq_true rfl)))) (ix_R.fin 11 (iy_n_ok (iy_run_ok _ _ _) rfl)))))), Nat.le_of_ble_eq_true rfl, Nat.le_of_ble_eq_true rfl⟩
set_option maxRecDepth 1000000 in
set_option maxHeartbeats 8000000 in
theorem xo_11_big (xs : Nat → Int32) (h1 : 24 ≤ (xs 1).toInt ∧ (xs 1).toInt ≤ 2147483647) : ∃ (N : Nat) (hp : ix_H), N ≤ 2 ^ 15 ∧ ix_R (xTT 6 xs) (ix_run (xTT 6 xs) 14 8) xm_law N (572, xLS, [], xhp0) (some (.int 1), hp) ∧ hp.1 ≤ 600000 ∧ hp.2.1 ≤ 7302250 :=
  ⟨35, _, Nat.le_of_ble_eq_true rfl, (ix_R.step 11 (iy_n_ok (iy_run_ok _ _ _) rfl) (ix_R.step 1 (ix_n_call (Or.inl ⟨_, rfl⟩) rfl (ix_cal_v rfl (Or.inl rfl) rfl rfl rfl ⟨rfl, Nat.le_of_ble_eq_true rfl, Nat.le_of_ble_eq_true rfl⟩ (ix_R.run (N := 6) rfl (Nat.le_of_ble_eq_true rfl) (ix_R.step 2 (iy_n_ok (iy_run_ok _ _ _) rfl) (ix_R.step 1 (ix_n_call (Or.inl ⟨_, rfl⟩) rfl (ix_cal_v rfl (Or.inl rfl) rfl rfl rfl ⟨rfl, Nat.le_of_ble_eq_true rfl, Nat.le_of_ble_eq_true rfl⟩ (ix_R.run (N := 7) rfl (Nat.le_of_ble_eq_true rfl) (ix_R.step 1 (iy_n_ok (iy_run_ok _ _ _) rfl) (ix_R.step 1 (ix_n_iff rfl rfl (cbf_lt (x := xs 1) (y := 0) (by have e9 : (0 : Int32).toInt = 0 := rfl; omega))) (ix_R.step 2 (iy_n_ok (iy_run_ok _ _ _) rfl) (ix_R.step 1 (ix_n_icmpt rfl rfl (cbt_ge (x := xs 1) (y := 24) (by have e9 : (24 : Int32).toInt = 24 := rfl; omega))) (ix_R.fin 2 (iy_n_ok (iy_run_ok _ _ _) rfl)))))) (Nat.le_of_ble_eq_true rfl)))) (ix_R.fin 3 (iy_n_ok (iy_run_ok _ _ _) rfl)))) (Nat.le_of_ble_eq_true rfl)))) (ix_R.step 11 (iy_n_ok (iy_run_ok _ _ _) rfl) (ix_R.step 1 (ix_n_call (Or.inl ⟨_, rfl⟩) rfl (ix_cal_v rfl (Or.inl rfl) rfl rfl rfl ⟨rfl, Nat.le_of_ble_eq_true rfl, Nat.le_of_ble_eq_true rfl⟩ (ix_R.run (N := 6) rfl (Nat.le_of_ble_eq_true rfl) (ix_R.step 2 (iy_n_ok (iy_run_ok _ _ _) rfl) (ix_R.step 1 (ix_n_call (Or.inl ⟨_, rfl⟩) rfl (ix_cal_v rfl (Or.inl rfl) rfl rfl rfl ⟨rfl, Nat.le_of_ble_eq_true rfl, Nat.le_of_ble_eq_true rfl⟩ (ix_R.run (N := 5) rfl (Nat.le_of_ble_eq_true rfl) (ix_R.step 1 (iy_n_ok (iy_run_ok _ _ _) rfl) (ix_R.step 1 (ix_n_call (Or.inr (Or.inr ⟨_, rfl⟩)) rfl (ix_cal_s rfl (Or.inl rfl) ⟨Nat.le_of_ble_eq_true rfl, Nat.le_of_ble_eq_true rfl⟩ (ix_R.run (N := 6) rfl (Nat.le_of_ble_eq_true rfl) (ix_R.step 4 (iy_n_ok (iy_run_ok _ _ _) rfl) (ix_R.step 1 (ix_n_call (Or.inr (Or.inr ⟨_, rfl⟩)) rfl (ix_cal_s rfl (Or.inl rfl) ⟨Nat.le_of_ble_eq_true rfl, Nat.le_of_ble_eq_true rfl⟩ (ix_R.run (N := 10) rfl (Nat.le_of_ble_eq_true rfl) (ix_R.step 3 (iy_n_ok (iy_run_ok _ _ _) rfl) (ix_R.step 1 (ix_n_iff rfl rfl (clf_lt (x := (xs 1).toInt64) (y := 0) (by rw [Int32.toInt_toInt64]; have e9 : (0 : Int64).toInt = 0 := rfl; omega))) (ix_R.step 3 (iy_n_ok (iy_run_ok _ _ _) rfl) (ix_R.step 1 (ix_n_ift rfl rfl (clt_gt (x := (xs 1).toInt64) (y := 23) (by rw [Int32.toInt_toInt64]; have e9 : (23 : Int64).toInt = 23 := rfl; omega))) (ix_R.fin 2 (iy_n_ok (iy_run_ok _ _ _) rfl)))))) (Nat.le_of_ble_eq_true rfl)))) (ix_R.fin 1 (iy_n_ok (iy_run_ok _ _ _) rfl)))) (Nat.le_of_ble_eq_true rfl)))) (ix_R.fin 3 (iy_n_ok (iy_run_ok _ _ _) rfl)))) (Nat.le_of_ble_eq_true rfl)))) (ix_R.fin 3 (iy_n_ok (iy_run_ok _ _ _) rfl)))) (Nat.le_of_ble_eq_true rfl)))) (ix_R.fin 11 (iy_n_ok (iy_run_ok _ _ _) rfl)))))), Nat.le_of_ble_eq_true rfl, Nat.le_of_ble_eq_true rfl⟩
