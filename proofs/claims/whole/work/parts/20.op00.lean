set_option maxRecDepth 1000000 in
set_option maxHeartbeats 8000000 in
theorem xo_0_all (xs : Nat → Int32) : ∃ (N : Nat) (hp : ix_H), N ≤ 2 ^ 15 ∧ ix_R (xTT 6 xs) (ix_run (xTT 6 xs) 14 8) xm_law N (208, xLS, [], xhp0) (some (.int 1), hp) ∧ hp.1 ≤ 600000 ∧ hp.2.1 ≤ 7302250 :=
  ⟨65, _, Nat.le_of_ble_eq_true rfl, (ix_R.fin 65 (iy_n_ok (iy_run_ok _ _ _) rfl)), Nat.le_of_ble_eq_true rfl, Nat.le_of_ble_eq_true rfl⟩
set_option maxRecDepth 1000000 in
set_option maxHeartbeats 8000000 in
theorem xo_1_neg (xs : Nat → Int32) (h1 : -2147483648 ≤ (xs 1).toInt ∧ (xs 1).toInt ≤ -1) : ∃ (N : Nat) (hp : ix_H), N ≤ 2 ^ 15 ∧ ix_R (xTT 6 xs) (ix_run (xTT 6 xs) 14 8) xm_law N (271, xLS, [], xhp0) (some (.int 1), hp) ∧ hp.1 ≤ 600000 ∧ hp.2.1 ≤ 7302250 :=
  ⟨25, _, Nat.le_of_ble_eq_true rfl, (ix_R.step 6 (iy_n_ok (iy_run_ok _ _ _) rfl) (ix_R.step 1 (ix_n_call (Or.inl ⟨_, rfl⟩) rfl (ix_cal_v rfl (Or.inl rfl) rfl rfl rfl ⟨rfl, Nat.le_of_ble_eq_true rfl, Nat.le_of_ble_eq_true rfl⟩ (ix_R.run (N := 4) rfl (Nat.le_of_ble_eq_true rfl) (ix_R.step 1 (iy_n_ok (iy_run_ok _ _ _) rfl) (ix_R.step 1 (ix_n_ift rfl rfl (cbt_lt (x := xs 1) (y := 0) (by have e9 : (0 : Int32).toInt = 0 := rfl; omega))) (ix_R.fin 2 (iy_n_ok (iy_run_ok _ _ _) rfl)))) (Nat.le_of_ble_eq_true rfl)))) (ix_R.step 6 (iy_n_ok (iy_run_ok _ _ _) rfl) (ix_R.step 1 (ix_n_call (Or.inl ⟨_, rfl⟩) rfl (ix_cal_v rfl (Or.inl rfl) rfl rfl rfl ⟨rfl, Nat.le_of_ble_eq_true rfl, Nat.le_of_ble_eq_true rfl⟩ (ix_R.run (N := 10) rfl (Nat.le_of_ble_eq_true rfl) (ix_R.step 6 (iy_n_ok (iy_run_ok _ _ _) rfl) (ix_R.step 1 (ix_n_call (Or.inr (Or.inr ⟨_, rfl⟩)) rfl (ix_cal_s rfl (Or.inl rfl) ⟨Nat.le_of_ble_eq_true rfl, Nat.le_of_ble_eq_true rfl⟩ (ix_R.run (N := 6) rfl (Nat.le_of_ble_eq_true rfl) (ix_R.step 3 (iy_n_ok (iy_run_ok _ _ _) rfl) (ix_R.step 1 (ix_n_ift rfl rfl (clt_lt (x := (xs 1).toInt64) (y := 0) (by rw [Int32.toInt_toInt64]; have e9 : (0 : Int64).toInt = 0 := rfl; omega))) (ix_R.fin 2 (iy_n_ok (iy_run_ok _ _ _) rfl)))) (Nat.le_of_ble_eq_true rfl)))) (ix_R.fin 3 (iy_n_ok (iy_run_ok _ _ _) rfl)))) (Nat.le_of_ble_eq_true rfl)))) (ix_R.fin 11 (iy_n_ok (iy_run_ok _ _ _) rfl)))))), Nat.le_of_ble_eq_true rfl, Nat.le_of_ble_eq_true rfl⟩
set_option maxRecDepth 1000000 in
set_option maxHeartbeats 8000000 in
theorem xo_1_big (xs : Nat → Int32) (h1 : 1 ≤ (xs 1).toInt ∧ (xs 1).toInt ≤ 2147483647) : ∃ (N : Nat) (hp : ix_H), N ≤ 2 ^ 15 ∧ ix_R (xTT 6 xs) (ix_run (xTT 6 xs) 14 8) xm_law N (271, xLS, [], xhp0) (some (.int 1), hp) ∧ hp.1 ≤ 600000 ∧ hp.2.1 ≤ 7302250 :=
  ⟨25, _, Nat.le_of_ble_eq_true rfl, (ix_R.step 6 (iy_n_ok (iy_run_ok _ _ _) rfl) (ix_R.step 1 (ix_n_call (Or.inl ⟨_, rfl⟩) rfl (ix_cal_v rfl (Or.inl rfl) rfl rfl rfl ⟨rfl, Nat.le_of_ble_eq_true rfl, Nat.le_of_ble_eq_true rfl⟩ (ix_R.run (N := 8) rfl (Nat.le_of_ble_eq_true rfl) (ix_R.step 1 (iy_n_ok (iy_run_ok _ _ _) rfl) (ix_R.step 1 (ix_n_iff rfl rfl (cbf_lt (x := xs 1) (y := 0) (by have e9 : (0 : Int32).toInt = 0 := rfl; omega))) (ix_R.step 3 (iy_n_ok (iy_run_ok _ _ _) rfl) (ix_R.step 1 (ix_n_icmpf rfl rfl (cbf_le (x := xs 1) (y := 0) (by have e9 : (0 : Int32).toInt = 0 := rfl; omega))) (ix_R.fin 2 (iy_n_ok (iy_run_ok _ _ _) rfl)))))) (Nat.le_of_ble_eq_true rfl)))) (ix_R.step 6 (iy_n_ok (iy_run_ok _ _ _) rfl) (ix_R.step 1 (ix_n_call (Or.inl ⟨_, rfl⟩) rfl (ix_cal_v rfl (Or.inl rfl) rfl rfl rfl ⟨rfl, Nat.le_of_ble_eq_true rfl, Nat.le_of_ble_eq_true rfl⟩ (ix_R.run (N := 10) rfl (Nat.le_of_ble_eq_true rfl) (ix_R.step 6 (iy_n_ok (iy_run_ok _ _ _) rfl) (ix_R.step 1 (ix_n_call (Or.inr (Or.inr ⟨_, rfl⟩)) rfl (ix_cal_s rfl (Or.inl rfl) ⟨Nat.le_of_ble_eq_true rfl, Nat.le_of_ble_eq_true rfl⟩ (ix_R.run (N := 10) rfl (Nat.le_of_ble_eq_true rfl) (ix_R.step 3 (iy_n_ok (iy_run_ok _ _ _) rfl) (ix_R.step 1 (ix_n_iff rfl rfl (clf_lt (x := (xs 1).toInt64) (y := 0) (by rw [Int32.toInt_toInt64]; have e9 : (0 : Int64).toInt = 0 := rfl; omega))) (ix_R.step 3 (iy_n_ok (iy_run_ok _ _ _) rfl) (ix_R.step 1 (ix_n_ift rfl rfl (clt_gt (x := (xs 1).toInt64) (y := 0) (by rw [Int32.toInt_toInt64]; have e9 : (0 : Int64).toInt = 0 := rfl; omega))) (ix_R.fin 2 (iy_n_ok (iy_run_ok _ _ _) rfl)))))) (Nat.le_of_ble_eq_true rfl)))) (ix_R.fin 3 (iy_n_ok (iy_run_ok _ _ _) rfl)))) (Nat.le_of_ble_eq_true rfl)))) (ix_R.fin 11 (iy_n_ok (iy_run_ok _ _ _) rfl)))))), Nat.le_of_ble_eq_true rfl, Nat.le_of_ble_eq_true rfl⟩
set_option maxRecDepth 1000000 in
set_option maxHeartbeats 8000000 in
theorem xo_1_k0 (xs : Nat → Int32) : ∃ (N : Nat) (hp : ix_H), N ≤ 2 ^ 15 ∧ ix_R (xTT 6 (va_up xs 1 0)) (ix_run (xTT 6 (va_up xs 1 0)) 14 8) xm_law N (271, xLS, [], xhp0) (some (.int 1), hp) ∧ hp.1 ≤ 600000 ∧ hp.2.1 ≤ 7302250 :=
  ⟨25, _, Nat.le_of_ble_eq_true rfl, (ix_R.fin 25 (iy_n_ok (iy_run_ok _ _ _) rfl)), Nat.le_of_ble_eq_true rfl, Nat.le_of_ble_eq_true rfl⟩
set_option maxRecDepth 1000000 in
set_option maxHeartbeats 8000000 in
theorem xo_2_neg (xs : Nat → Int32) (h1 : -2147483648 ≤ (xs 1).toInt ∧ (xs 1).toInt ≤ -1) : ∃ (N : Nat) (hp : ix_H), N ≤ 2 ^ 15 ∧ ix_R (xTT 6 xs) (ix_run (xTT 6 xs) 14 8) xm_law N (294, xLS, [], xhp0) (some (.int 1), hp) ∧ hp.1 ≤ 600000 ∧ hp.2.1 ≤ 7302250 :=
  ⟨25, _, Nat.le_of_ble_eq_true rfl, (ix_R.step 6 (iy_n_ok (iy_run_ok _ _ _) rfl) (ix_R.step 1 (ix_n_call (Or.inl ⟨_, rfl⟩) rfl (ix_cal_v rfl (Or.inl rfl) rfl rfl rfl ⟨rfl, Nat.le_of_ble_eq_true rfl, Nat.le_of_ble_eq_true rfl⟩ (ix_R.run (N := 4) rfl (Nat.le_of_ble_eq_true rfl) (ix_R.step 1 (iy_n_ok (iy_run_ok _ _ _) rfl) (ix_R.step 1 (ix_n_ift rfl rfl (cbt_lt (x := xs 1) (y := 0) (by have e9 : (0 : Int32).toInt = 0 := rfl; omega))) (ix_R.fin 2 (iy_n_ok (iy_run_ok _ _ _) rfl)))) (Nat.le_of_ble_eq_true rfl)))) (ix_R.step 6 (iy_n_ok (iy_run_ok _ _ _) rfl) (ix_R.step 1 (ix_n_call (Or.inl ⟨_, rfl⟩) rfl (ix_cal_v rfl (Or.inl rfl) rfl rfl rfl ⟨rfl, Nat.le_of_ble_eq_true rfl, Nat.le_of_ble_eq_true rfl⟩ (ix_R.run (N := 5) rfl (Nat.le_of_ble_eq_true rfl) (ix_R.step 1 (iy_n_ok (iy_run_ok _ _ _) rfl) (ix_R.step 1 (ix_n_call (Or.inr (Or.inr ⟨_, rfl⟩)) rfl (ix_cal_s rfl (Or.inl rfl) ⟨Nat.le_of_ble_eq_true rfl, Nat.le_of_ble_eq_true rfl⟩ (ix_R.run (N := 6) rfl (Nat.le_of_ble_eq_true rfl) (ix_R.step 4 (iy_n_ok (iy_run_ok _ _ _) rfl) (ix_R.step 1 (ix_n_call (Or.inr (Or.inr ⟨_, rfl⟩)) rfl (ix_cal_s rfl (Or.inl rfl) ⟨Nat.le_of_ble_eq_true rfl, Nat.le_of_ble_eq_true rfl⟩ (ix_R.run (N := 6) rfl (Nat.le_of_ble_eq_true rfl) (ix_R.step 3 (iy_n_ok (iy_run_ok _ _ _) rfl) (ix_R.step 1 (ix_n_ift rfl rfl (clt_lt (x := (xs 1).toInt64) (y := 0) (by rw [Int32.toInt_toInt64]; have e9 : (0 : Int64).toInt = 0 := rfl; omega))) (ix_R.fin 2 (iy_n_ok (iy_run_ok _ _ _) rfl)))) (Nat.le_of_ble_eq_true rfl)))) (ix_R.fin 1 (iy_n_ok (iy_run_ok _ _ _) rfl)))) (Nat.le_of_ble_eq_true rfl)))) (ix_R.fin 3 (iy_n_ok (iy_run_ok _ _ _) rfl)))) (Nat.le_of_ble_eq_true rfl)))) (ix_R.fin 11 (iy_n_ok (iy_run_ok _ _ _) rfl)))))), Nat.le_of_ble_eq_true rfl, Nat.le_of_ble_eq_true rfl⟩
set_option maxRecDepth 1000000 in
set_option maxHeartbeats 8000000 in
theorem xo_2_big (xs : Nat → Int32) (h1 : 24 ≤ (xs 1).toInt ∧ (xs 1).toInt ≤ 2147483647) : ∃ (N : Nat) (hp : ix_H), N ≤ 2 ^ 15 ∧ ix_R (xTT 6 xs) (ix_run (xTT 6 xs) 14 8) xm_law N (294, xLS, [], xhp0) (some (.int 1), hp) ∧ hp.1 ≤ 600000 ∧ hp.2.1 ≤ 7302250 :=
  ⟨25, _, Nat.le_of_ble_eq_true rfl, (ix_R.step 6 (iy_n_ok (iy_run_ok _ _ _) rfl) (ix_R.step 1 (ix_n_call (Or.inl ⟨_, rfl⟩) rfl (ix_cal_v rfl (Or.inl rfl) rfl rfl rfl ⟨rfl, Nat.le_of_ble_eq_true rfl, Nat.le_of_ble_eq_true rfl⟩ (ix_R.run (N := 7) rfl (Nat.le_of_ble_eq_true rfl) (ix_R.step 1 (iy_n_ok (iy_run_ok _ _ _) rfl) (ix_R.step 1 (ix_n_iff rfl rfl (cbf_lt (x := xs 1) (y := 0) (by have e9 : (0 : Int32).toInt = 0 := rfl; omega))) (ix_R.step 2 (iy_n_ok (iy_run_ok _ _ _) rfl) (ix_R.step 1 (ix_n_icmpt rfl rfl (cbt_ge (x := xs 1) (y := 24) (by have e9 : (24 : Int32).toInt = 24 := rfl; omega))) (ix_R.fin 2 (iy_n_ok (iy_run_ok _ _ _) rfl)))))) (Nat.le_of_ble_eq_true rfl)))) (ix_R.step 6 (iy_n_ok (iy_run_ok _ _ _) rfl) (ix_R.step 1 (ix_n_call (Or.inl ⟨_, rfl⟩) rfl (ix_cal_v rfl (Or.inl rfl) rfl rfl rfl ⟨rfl, Nat.le_of_ble_eq_true rfl, Nat.le_of_ble_eq_true rfl⟩ (ix_R.run (N := 5) rfl (Nat.le_of_ble_eq_true rfl) (ix_R.step 1 (iy_n_ok (iy_run_ok _ _ _) rfl) (ix_R.step 1 (ix_n_call (Or.inr (Or.inr ⟨_, rfl⟩)) rfl (ix_cal_s rfl (Or.inl rfl) ⟨Nat.le_of_ble_eq_true rfl, Nat.le_of_ble_eq_true rfl⟩ (ix_R.run (N := 6) rfl (Nat.le_of_ble_eq_true rfl) (ix_R.step 4 (iy_n_ok (iy_run_ok _ _ _) rfl) (ix_R.step 1 (ix_n_call (Or.inr (Or.inr ⟨_, rfl⟩)) rfl (ix_cal_s rfl (Or.inl rfl) ⟨Nat.le_of_ble_eq_true rfl, Nat.le_of_ble_eq_true rfl⟩ (ix_R.run (N := 10) rfl (Nat.le_of_ble_eq_true rfl) (ix_R.step 3 (iy_n_ok (iy_run_ok _ _ _) rfl) (ix_R.step 1 (ix_n_iff rfl rfl (clf_lt (x := (xs 1).toInt64) (y := 0) (by rw [Int32.toInt_toInt64]; have e9 : (0 : Int64).toInt = 0 := rfl; omega))) (ix_R.step 3 (iy_n_ok (iy_run_ok _ _ _) rfl) (ix_R.step 1 (ix_n_ift rfl rfl (clt_gt (x := (xs 1).toInt64) (y := 23) (by rw [Int32.toInt_toInt64]; have e9 : (23 : Int64).toInt = 23 := rfl; omega))) (ix_R.fin 2 (iy_n_ok (iy_run_ok _ _ _) rfl)))))) (Nat.le_of_ble_eq_true rfl)))) (ix_R.fin 1 (iy_n_ok (iy_run_ok _ _ _) rfl)))) (Nat.le_of_ble_eq_true rfl)))) (ix_R.fin 3 (iy_n_ok (iy_run_ok _ _ _) rfl)))) (Nat.le_of_ble_eq_true rfl)))) (ix_R.fin 11 (iy_n_ok (iy_run_ok _ _ _) rfl)))))), Nat.le_of_ble_eq_true rfl, Nat.le_of_ble_eq_true rfl⟩
set_option maxRecDepth 1000000 in
set_option maxHeartbeats 8000000 in
theorem xo_2_k0 (xs : Nat → Int32) : ∃ (N : Nat) (hp : ix_H), N ≤ 2 ^ 15 ∧ ix_R (xTT 6 (va_up xs 1 0)) (ix_run (xTT 6 (va_up xs 1 0)) 14 8) xm_law N (294, xLS, [], xhp0) (some (.int 1), hp) ∧ hp.1 ≤ 600000 ∧ hp.2.1 ≤ 7302250 :=
  ⟨25, _, Nat.le_of_ble_eq_true rfl, (ix_R.fin 25 (iy_n_ok (iy_run_ok _ _ _) rfl)), Nat.le_of_ble_eq_true rfl, Nat.le_of_ble_eq_true rfl⟩
set_option maxRecDepth 1000000 in
set_option maxHeartbeats 8000000 in
theorem xo_2_k1 (xs : Nat → Int32) : ∃ (N : Nat) (hp : ix_H), N ≤ 2 ^ 15 ∧ ix_R (xTT 6 (va_up xs 1 1)) (ix_run (xTT 6 (va_up xs 1 1)) 14 8) xm_law N (294, xLS, [], xhp0) (some (.int 1), hp) ∧ hp.1 ≤ 600000 ∧ hp.2.1 ≤ 7302250 :=
  ⟨25, _, Nat.le_of_ble_eq_true rfl, (ix_R.fin 25 (iy_n_ok (iy_run_ok _ _ _) rfl)), Nat.le_of_ble_eq_true rfl, Nat.le_of_ble_eq_true rfl⟩
set_option maxRecDepth 1000000 in
set_option maxHeartbeats 8000000 in
theorem xo_2_k2 (xs : Nat → Int32) : ∃ (N : Nat) (hp : ix_H), N ≤ 2 ^ 15 ∧ ix_R (xTT 6 (va_up xs 1 2)) (ix_run (xTT 6 (va_up xs 1 2)) 14 8) xm_law N (294, xLS, [], xhp0) (some (.int 1), hp) ∧ hp.1 ≤ 600000 ∧ hp.2.1 ≤ 7302250 :=
  ⟨25, _, Nat.le_of_ble_eq_true rfl, (ix_R.fin 25 (iy_n_ok (iy_run_ok _ _ _) rfl)), Nat.le_of_ble_eq_true rfl, Nat.le_of_ble_eq_true rfl⟩
set_option maxRecDepth 1000000 in
set_option maxHeartbeats 8000000 in
theorem xo_2_k3 (xs : Nat → Int32) : ∃ (N : Nat) (hp : ix_H), N ≤ 2 ^ 15 ∧ ix_R (xTT 6 (va_up xs 1 3)) (ix_run (xTT 6 (va_up xs 1 3)) 14 8) xm_law N (294, xLS, [], xhp0) (some (.int 1), hp) ∧ hp.1 ≤ 600000 ∧ hp.2.1 ≤ 7302250 :=
  ⟨25, _, Nat.le_of_ble_eq_true rfl, (ix_R.fin 25 (iy_n_ok (iy_run_ok _ _ _) rfl)), Nat.le_of_ble_eq_true rfl, Nat.le_of_ble_eq_true rfl⟩
set_option maxRecDepth 1000000 in
set_option maxHeartbeats 8000000 in
theorem xo_2_k4 (xs : Nat → Int32) : ∃ (N : Nat) (hp : ix_H), N ≤ 2 ^ 15 ∧ ix_R (xTT 6 (va_up xs 1 4)) (ix_run (xTT 6 (va_up xs 1 4)) 14 8) xm_law N (294, xLS, [], xhp0) (some (.int 1), hp) ∧ hp.1 ≤ 600000 ∧ hp.2.1 ≤ 7302250 :=
  ⟨25, _, Nat.le_of_ble_eq_true rfl, (ix_R.fin 25 (iy_n_ok (iy_run_ok _ _ _) rfl)), Nat.le_of_ble_eq_true rfl, Nat.le_of_ble_eq_true rfl⟩
set_option maxRecDepth 1000000 in
set_option maxHeartbeats 8000000 in
theorem xo_2_k5 (xs : Nat → Int32) : ∃ (N : Nat) (hp : ix_H), N ≤ 2 ^ 15 ∧ ix_R (xTT 6 (va_up xs 1 5)) (ix_run (xTT 6 (va_up xs 1 5)) 14 8) xm_law N (294, xLS, [], xhp0) (some (.int 1), hp) ∧ hp.1 ≤ 600000 ∧ hp.2.1 ≤ 7302250 :=
  ⟨25, _, Nat.le_of_ble_eq_true rfl, (ix_R.fin 25 (iy_n_ok (iy_run_ok _ _ _) rfl)), Nat.le_of_ble_eq_true rfl, Nat.le_of_ble_eq_true rfl⟩
set_option maxRecDepth 1000000 in
set_option maxHeartbeats 8000000 in
theorem xo_2_k6 (xs : Nat → Int32) : ∃ (N : Nat) (hp : ix_H), N ≤ 2 ^ 15 ∧ ix_R (xTT 6 (va_up xs 1 6)) (ix_run (xTT 6 (va_up xs 1 6)) 14 8) xm_law N (294, xLS, [], xhp0) (some (.int 1), hp) ∧ hp.1 ≤ 600000 ∧ hp.2.1 ≤ 7302250 :=
  ⟨25, _, Nat.le_of_ble_eq_true rfl, (ix_R.fin 25 (iy_n_ok (iy_run_ok _ _ _) rfl)), Nat.le_of_ble_eq_true rfl, Nat.le_of_ble_eq_true rfl⟩
set_option maxRecDepth 1000000 in
set_option maxHeartbeats 8000000 in
theorem xo_2_k7 (xs : Nat → Int32) : ∃ (N : Nat) (hp : ix_H), N ≤ 2 ^ 15 ∧ ix_R (xTT 6 (va_up xs 1 7)) (ix_run (xTT 6 (va_up xs 1 7)) 14 8) xm_law N (294, xLS, [], xhp0) (some (.int 1), hp) ∧ hp.1 ≤ 600000 ∧ hp.2.1 ≤ 7302250 :=
  ⟨25, _, Nat.le_of_ble_eq_true rfl, (ix_R.fin 25 (iy_n_ok (iy_run_ok _ _ _) rfl)), Nat.le_of_ble_eq_true rfl, Nat.le_of_ble_eq_true rfl⟩
set_option maxRecDepth 1000000 in
set_option maxHeartbeats 8000000 in
theorem xo_2_k8 (xs : Nat → Int32) : ∃ (N : Nat) (hp : ix_H), N ≤ 2 ^ 15 ∧ ix_R (xTT 6 (va_up xs 1 8)) (ix_run (xTT 6 (va_up xs 1 8)) 14 8) xm_law N (294, xLS, [], xhp0) (some (.int 1), hp) ∧ hp.1 ≤ 600000 ∧ hp.2.1 ≤ 7302250 :=
  ⟨25, _, Nat.le_of_ble_eq_true rfl, (ix_R.fin 25 (iy_n_ok (iy_run_ok _ _ _) rfl)), Nat.le_of_ble_eq_true rfl, Nat.le_of_ble_eq_true rfl⟩
set_option maxRecDepth 1000000 in
set_option maxHeartbeats 8000000 in
theorem xo_2_k9 (xs : Nat → Int32) : ∃ (N : Nat) (hp : ix_H), N ≤ 2 ^ 15 ∧ ix_R (xTT 6 (va_up xs 1 9)) (ix_run (xTT 6 (va_up xs 1 9)) 14 8) xm_law N (294, xLS, [], xhp0) (some (.int 1), hp) ∧ hp.1 ≤ 600000 ∧ hp.2.1 ≤ 7302250 :=
  ⟨25, _, Nat.le_of_ble_eq_true rfl, (ix_R.fin 25 (iy_n_ok (iy_run_ok _ _ _) rfl)), Nat.le_of_ble_eq_true rfl, Nat.le_of_ble_eq_true rfl⟩
set_option maxRecDepth 1000000 in
set_option maxHeartbeats 8000000 in
theorem xo_2_k10 (xs : Nat → Int32) : ∃ (N : Nat) (hp : ix_H), N ≤ 2 ^ 15 ∧ ix_R (xTT 6 (va_up xs 1 10)) (ix_run (xTT 6 (va_up xs 1 10)) 14 8) xm_law N (294, xLS, [], xhp0) (some (.int 1), hp) ∧ hp.1 ≤ 600000 ∧ hp.2.1 ≤ 7302250 :=
  ⟨25, _, Nat.le_of_ble_eq_true rfl, (ix_R.fin 25 (iy_n_ok (iy_run_ok _ _ _) rfl)), Nat.le_of_ble_eq_true rfl, Nat.le_of_ble_eq_true rfl⟩
set_option maxRecDepth 1000000 in
set_option maxHeartbeats 8000000 in
theorem xo_2_k11 (xs : Nat → Int32) : ∃ (N : Nat) (hp : ix_H), N ≤ 2 ^ 15 ∧ ix_R (xTT 6 (va_up xs 1 11)) (ix_run (xTT 6 (va_up xs 1 11)) 14 8) xm_law N (294, xLS, [], xhp0) (some (.int 1), hp) ∧ hp.1 ≤ 600000 ∧ hp.2.1 ≤ 7302250 :=
  ⟨25, _, Nat.le_of_ble_eq_true rfl, (ix_R.fin 25 (iy_n_ok (iy_run_ok _ _ _) rfl)), Nat.le_of_ble_eq_true rfl, Nat.le_of_ble_eq_true rfl⟩
set_option maxRecDepth 1000000 in
set_option maxHeartbeats 8000000 in
theorem xo_2_k12 (xs : Nat → Int32) : ∃ (N : Nat) (hp : ix_H), N ≤ 2 ^ 15 ∧ ix_R (xTT 6 (va_up xs 1 12)) (ix_run (xTT 6 (va_up xs 1 12)) 14 8) xm_law N (294, xLS, [], xhp0) (some (.int 1), hp) ∧ hp.1 ≤ 600000 ∧ hp.2.1 ≤ 7302250 :=
  ⟨25, _, Nat.le_of_ble_eq_true rfl, (ix_R.fin 25 (iy_n_ok (iy_run_ok _ _ _) rfl)), Nat.le_of_ble_eq_true rfl, Nat.le_of_ble_eq_true rfl⟩
set_option maxRecDepth 1000000 in
set_option maxHeartbeats 8000000 in
theorem xo_2_k13 (xs : Nat → Int32) : ∃ (N : Nat) (hp : ix_H), N ≤ 2 ^ 15 ∧ ix_R (xTT 6 (va_up xs 1 13)) (ix_run (xTT 6 (va_up xs 1 13)) 14 8) xm_law N (294, xLS, [], xhp0) (some (.int 1), hp) ∧ hp.1 ≤ 600000 ∧ hp.2.1 ≤ 7302250 :=
  ⟨25, _, Nat.le_of_ble_eq_true rfl, (ix_R.fin 25 (iy_n_ok (iy_run_ok _ _ _) rfl)), Nat.le_of_ble_eq_true rfl, Nat.le_of_ble_eq_true rfl⟩
set_option maxRecDepth 1000000 in
set_option maxHeartbeats 8000000 in
theorem xo_2_k14 (xs : Nat → Int32) : ∃ (N : Nat) (hp : ix_H), N ≤ 2 ^ 15 ∧ ix_R (xTT 6 (va_up xs 1 14)) (ix_run (xTT 6 (va_up xs 1 14)) 14 8) xm_law N (294, xLS, [], xhp0) (some (.int 1), hp) ∧ hp.1 ≤ 600000 ∧ hp.2.1 ≤ 7302250 :=
  ⟨25, _, Nat.le_of_ble_eq_true rfl, (ix_R.fin 25 (iy_n_ok (iy_run_ok _ _ _) rfl)), Nat.le_of_ble_eq_true rfl, Nat.le_of_ble_eq_true rfl⟩
set_option maxRecDepth 1000000 in
set_option maxHeartbeats 8000000 in
theorem xo_2_k15 (xs : Nat → Int32) : ∃ (N : Nat) (hp : ix_H), N ≤ 2 ^ 15 ∧ ix_R (xTT 6 (va_up xs 1 15)) (ix_run (xTT 6 (va_up xs 1 15)) 14 8) xm_law N (294, xLS, [], xhp0) (some (.int 1), hp) ∧ hp.1 ≤ 600000 ∧ hp.2.1 ≤ 7302250 :=
  ⟨25, _, Nat.le_of_ble_eq_true rfl, (ix_R.fin 25 (iy_n_ok (iy_run_ok _ _ _) rfl)), Nat.le_of_ble_eq_true rfl, Nat.le_of_ble_eq_true rfl⟩
set_option maxRecDepth 1000000 in
set_option maxHeartbeats 8000000 in
theorem xo_2_k16 (xs : Nat → Int32) : ∃ (N : Nat) (hp : ix_H), N ≤ 2 ^ 15 ∧ ix_R (xTT 6 (va_up xs 1 16)) (ix_run (xTT 6 (va_up xs 1 16)) 14 8) xm_law N (294, xLS, [], xhp0) (some (.int 1), hp) ∧ hp.1 ≤ 600000 ∧ hp.2.1 ≤ 7302250 :=
  ⟨25, _, Nat.le_of_ble_eq_true rfl, (ix_R.fin 25 (iy_n_ok (iy_run_ok _ _ _) rfl)), Nat.le_of_ble_eq_true rfl, Nat.le_of_ble_eq_true rfl⟩
set_option maxRecDepth 1000000 in
set_option maxHeartbeats 8000000 in
theorem xo_2_k17 (xs : Nat → Int32) : ∃ (N : Nat) (hp : ix_H), N ≤ 2 ^ 15 ∧ ix_R (xTT 6 (va_up xs 1 17)) (ix_run (xTT 6 (va_up xs 1 17)) 14 8) xm_law N (294, xLS, [], xhp0) (some (.int 1), hp) ∧ hp.1 ≤ 600000 ∧ hp.2.1 ≤ 7302250 :=
  ⟨25, _, Nat.le_of_ble_eq_true rfl, (ix_R.fin 25 (iy_n_ok (iy_run_ok _ _ _) rfl)), Nat.le_of_ble_eq_true rfl, Nat.le_of_ble_eq_true rfl⟩
set_option maxRecDepth 1000000 in
set_option maxHeartbeats 8000000 in
theorem xo_2_k18 (xs : Nat → Int32) : ∃ (N : Nat) (hp : ix_H), N ≤ 2 ^ 15 ∧ ix_R (xTT 6 (va_up xs 1 18)) (ix_run (xTT 6 (va_up xs 1 18)) 14 8) xm_law N (294, xLS, [], xhp0) (some (.int 1), hp) ∧ hp.1 ≤ 600000 ∧ hp.2.1 ≤ 7302250 :=
  ⟨25, _, Nat.le_of_ble_eq_true rfl, (ix_R.fin 25 (iy_n_ok (iy_run_ok _ _ _) rfl)), Nat.le_of_ble_eq_true rfl, Nat.le_of_ble_eq_true rfl⟩
set_option maxRecDepth 1000000 in
set_option maxHeartbeats 8000000 in
theorem xo_2_k19 (xs : Nat → Int32) : ∃ (N : Nat) (hp : ix_H), N ≤ 2 ^ 15 ∧ ix_R (xTT 6 (va_up xs 1 19)) (ix_run (xTT 6 (va_up xs 1 19)) 14 8) xm_law N (294, xLS, [], xhp0) (some (.int 1), hp) ∧ hp.1 ≤ 600000 ∧ hp.2.1 ≤ 7302250 :=
  ⟨25, _, Nat.le_of_ble_eq_true rfl, (ix_R.fin 25 (iy_n_ok (iy_run_ok _ _ _) rfl)), Nat.le_of_ble_eq_true rfl, Nat.le_of_ble_eq_true rfl⟩
set_option maxRecDepth 1000000 in
set_option maxHeartbeats 8000000 in
theorem xo_2_k20 (xs : Nat → Int32) : ∃ (N : Nat) (hp : ix_H), N ≤ 2 ^ 15 ∧ ix_R (xTT 6 (va_up xs 1 20)) (ix_run (xTT 6 (va_up xs 1 20)) 14 8) xm_law N (294, xLS, [], xhp0) (some (.int 1), hp) ∧ hp.1 ≤ 600000 ∧ hp.2.1 ≤ 7302250 :=
  ⟨25, _, Nat.le_of_ble_eq_true rfl, (ix_R.fin 25 (iy_n_ok (iy_run_ok _ _ _) rfl)), Nat.le_of_ble_eq_true rfl, Nat.le_of_ble_eq_true rfl⟩
set_option maxRecDepth 1000000 in
set_option maxHeartbeats 8000000 in
theorem xo_2_k21 (xs : Nat → Int32) : ∃ (N : Nat) (hp : ix_H), N ≤ 2 ^ 15 ∧ ix_R (xTT 6 (va_up xs 1 21)) (ix_run (xTT 6 (va_up xs 1 21)) 14 8) xm_law N (294, xLS, [], xhp0) (some (.int 1), hp) ∧ hp.1 ≤ 600000 ∧ hp.2.1 ≤ 7302250 :=
  ⟨25, _, Nat.le_of_ble_eq_true rfl, (ix_R.fin 25 (iy_n_ok (iy_run_ok _ _ _) rfl)), Nat.le_of_ble_eq_true rfl, Nat.le_of_ble_eq_true rfl⟩
set_option maxRecDepth 1000000 in
set_option maxHeartbeats 8000000 in
theorem xo_2_k22 (xs : Nat → Int32) : ∃ (N : Nat) (hp : ix_H), N ≤ 2 ^ 15 ∧ ix_R (xTT 6 (va_up xs 1 22)) (ix_run (xTT 6 (va_up xs 1 22)) 14 8) xm_law N (294, xLS, [], xhp0) (some (.int 1), hp) ∧ hp.1 ≤ 600000 ∧ hp.2.1 ≤ 7302250 :=
  ⟨25, _, Nat.le_of_ble_eq_true rfl, (ix_R.fin 25 (iy_n_ok (iy_run_ok _ _ _) rfl)), Nat.le_of_ble_eq_true rfl, Nat.le_of_ble_eq_true rfl⟩
set_option maxRecDepth 1000000 in
set_option maxHeartbeats 8000000 in
theorem xo_2_k23 (xs : Nat → Int32) : ∃ (N : Nat) (hp : ix_H), N ≤ 2 ^ 15 ∧ ix_R (xTT 6 (va_up xs 1 23)) (ix_run (xTT 6 (va_up xs 1 23)) 14 8) xm_law N (294, xLS, [], xhp0) (some (.int 1), hp) ∧ hp.1 ≤ 600000 ∧ hp.2.1 ≤ 7302250 :=
  ⟨25, _, Nat.le_of_ble_eq_true rfl, (ix_R.fin 25 (iy_n_ok (iy_run_ok _ _ _) rfl)), Nat.le_of_ble_eq_true rfl, Nat.le_of_ble_eq_true rfl⟩
set_option maxRecDepth 1000000 in
set_option maxHeartbeats 8000000 in
theorem xo_3_neg (xs : Nat → Int32) (h1 : -2147483648 ≤ (xs 1).toInt ∧ (xs 1).toInt ≤ -1) : ∃ (N : Nat) (hp : ix_H), N ≤ 2 ^ 15 ∧ ix_R (xTT 6 xs) (ix_run (xTT 6 xs) 14 8) xm_law N (317, xLS, [], xhp0) (some (.int 1), hp) ∧ hp.1 ≤ 600000 ∧ hp.2.1 ≤ 7302250 :=
  ⟨25, _, Nat.le_of_ble_eq_true rfl, (ix_R.step 6 (iy_n_ok (iy_run_ok _ _ _) rfl) (ix_R.step 1 (ix_n_call (Or.inl ⟨_, rfl⟩) rfl (ix_cal_v rfl (Or.inl rfl) rfl rfl rfl ⟨rfl, Nat.le_of_ble_eq_true rfl, Nat.le_of_ble_eq_true rfl⟩ (ix_R.run (N := 4) rfl (Nat.le_of_ble_eq_true rfl) (ix_R.step 1 (iy_n_ok (iy_run_ok _ _ _) rfl) (ix_R.step 1 (ix_n_ift rfl rfl (cbt_lt (x := xs 1) (y := 0) (by have e9 : (0 : Int32).toInt = 0 := rfl; omega))) (ix_R.fin 2 (iy_n_ok (iy_run_ok _ _ _) rfl)))) (Nat.le_of_ble_eq_true rfl)))) (ix_R.step 6 (iy_n_ok (iy_run_ok _ _ _) rfl) (ix_R.step 1 (ix_n_call (Or.inl ⟨_, rfl⟩) rfl (ix_cal_v rfl (Or.inl rfl) rfl rfl rfl ⟨rfl, Nat.le_of_ble_eq_true rfl, Nat.le_of_ble_eq_true rfl⟩ (ix_R.run (N := 5) rfl (Nat.le_of_ble_eq_true rfl) (ix_R.step 1 (iy_n_ok (iy_run_ok _ _ _) rfl) (ix_R.step 1 (ix_n_call (Or.inr (Or.inr ⟨_, rfl⟩)) rfl (ix_cal_s rfl (Or.inl rfl) ⟨Nat.le_of_ble_eq_true rfl, Nat.le_of_ble_eq_true rfl⟩ (ix_R.run (N := 6) rfl (Nat.le_of_ble_eq_true rfl) (ix_R.step 4 (iy_n_ok (iy_run_ok _ _ _) rfl) (ix_R.step 1 (ix_n_call (Or.inr (Or.inr ⟨_, rfl⟩)) rfl (ix_cal_s rfl (Or.inl rfl) ⟨Nat.le_of_ble_eq_true rfl, Nat.le_of_ble_eq_true rfl⟩ (ix_R.run (N := 6) rfl (Nat.le_of_ble_eq_true rfl) (ix_R.step 3 (iy_n_ok (iy_run_ok _ _ _) rfl) (ix_R.step 1 (ix_n_ift rfl rfl (clt_lt (x := (xs 1).toInt64) (y := 0) (by rw [Int32.toInt_toInt64]; have e9 : (0 : Int64).toInt = 0 := rfl; omega))) (ix_R.fin 2 (iy_n_ok (iy_run_ok _ _ _) rfl)))) (Nat.le_of_ble_eq_true rfl)))) (ix_R.fin 1 (iy_n_ok (iy_run_ok _ _ _) rfl)))) (Nat.le_of_ble_eq_true rfl)))) (ix_R.fin 3 (iy_n_ok (iy_run_ok _ _ _) rfl)))) (Nat.le_of_ble_eq_true rfl)))) (ix_R.fin 11 (iy_n_ok (iy_run_ok _ _ _) rfl)))))), Nat.le_of_ble_eq_true rfl, Nat.le_of_ble_eq_true rfl⟩
set_option maxRecDepth 1000000 in
set_option maxHeartbeats 8000000 in
theorem xo_3_big (xs : Nat → Int32) (h1 : 24 ≤ (xs 1).toInt ∧ (xs 1).toInt ≤ 2147483647) : ∃ (N : Nat) (hp : ix_H), N ≤ 2 ^ 15 ∧ ix_R (xTT 6 xs) (ix_run (xTT 6 xs) 14 8) xm_law N (317, xLS, [], xhp0) (some (.int 1), hp) ∧ hp.1 ≤ 600000 ∧ hp.2.1 ≤ 7302250 :=
  ⟨25, _, Nat.le_of_ble_eq_true rfl, (ix_R.step 6 (iy_n_ok (iy_run_ok _ _ _) rfl) (ix_R.step 1 (ix_n_call (Or.inl ⟨_, rfl⟩) rfl (ix_cal_v rfl (Or.inl rfl) rfl rfl rfl ⟨rfl, Nat.le_of_ble_eq_true rfl, Nat.le_of_ble_eq_true rfl⟩ (ix_R.run (N := 7) rfl (Nat.le_of_ble_eq_true rfl) (ix_R.step 1 (iy_n_ok (iy_run_ok _ _ _) rfl) (ix_R.step 1 (ix_n_iff rfl rfl (cbf_lt (x := xs 1) (y := 0) (by have e9 : (0 : Int32).toInt = 0 := rfl; omega))) (ix_R.step 2 (iy_n_ok (iy_run_ok _ _ _) rfl) (ix_R.step 1 (ix_n_icmpf rfl rfl (cbf_lt (x := xs 1) (y := 24) (by have e9 : (24 : Int32).toInt = 24 := rfl; omega))) (ix_R.fin 2 (iy_n_ok (iy_run_ok _ _ _) rfl)))))) (Nat.le_of_ble_eq_true rfl)))) (ix_R.step 6 (iy_n_ok (iy_run_ok _ _ _) rfl) (ix_R.step 1 (ix_n_call (Or.inl ⟨_, rfl⟩) rfl (ix_cal_v rfl (Or.inl rfl) rfl rfl rfl ⟨rfl, Nat.le_of_ble_eq_true rfl, Nat.le_of_ble_eq_true rfl⟩ (ix_R.run (N := 5) rfl (Nat.le_of_ble_eq_true rfl) (ix_R.step 1 (iy_n_ok (iy_run_ok _ _ _) rfl) (ix_R.step 1 (ix_n_call (Or.inr (Or.inr ⟨_, rfl⟩)) rfl (ix_cal_s rfl (Or.inl rfl) ⟨Nat.le_of_ble_eq_true rfl, Nat.le_of_ble_eq_true rfl⟩ (ix_R.run (N := 6) rfl (Nat.le_of_ble_eq_true rfl) (ix_R.step 4 (iy_n_ok (iy_run_ok _ _ _) rfl) (ix_R.step 1 (ix_n_call (Or.inr (Or.inr ⟨_, rfl⟩)) rfl (ix_cal_s rfl (Or.inl rfl) ⟨Nat.le_of_ble_eq_true rfl, Nat.le_of_ble_eq_true rfl⟩ (ix_R.run (N := 10) rfl (Nat.le_of_ble_eq_true rfl) (ix_R.step 3 (iy_n_ok (iy_run_ok _ _ _) rfl) (ix_R.step 1 (ix_n_iff rfl rfl (clf_lt (x := (xs 1).toInt64) (y := 0) (by rw [Int32.toInt_toInt64]; have e9 : (0 : Int64).toInt = 0 := rfl; omega))) (ix_R.step 3 (iy_n_ok (iy_run_ok _ _ _) rfl) (ix_R.step 1 (ix_n_ift rfl rfl (clt_gt (x := (xs 1).toInt64) (y := 23) (by rw [Int32.toInt_toInt64]; have e9 : (23 : Int64).toInt = 23 := rfl; omega))) (ix_R.fin 2 (iy_n_ok (iy_run_ok _ _ _) rfl)))))) (Nat.le_of_ble_eq_true rfl)))) (ix_R.fin 1 (iy_n_ok (iy_run_ok _ _ _) rfl)))) (Nat.le_of_ble_eq_true rfl)))) (ix_R.fin 3 (iy_n_ok (iy_run_ok _ _ _) rfl)))) (Nat.le_of_ble_eq_true rfl)))) (ix_R.fin 11 (iy_n_ok (iy_run_ok _ _ _) rfl)))))), Nat.le_of_ble_eq_true rfl, Nat.le_of_ble_eq_true rfl⟩
set_option maxRecDepth 1000000 in
set_option maxHeartbeats 8000000 in
theorem xo_3_k0 (xs : Nat → Int32) : ∃ (N : Nat) (hp : ix_H), N ≤ 2 ^ 15 ∧ ix_R (xTT 6 (va_up xs 1 0)) (ix_run (xTT 6 (va_up xs 1 0)) 14 8) xm_law N (317, xLS, [], xhp0) (some (.int 1), hp) ∧ hp.1 ≤ 600000 ∧ hp.2.1 ≤ 7302250 :=
  ⟨25, _, Nat.le_of_ble_eq_true rfl, (ix_R.fin 25 (iy_n_ok (iy_run_ok _ _ _) rfl)), Nat.le_of_ble_eq_true rfl, Nat.le_of_ble_eq_true rfl⟩
set_option maxRecDepth 1000000 in
set_option maxHeartbeats 8000000 in
theorem xo_3_k1 (xs : Nat → Int32) : ∃ (N : Nat) (hp : ix_H), N ≤ 2 ^ 15 ∧ ix_R (xTT 6 (va_up xs 1 1)) (ix_run (xTT 6 (va_up xs 1 1)) 14 8) xm_law N (317, xLS, [], xhp0) (some (.int 1), hp) ∧ hp.1 ≤ 600000 ∧ hp.2.1 ≤ 7302250 :=
  ⟨25, _, Nat.le_of_ble_eq_true rfl, (ix_R.fin 25 (iy_n_ok (iy_run_ok _ _ _) rfl)), Nat.le_of_ble_eq_true rfl, Nat.le_of_ble_eq_true rfl⟩
set_option maxRecDepth 1000000 in
set_option maxHeartbeats 8000000 in
theorem xo_3_k2 (xs : Nat → Int32) : ∃ (N : Nat) (hp : ix_H), N ≤ 2 ^ 15 ∧ ix_R (xTT 6 (va_up xs 1 2)) (ix_run (xTT 6 (va_up xs 1 2)) 14 8) xm_law N (317, xLS, [], xhp0) (some (.int 1), hp) ∧ hp.1 ≤ 600000 ∧ hp.2.1 ≤ 7302250 :=
  ⟨25, _, Nat.le_of_ble_eq_true rfl, (ix_R.fin 25 (iy_n_ok (iy_run_ok _ _ _) rfl)), Nat.le_of_ble_eq_true rfl, Nat.le_of_ble_eq_true rfl⟩
set_option maxRecDepth 1000000 in
set_option maxHeartbeats 8000000 in
theorem xo_3_k3 (xs : Nat → Int32) : ∃ (N : Nat) (hp : ix_H), N ≤ 2 ^ 15 ∧ ix_R (xTT 6 (va_up xs 1 3)) (ix_run (xTT 6 (va_up xs 1 3)) 14 8) xm_law N (317, xLS, [], xhp0) (some (.int 1), hp) ∧ hp.1 ≤ 600000 ∧ hp.2.1 ≤ 7302250 :=
  ⟨25, _, Nat.le_of_ble_eq_true rfl, (ix_R.fin 25 (iy_n_ok (iy_run_ok _ _ _) rfl)), Nat.le_of_ble_eq_true rfl, Nat.le_of_ble_eq_true rfl⟩
set_option maxRecDepth 1000000 in
set_option maxHeartbeats 8000000 in
theorem xo_3_k4 (xs : Nat → Int32) : ∃ (N : Nat) (hp : ix_H), N ≤ 2 ^ 15 ∧ ix_R (xTT 6 (va_up xs 1 4)) (ix_run (xTT 6 (va_up xs 1 4)) 14 8) xm_law N (317, xLS, [], xhp0) (some (.int 1), hp) ∧ hp.1 ≤ 600000 ∧ hp.2.1 ≤ 7302250 :=
  ⟨25, _, Nat.le_of_ble_eq_true rfl, (ix_R.fin 25 (iy_n_ok (iy_run_ok _ _ _) rfl)), Nat.le_of_ble_eq_true rfl, Nat.le_of_ble_eq_true rfl⟩
set_option maxRecDepth 1000000 in
set_option maxHeartbeats 8000000 in
theorem xo_3_k5 (xs : Nat → Int32) : ∃ (N : Nat) (hp : ix_H), N ≤ 2 ^ 15 ∧ ix_R (xTT 6 (va_up xs 1 5)) (ix_run (xTT 6 (va_up xs 1 5)) 14 8) xm_law N (317, xLS, [], xhp0) (some (.int 1), hp) ∧ hp.1 ≤ 600000 ∧ hp.2.1 ≤ 7302250 :=
  ⟨25, _, Nat.le_of_ble_eq_true rfl, (ix_R.fin 25 (iy_n_ok (iy_run_ok _ _ _) rfl)), Nat.le_of_ble_eq_true rfl, Nat.le_of_ble_eq_true rfl⟩
set_option maxRecDepth 1000000 in
set_option maxHeartbeats 8000000 in
theorem xo_3_k6 (xs : Nat → Int32) : ∃ (N : Nat) (hp : ix_H), N ≤ 2 ^ 15 ∧ ix_R (xTT 6 (va_up xs 1 6)) (ix_run (xTT 6 (va_up xs 1 6)) 14 8) xm_law N (317, xLS, [], xhp0) (some (.int 1), hp) ∧ hp.1 ≤ 600000 ∧ hp.2.1 ≤ 7302250 :=
  ⟨25, _, Nat.le_of_ble_eq_true rfl, (ix_R.fin 25 (iy_n_ok (iy_run_ok _ _ _) rfl)), Nat.le_of_ble_eq_true rfl, Nat.le_of_ble_eq_true rfl⟩
set_option maxRecDepth 1000000 in
set_option maxHeartbeats 8000000 in
theorem xo_3_k7 (xs : Nat → Int32) : ∃ (N : Nat) (hp : ix_H), N ≤ 2 ^ 15 ∧ ix_R (xTT 6 (va_up xs 1 7)) (ix_run (xTT 6 (va_up xs 1 7)) 14 8) xm_law N (317, xLS, [], xhp0) (some (.int 1), hp) ∧ hp.1 ≤ 600000 ∧ hp.2.1 ≤ 7302250 :=
  ⟨25, _, Nat.le_of_ble_eq_true rfl, (ix_R.fin 25 (iy_n_ok (iy_run_ok _ _ _) rfl)), Nat.le_of_ble_eq_true rfl, Nat.le_of_ble_eq_true rfl⟩
set_option maxRecDepth 1000000 in
set_option maxHeartbeats 8000000 in
theorem xo_3_k8 (xs : Nat → Int32) : ∃ (N : Nat) (hp : ix_H), N ≤ 2 ^ 15 ∧ ix_R (xTT 6 (va_up xs 1 8)) (ix_run (xTT 6 (va_up xs 1 8)) 14 8) xm_law N (317, xLS, [], xhp0) (some (.int 1), hp) ∧ hp.1 ≤ 600000 ∧ hp.2.1 ≤ 7302250 :=
  ⟨25, _, Nat.le_of_ble_eq_true rfl, (ix_R.fin 25 (iy_n_ok (iy_run_ok _ _ _) rfl)), Nat.le_of_ble_eq_true rfl, Nat.le_of_ble_eq_true rfl⟩
set_option maxRecDepth 1000000 in
set_option maxHeartbeats 8000000 in
theorem xo_3_k9 (xs : Nat → Int32) : ∃ (N : Nat) (hp : ix_H), N ≤ 2 ^ 15 ∧ ix_R (xTT 6 (va_up xs 1 9)) (ix_run (xTT 6 (va_up xs 1 9)) 14 8) xm_law N (317, xLS, [], xhp0) (some (.int 1), hp) ∧ hp.1 ≤ 600000 ∧ hp.2.1 ≤ 7302250 :=
  ⟨25, _, Nat.le_of_ble_eq_true rfl, (ix_R.fin 25 (iy_n_ok (iy_run_ok _ _ _) rfl)), Nat.le_of_ble_eq_true rfl, Nat.le_of_ble_eq_true rfl⟩
set_option maxRecDepth 1000000 in
set_option maxHeartbeats 8000000 in
theorem xo_3_k10 (xs : Nat → Int32) : ∃ (N : Nat) (hp : ix_H), N ≤ 2 ^ 15 ∧ ix_R (xTT 6 (va_up xs 1 10)) (ix_run (xTT 6 (va_up xs 1 10)) 14 8) xm_law N (317, xLS, [], xhp0) (some (.int 1), hp) ∧ hp.1 ≤ 600000 ∧ hp.2.1 ≤ 7302250 :=
  ⟨25, _, Nat.le_of_ble_eq_true rfl, (ix_R.fin 25 (iy_n_ok (iy_run_ok _ _ _) rfl)), Nat.le_of_ble_eq_true rfl, Nat.le_of_ble_eq_true rfl⟩
set_option maxRecDepth 1000000 in
set_option maxHeartbeats 8000000 in
theorem xo_3_k11 (xs : Nat → Int32) : ∃ (N : Nat) (hp : ix_H), N ≤ 2 ^ 15 ∧ ix_R (xTT 6 (va_up xs 1 11)) (ix_run (xTT 6 (va_up xs 1 11)) 14 8) xm_law N (317, xLS, [], xhp0) (some (.int 1), hp) ∧ hp.1 ≤ 600000 ∧ hp.2.1 ≤ 7302250 :=
  ⟨25, _, Nat.le_of_ble_eq_true rfl, (ix_R.fin 25 (iy_n_ok (iy_run_ok _ _ _) rfl)), Nat.le_of_ble_eq_true rfl, Nat.le_of_ble_eq_true rfl⟩
set_option maxRecDepth 1000000 in
set_option maxHeartbeats 8000000 in
theorem xo_3_k12 (xs : Nat → Int32) : ∃ (N : Nat) (hp : ix_H), N ≤ 2 ^ 15 ∧ ix_R (xTT 6 (va_up xs 1 12)) (ix_run (xTT 6 (va_up xs 1 12)) 14 8) xm_law N (317, xLS, [], xhp0) (some (.int 1), hp) ∧ hp.1 ≤ 600000 ∧ hp.2.1 ≤ 7302250 :=
  ⟨25, _, Nat.le_of_ble_eq_true rfl, (ix_R.fin 25 (iy_n_ok (iy_run_ok _ _ _) rfl)), Nat.le_of_ble_eq_true rfl, Nat.le_of_ble_eq_true rfl⟩
set_option maxRecDepth 1000000 in
set_option maxHeartbeats 8000000 in
theorem xo_3_k13 (xs : Nat → Int32) : ∃ (N : Nat) (hp : ix_H), N ≤ 2 ^ 15 ∧ ix_R (xTT 6 (va_up xs 1 13)) (ix_run (xTT 6 (va_up xs 1 13)) 14 8) xm_law N (317, xLS, [], xhp0) (some (.int 1), hp) ∧ hp.1 ≤ 600000 ∧ hp.2.1 ≤ 7302250 :=
  ⟨25, _, Nat.le_of_ble_eq_true rfl, (ix_R.fin 25 (iy_n_ok (iy_run_ok _ _ _) rfl)), Nat.le_of_ble_eq_true rfl, Nat.le_of_ble_eq_true rfl⟩
set_option maxRecDepth 1000000 in
set_option maxHeartbeats 8000000 in
theorem xo_3_k14 (xs : Nat → Int32) : ∃ (N : Nat) (hp : ix_H), N ≤ 2 ^ 15 ∧ ix_R (xTT 6 (va_up xs 1 14)) (ix_run (xTT 6 (va_up xs 1 14)) 14 8) xm_law N (317, xLS, [], xhp0) (some (.int 1), hp) ∧ hp.1 ≤ 600000 ∧ hp.2.1 ≤ 7302250 :=
  ⟨25, _, Nat.le_of_ble_eq_true rfl, (ix_R.fin 25 (iy_n_ok (iy_run_ok _ _ _) rfl)), Nat.le_of_ble_eq_true rfl, Nat.le_of_ble_eq_true rfl⟩
set_option maxRecDepth 1000000 in
set_option maxHeartbeats 8000000 in
theorem xo_3_k15 (xs : Nat → Int32) : ∃ (N : Nat) (hp : ix_H), N ≤ 2 ^ 15 ∧ ix_R (xTT 6 (va_up xs 1 15)) (ix_run (xTT 6 (va_up xs 1 15)) 14 8) xm_law N (317, xLS, [], xhp0) (some (.int 1), hp) ∧ hp.1 ≤ 600000 ∧ hp.2.1 ≤ 7302250 :=
  ⟨25, _, Nat.le_of_ble_eq_true rfl, (ix_R.fin 25 (iy_n_ok (iy_run_ok _ _ _) rfl)), Nat.le_of_ble_eq_true rfl, Nat.le_of_ble_eq_true rfl⟩
set_option maxRecDepth 1000000 in
set_option maxHeartbeats 8000000 in
theorem xo_3_k16 (xs : Nat → Int32) : ∃ (N : Nat) (hp : ix_H), N ≤ 2 ^ 15 ∧ ix_R (xTT 6 (va_up xs 1 16)) (ix_run (xTT 6 (va_up xs 1 16)) 14 8) xm_law N (317, xLS, [], xhp0) (some (.int 1), hp) ∧ hp.1 ≤ 600000 ∧ hp.2.1 ≤ 7302250 :=
  ⟨25, _, Nat.le_of_ble_eq_true rfl, (ix_R.fin 25 (iy_n_ok (iy_run_ok _ _ _) rfl)), Nat.le_of_ble_eq_true rfl, Nat.le_of_ble_eq_true rfl⟩
set_option maxRecDepth 1000000 in
set_option maxHeartbeats 8000000 in
theorem xo_3_k17 (xs : Nat → Int32) : ∃ (N : Nat) (hp : ix_H), N ≤ 2 ^ 15 ∧ ix_R (xTT 6 (va_up xs 1 17)) (ix_run (xTT 6 (va_up xs 1 17)) 14 8) xm_law N (317, xLS, [], xhp0) (some (.int 1), hp) ∧ hp.1 ≤ 600000 ∧ hp.2.1 ≤ 7302250 :=
  ⟨25, _, Nat.le_of_ble_eq_true rfl, (ix_R.fin 25 (iy_n_ok (iy_run_ok _ _ _) rfl)), Nat.le_of_ble_eq_true rfl, Nat.le_of_ble_eq_true rfl⟩
set_option maxRecDepth 1000000 in
set_option maxHeartbeats 8000000 in
theorem xo_3_k18 (xs : Nat → Int32) : ∃ (N : Nat) (hp : ix_H), N ≤ 2 ^ 15 ∧ ix_R (xTT 6 (va_up xs 1 18)) (ix_run (xTT 6 (va_up xs 1 18)) 14 8) xm_law N (317, xLS, [], xhp0) (some (.int 1), hp) ∧ hp.1 ≤ 600000 ∧ hp.2.1 ≤ 7302250 :=
  ⟨25, _, Nat.le_of_ble_eq_true rfl, (ix_R.fin 25 (iy_n_ok (iy_run_ok _ _ _) rfl)), Nat.le_of_ble_eq_true rfl, Nat.le_of_ble_eq_true rfl⟩
set_option maxRecDepth 1000000 in
set_option maxHeartbeats 8000000 in
theorem xo_3_k19 (xs : Nat → Int32) : ∃ (N : Nat) (hp : ix_H), N ≤ 2 ^ 15 ∧ ix_R (xTT 6 (va_up xs 1 19)) (ix_run (xTT 6 (va_up xs 1 19)) 14 8) xm_law N (317, xLS, [], xhp0) (some (.int 1), hp) ∧ hp.1 ≤ 600000 ∧ hp.2.1 ≤ 7302250 :=
  ⟨25, _, Nat.le_of_ble_eq_true rfl, (ix_R.fin 25 (iy_n_ok (iy_run_ok _ _ _) rfl)), Nat.le_of_ble_eq_true rfl, Nat.le_of_ble_eq_true rfl⟩
set_option maxRecDepth 1000000 in
set_option maxHeartbeats 8000000 in
theorem xo_3_k20 (xs : Nat → Int32) : ∃ (N : Nat) (hp : ix_H), N ≤ 2 ^ 15 ∧ ix_R (xTT 6 (va_up xs 1 20)) (ix_run (xTT 6 (va_up xs 1 20)) 14 8) xm_law N (317, xLS, [], xhp0) (some (.int 1), hp) ∧ hp.1 ≤ 600000 ∧ hp.2.1 ≤ 7302250 :=
  ⟨25, _, Nat.le_of_ble_eq_true rfl, (ix_R.fin 25 (iy_n_ok (iy_run_ok _ _ _) rfl)), Nat.le_of_ble_eq_true rfl, Nat.le_of_ble_eq_true rfl⟩
set_option maxRecDepth 1000000 in
set_option maxHeartbeats 8000000 in
theorem xo_3_k21 (xs : Nat → Int32) : ∃ (N : Nat) (hp : ix_H), N ≤ 2 ^ 15 ∧ ix_R (xTT 6 (va_up xs 1 21)) (ix_run (xTT 6 (va_up xs 1 21)) 14 8) xm_law N (317, xLS, [], xhp0) (some (.int 1), hp) ∧ hp.1 ≤ 600000 ∧ hp.2.1 ≤ 7302250 :=
  ⟨25, _, Nat.le_of_ble_eq_true rfl, (ix_R.fin 25 (iy_n_ok (iy_run_ok _ _ _) rfl)), Nat.le_of_ble_eq_true rfl, Nat.le_of_ble_eq_true rfl⟩
set_option maxRecDepth 1000000 in
set_option maxHeartbeats 8000000 in
theorem xo_3_k22 (xs : Nat → Int32) : ∃ (N : Nat) (hp : ix_H), N ≤ 2 ^ 15 ∧ ix_R (xTT 6 (va_up xs 1 22)) (ix_run (xTT 6 (va_up xs 1 22)) 14 8) xm_law N (317, xLS, [], xhp0) (some (.int 1), hp) ∧ hp.1 ≤ 600000 ∧ hp.2.1 ≤ 7302250 :=
  ⟨25, _, Nat.le_of_ble_eq_true rfl, (ix_R.fin 25 (iy_n_ok (iy_run_ok _ _ _) rfl)), Nat.le_of_ble_eq_true rfl, Nat.le_of_ble_eq_true rfl⟩
set_option maxRecDepth 1000000 in
set_option maxHeartbeats 8000000 in
theorem xo_3_k23 (xs : Nat → Int32) : ∃ (N : Nat) (hp : ix_H), N ≤ 2 ^ 15 ∧ ix_R (xTT 6 (va_up xs 1 23)) (ix_run (xTT 6 (va_up xs 1 23)) 14 8) xm_law N (317, xLS, [], xhp0) (some (.int 1), hp) ∧ hp.1 ≤ 600000 ∧ hp.2.1 ≤ 7302250 :=
  ⟨25, _, Nat.le_of_ble_eq_true rfl, (ix_R.fin 25 (iy_n_ok (iy_run_ok _ _ _) rfl)), Nat.le_of_ble_eq_true rfl, Nat.le_of_ble_eq_true rfl⟩
set_option maxRecDepth 1000000 in
set_option maxHeartbeats 8000000 in
theorem xo_4_neg (xs : Nat → Int32) (h1 : -2147483648 ≤ (xs 1).toInt ∧ (xs 1).toInt ≤ -1) : ∃ (N : Nat) (hp : ix_H), N ≤ 2 ^ 15 ∧ ix_R (xTT 6 xs) (ix_run (xTT 6 xs) 14 8) xm_law N (340, xLS, [], xhp0) (some (.int 1), hp) ∧ hp.1 ≤ 600000 ∧ hp.2.1 ≤ 7302250 :=
  ⟨35, _, Nat.le_of_ble_eq_true rfl, (ix_R.step 11 (iy_n_ok (iy_run_ok _ _ _) rfl) (ix_R.step 1 (ix_n_call (Or.inl ⟨_, rfl⟩) rfl (ix_cal_v rfl (Or.inl rfl) rfl rfl rfl ⟨rfl, Nat.le_of_ble_eq_true rfl, Nat.le_of_ble_eq_true rfl⟩ (ix_R.run (N := 6) rfl (Nat.le_of_ble_eq_true rfl) (ix_R.step 2 (iy_n_ok (iy_run_ok _ _ _) rfl) (ix_R.step 1 (ix_n_call (Or.inl ⟨_, rfl⟩) rfl (ix_cal_v rfl (Or.inl rfl) rfl rfl rfl ⟨rfl, Nat.le_of_ble_eq_true rfl, Nat.le_of_ble_eq_true rfl⟩ (ix_R.run (N := 4) rfl (Nat.le_of_ble_eq_true rfl) (ix_R.step 1 (iy_n_ok (iy_run_ok _ _ _) rfl) (ix_R.step 1 (ix_n_ift rfl rfl (cbt_lt (x := xs 1) (y := 0) (by have e9 : (0 : Int32).toInt = 0 := rfl; omega))) (ix_R.fin 2 (iy_n_ok (iy_run_ok _ _ _) rfl)))) (Nat.le_of_ble_eq_true rfl)))) (ix_R.fin 3 (iy_n_ok (iy_run_ok _ _ _) rfl)))) (Nat.le_of_ble_eq_true rfl)))) (ix_R.step 11 (iy_n_ok (iy_run_ok _ _ _) rfl) (ix_R.step 1 (ix_n_call (Or.inl ⟨_, rfl⟩) rfl (ix_cal_v rfl (Or.inl rfl) rfl rfl rfl ⟨rfl, Nat.le_of_ble_eq_true rfl, Nat.le_of_ble_eq_true rfl⟩ (ix_R.run (N := 6) rfl (Nat.le_of_ble_eq_true rfl) (ix_R.step 2 (iy_n_ok (iy_run_ok _ _ _) rfl) (ix_R.step 1 (ix_n_call (Or.inl ⟨_, rfl⟩) rfl (ix_cal_v rfl (Or.inl rfl) rfl rfl rfl ⟨rfl, Nat.le_of_ble_eq_true rfl, Nat.le_of_ble_eq_true rfl⟩ (ix_R.run (N := 5) rfl (Nat.le_of_ble_eq_true rfl) (ix_R.step 1 (iy_n_ok (iy_run_ok _ _ _) rfl) (ix_R.step 1 (ix_n_call (Or.inr (Or.inr ⟨_, rfl⟩)) rfl (ix_cal_s rfl (Or.inl rfl) ⟨Nat.le_of_ble_eq_true rfl, Nat.le_of_ble_eq_true rfl⟩ (ix_R.run (N := 6) rfl (Nat.le_of_ble_eq_true rfl) (ix_R.step 4 (iy_n_ok (iy_run_ok _ _ _) rfl) (ix_R.step 1 (ix_n_call (Or.inr (Or.inr ⟨_, rfl⟩)) rfl (ix_cal_s rfl (Or.inl rfl) ⟨Nat.le_of_ble_eq_true rfl, Nat.le_of_ble_eq_true rfl⟩ (ix_R.run (N := 6) rfl (Nat.le_of_ble_eq_true rfl) (ix_R.step 3 (iy_n_ok (iy_run_ok _ _ _) rfl) (ix_R.step 1 (ix_n_ift rfl rfl (clt_lt (x := (xs 1).toInt64) (y := 0) (by rw [Int32.toInt_toInt64]; have e9 : (0 : Int64).toInt = 0 := rfl; omega))) (ix_R.fin 2 (iy_n_ok (iy_run_ok _ _ _) rfl)))) (Nat.le_of_ble_eq_true rfl)))) (ix_R.fin 1 (iy_n_ok (iy_run_ok _ _ _) rfl)))) (Nat.le_of_ble_eq_true rfl)))) (ix_R.fin 3 (iy_n_ok (iy_run_ok _ _ _) rfl)))) (Nat.le_of_ble_eq_true rfl)))) (ix_R.fin 3 (iy_n_ok (iy_run_ok _ _ _) rfl)))) (Nat.le_of_ble_eq_true rfl)))) (ix_R.fin 11 (iy_n_ok (iy_run_ok _ _ _) rfl)))))), Nat.le_of_ble_eq_true rfl, Nat.le_of_ble_eq_true rfl⟩
set_option maxRecDepth 1000000 in
set_option maxHeartbeats 8000000 in
theorem xo_4_big (xs : Nat → Int32) (h1 : 24 ≤ (xs 1).toInt ∧ (xs 1).toInt ≤ 2147483647) : ∃ (N : Nat) (hp : ix_H), N ≤ 2 ^ 15 ∧ ix_R (xTT 6 xs) (ix_run (xTT 6 xs) 14 8) xm_law N (340, xLS, [], xhp0) (some (.int 1), hp) ∧ hp.1 ≤ 600000 ∧ hp.2.1 ≤ 7302250 :=
  ⟨35, _, Nat.le_of_ble_eq_true rfl, (ix_R.step 11 (iy_n_ok (iy_run_ok _ _ _) rfl) (ix_R.step 1 (ix_n_call (Or.inl ⟨_, rfl⟩) rfl (ix_cal_v rfl (Or.inl rfl) rfl rfl rfl ⟨rfl, Nat.le_of_ble_eq_true rfl, Nat.le_of_ble_eq_true rfl⟩ (ix_R.run (N := 6) rfl (Nat.le_of_ble_eq_true rfl) (ix_R.step 2 (iy_n_ok (iy_run_ok _ _ _) rfl) (ix_R.step 1 (ix_n_call (Or.inl ⟨_, rfl⟩) rfl (ix_cal_v rfl (Or.inl rfl) rfl rfl rfl ⟨rfl, Nat.le_of_ble_eq_true rfl, Nat.le_of_ble_eq_true rfl⟩ (ix_R.run (N := 7) rfl (Nat.le_of_ble_eq_true rfl) (ix_R.step 1 (iy_n_ok (iy_run_ok _ _ _) rfl) (ix_R.step 1 (ix_n_iff rfl rfl (cbf_lt (x := xs 1) (y := 0) (by have e9 : (0 : Int32).toInt = 0 := rfl; omega))) (ix_R.step 2 (iy_n_ok (iy_run_ok _ _ _) rfl) (ix_R.step 1 (ix_n_icmpt rfl rfl (cbt_ge (x := xs 1) (y := 24) (by have e9 : (24 : Int32).toInt = 24 := rfl; omega))) (ix_R.fin 2 (iy_n_ok (iy_run_ok _ _ _) rfl)))))) (Nat.le_of_ble_eq_true rfl)))) (ix_R.fin 3 (iy_n_ok (iy_run_ok _ _ _) rfl)))) (Nat.le_of_ble_eq_true rfl)))) (ix_R.step 11 (iy_n_ok (iy_run_ok _ _ _) rfl) (ix_R.step 1 (ix_n_call (Or.inl ⟨_, rfl⟩) rfl (ix_cal_v rfl (Or.inl rfl) rfl rfl rfl ⟨rfl, Nat.le_of_ble_eq_true rfl, Nat.le_of_ble_eq_true rfl⟩ (ix_R.run (N := 6) rfl (Nat.le_of_ble_eq_true rfl) (ix_R.step 2 (iy_n_ok (iy_run_ok _ _ _) rfl) (ix_R.step 1 (ix_n_call (Or.inl ⟨_, rfl⟩) rfl (ix_cal_v rfl (Or.inl rfl) rfl rfl rfl ⟨rfl, Nat.le_of_ble_eq_true rfl, Nat.le_of_ble_eq_true rfl⟩ (ix_R.run (N := 5) rfl (Nat.le_of_ble_eq_true rfl) (ix_R.step 1 (iy_n_ok (iy_run_ok _ _ _) rfl) (ix_R.step 1 (ix_n_call (Or.inr (Or.inr ⟨_, rfl⟩)) rfl (ix_cal_s rfl (Or.inl rfl) ⟨Nat.le_of_ble_eq_true rfl, Nat.le_of_ble_eq_true rfl⟩ (ix_R.run (N := 6) rfl (Nat.le_of_ble_eq_true rfl) (ix_R.step 4 (iy_n_ok (iy_run_ok _ _ _) rfl) (ix_R.step 1 (ix_n_call (Or.inr (Or.inr ⟨_, rfl⟩)) rfl (ix_cal_s rfl (Or.inl rfl) ⟨Nat.le_of_ble_eq_true rfl, Nat.le_of_ble_eq_true rfl⟩ (ix_R.run (N := 10) rfl (Nat.le_of_ble_eq_true rfl) (ix_R.step 3 (iy_n_ok (iy_run_ok _ _ _) rfl) (ix_R.step 1 (ix_n_iff rfl rfl (clf_lt (x := (xs 1).toInt64) (y := 0) (by rw [Int32.toInt_toInt64]; have e9 : (0 : Int64).toInt = 0 := rfl; omega))) (ix_R.step 3 (iy_n_ok (iy_run_ok _ _ _) rfl) (ix_R.step 1 (ix_n_ift rfl rfl (clt_gt (x := (xs 1).toInt64) (y := 23) (by rw [Int32.toInt_toInt64]; have e9 : (23 : Int64).toInt = 23 := rfl; omega))) (ix_R.fin 2 (iy_n_ok (iy_run_ok _ _ _) rfl)))))) (Nat.le_of_ble_eq_true rfl)))) (ix_R.fin 1 (iy_n_ok (iy_run_ok _ _ _) rfl)))) (Nat.le_of_ble_eq_true rfl)))) (ix_R.fin 3 (iy_n_ok (iy_run_ok _ _ _) rfl)))) (Nat.le_of_ble_eq_true rfl)))) (ix_R.fin 3 (iy_n_ok (iy_run_ok _ _ _) rfl)))) (Nat.le_of_ble_eq_true rfl)))) (ix_R.fin 11 (iy_n_ok (iy_run_ok _ _ _) rfl)))))), Nat.le_of_ble_eq_true rfl, Nat.le_of_ble_eq_true rfl⟩
set_option maxRecDepth 1000000 in
set_option maxHeartbeats 8000000 in
theorem xo_4_k0 (xs : Nat → Int32) : ∃ (N : Nat) (hp : ix_H), N ≤ 2 ^ 15 ∧ ix_R (xTT 6 (va_up xs 1 0)) (ix_run (xTT 6 (va_up xs 1 0)) 14 8) xm_law N (340, xLS, [], xhp0) (some (.int 1), hp) ∧ hp.1 ≤ 600000 ∧ hp.2.1 ≤ 7302250 :=
  ⟨35, _, Nat.le_of_ble_eq_true rfl, (ix_R.fin 35 (iy_n_ok (iy_run_ok _ _ _) rfl)), Nat.le_of_ble_eq_true rfl, Nat.le_of_ble_eq_true rfl⟩
set_option maxRecDepth 1000000 in
set_option maxHeartbeats 8000000 in
theorem xo_4_k1 (xs : Nat → Int32) : ∃ (N : Nat) (hp : ix_H), N ≤ 2 ^ 15 ∧ ix_R (xTT 6 (va_up xs 1 1)) (ix_run (xTT 6 (va_up xs 1 1)) 14 8) xm_law N (340, xLS, [], xhp0) (some (.int 1), hp) ∧ hp.1 ≤ 600000 ∧ hp.2.1 ≤ 7302250 :=
  ⟨35, _, Nat.le_of_ble_eq_true rfl, (ix_R.fin 35 (iy_n_ok (iy_run_ok _ _ _) rfl)), Nat.le_of_ble_eq_true rfl, Nat.le_of_ble_eq_true rfl⟩
set_option maxRecDepth 1000000 in
set_option maxHeartbeats 8000000 in
theorem xo_4_k2 (xs : Nat → Int32) : ∃ (N : Nat) (hp : ix_H), N ≤ 2 ^ 15 ∧ ix_R (xTT 6 (va_up xs 1 2)) (ix_run (xTT 6 (va_up xs 1 2)) 14 8) xm_law N (340, xLS, [], xhp0) (some (.int 1), hp) ∧ hp.1 ≤ 600000 ∧ hp.2.1 ≤ 7302250 :=
  ⟨35, _, Nat.le_of_ble_eq_true rfl, (ix_R.fin 35 (iy_n_ok (iy_run_ok _ _ _) rfl)), Nat.le_of_ble_eq_true rfl, Nat.le_of_ble_eq_true rfl⟩
set_option maxRecDepth 1000000 in
set_option maxHeartbeats 8000000 in
theorem xo_4_k3 (xs : Nat → Int32) : ∃ (N : Nat) (hp : ix_H), N ≤ 2 ^ 15 ∧ ix_R (xTT 6 (va_up xs 1 3)) (ix_run (xTT 6 (va_up xs 1 3)) 14 8) xm_law N (340, xLS, [], xhp0) (some (.int 1), hp) ∧ hp.1 ≤ 600000 ∧ hp.2.1 ≤ 7302250 :=
  ⟨35, _, Nat.le_of_ble_eq_true rfl, (ix_R.fin 35 (iy_n_ok (iy_run_ok _ _ _) rfl)), Nat.le_of_ble_eq_true rfl, Nat.le_of_ble_eq_true rfl⟩
set_option maxRecDepth 1000000 in
set_option maxHeartbeats 8000000 in
theorem xo_4_k4 (xs : Nat → Int32) : ∃ (N : Nat) (hp : ix_H), N ≤ 2 ^ 15 ∧ ix_R (xTT 6 (va_up xs 1 4)) (ix_run (xTT 6 (va_up xs 1 4)) 14 8) xm_law N (340, xLS, [], xhp0) (some (.int 1), hp) ∧ hp.1 ≤ 600000 ∧ hp.2.1 ≤ 7302250 :=
  ⟨35, _, Nat.le_of_ble_eq_true rfl, (ix_R.fin 35 (iy_n_ok (iy_run_ok _ _ _) rfl)), Nat.le_of_ble_eq_true rfl, Nat.le_of_ble_eq_true rfl⟩
set_option maxRecDepth 1000000 in
set_option maxHeartbeats 8000000 in
theorem xo_4_k5 (xs : Nat → Int32) : ∃ (N : Nat) (hp : ix_H), N ≤ 2 ^ 15 ∧ ix_R (xTT 6 (va_up xs 1 5)) (ix_run (xTT 6 (va_up xs 1 5)) 14 8) xm_law N (340, xLS, [], xhp0) (some (.int 1), hp) ∧ hp.1 ≤ 600000 ∧ hp.2.1 ≤ 7302250 :=
  ⟨35, _, Nat.le_of_ble_eq_true rfl, (ix_R.fin 35 (iy_n_ok (iy_run_ok _ _ _) rfl)), Nat.le_of_ble_eq_true rfl, Nat.le_of_ble_eq_true rfl⟩
set_option maxRecDepth 1000000 in
set_option maxHeartbeats 8000000 in
theorem xo_4_k6 (xs : Nat → Int32) : ∃ (N : Nat) (hp : ix_H), N ≤ 2 ^ 15 ∧ ix_R (xTT 6 (va_up xs 1 6)) (ix_run (xTT 6 (va_up xs 1 6)) 14 8) xm_law N (340, xLS, [], xhp0) (some (.int 1), hp) ∧ hp.1 ≤ 600000 ∧ hp.2.1 ≤ 7302250 :=
  ⟨35, _, Nat.le_of_ble_eq_true rfl, (ix_R.fin 35 (iy_n_ok (iy_run_ok _ _ _) rfl)), Nat.le_of_ble_eq_true rfl, Nat.le_of_ble_eq_true rfl⟩
set_option maxRecDepth 1000000 in
set_option maxHeartbeats 8000000 in
theorem xo_4_k7 (xs : Nat → Int32) : ∃ (N : Nat) (hp : ix_H), N ≤ 2 ^ 15 ∧ ix_R (xTT 6 (va_up xs 1 7)) (ix_run (xTT 6 (va_up xs 1 7)) 14 8) xm_law N (340, xLS, [], xhp0) (some (.int 1), hp) ∧ hp.1 ≤ 600000 ∧ hp.2.1 ≤ 7302250 :=
  ⟨35, _, Nat.le_of_ble_eq_true rfl, (ix_R.fin 35 (iy_n_ok (iy_run_ok _ _ _) rfl)), Nat.le_of_ble_eq_true rfl, Nat.le_of_ble_eq_true rfl⟩
set_option maxRecDepth 1000000 in
set_option maxHeartbeats 8000000 in
theorem xo_4_k8 (xs : Nat → Int32) : ∃ (N : Nat) (hp : ix_H), N ≤ 2 ^ 15 ∧ ix_R (xTT 6 (va_up xs 1 8)) (ix_run (xTT 6 (va_up xs 1 8)) 14 8) xm_law N (340, xLS, [], xhp0) (some (.int 1), hp) ∧ hp.1 ≤ 600000 ∧ hp.2.1 ≤ 7302250 :=
  ⟨35, _, Nat.le_of_ble_eq_true rfl, (ix_R.fin 35 (iy_n_ok (iy_run_ok _ _ _) rfl)), Nat.le_of_ble_eq_true rfl, Nat.le_of_ble_eq_true rfl⟩
set_option maxRecDepth 1000000 in
set_option maxHeartbeats 8000000 in
theorem xo_4_k9 (xs : Nat → Int32) : ∃ (N : Nat) (hp : ix_H), N ≤ 2 ^ 15 ∧ ix_R (xTT 6 (va_up xs 1 9)) (ix_run (xTT 6 (va_up xs 1 9)) 14 8) xm_law N (340, xLS, [], xhp0) (some (.int 1), hp) ∧ hp.1 ≤ 600000 ∧ hp.2.1 ≤ 7302250 :=
  ⟨35, _, Nat.le_of_ble_eq_true rfl, (ix_R.fin 35 (iy_n_ok (iy_run_ok _ _ _) rfl)), Nat.le_of_ble_eq_true rfl, Nat.le_of_ble_eq_true rfl⟩
set_option maxRecDepth 1000000 in
set_option maxHeartbeats 8000000 in
theorem xo_4_k10 (xs : Nat → Int32) : ∃ (N : Nat) (hp : ix_H), N ≤ 2 ^ 15 ∧ ix_R (xTT 6 (va_up xs 1 10)) (ix_run (xTT 6 (va_up xs 1 10)) 14 8) xm_law N (340, xLS, [], xhp0) (some (.int 1), hp) ∧ hp.1 ≤ 600000 ∧ hp.2.1 ≤ 7302250 :=
  ⟨35, _, Nat.le_of_ble_eq_true rfl, (ix_R.fin 35 (iy_n_ok (iy_run_ok _ _ _) rfl)), Nat.le_of_ble_eq_true rfl, Nat.le_of_ble_eq_true rfl⟩
set_option maxRecDepth 1000000 in
set_option maxHeartbeats 8000000 in
theorem xo_4_k11 (xs : Nat → Int32) : ∃ (N : Nat) (hp : ix_H), N ≤ 2 ^ 15 ∧ ix_R (xTT 6 (va_up xs 1 11)) (ix_run (xTT 6 (va_up xs 1 11)) 14 8) xm_law N (340, xLS, [], xhp0) (some (.int 1), hp) ∧ hp.1 ≤ 600000 ∧ hp.2.1 ≤ 7302250 :=
  ⟨35, _, Nat.le_of_ble_eq_true rfl, (ix_R.fin 35 (iy_n_ok (iy_run_ok _ _ _) rfl)), Nat.le_of_ble_eq_true rfl, Nat.le_of_ble_eq_true rfl⟩
set_option maxRecDepth 1000000 in
set_option maxHeartbeats 8000000 in
theorem xo_4_k12 (xs : Nat → Int32) : ∃ (N : Nat) (hp : ix_H), N ≤ 2 ^ 15 ∧ ix_R (xTT 6 (va_up xs 1 12)) (ix_run (xTT 6 (va_up xs 1 12)) 14 8) xm_law N (340, xLS, [], xhp0) (some (.int 1), hp) ∧ hp.1 ≤ 600000 ∧ hp.2.1 ≤ 7302250 :=
  ⟨35, _, Nat.le_of_ble_eq_true rfl, (ix_R.fin 35 (iy_n_ok (iy_run_ok _ _ _) rfl)), Nat.le_of_ble_eq_true rfl, Nat.le_of_ble_eq_true rfl⟩
set_option maxRecDepth 1000000 in
set_option maxHeartbeats 8000000 in
theorem xo_4_k13 (xs : Nat → Int32) : ∃ (N : Nat) (hp : ix_H), N ≤ 2 ^ 15 ∧ ix_R (xTT 6 (va_up xs 1 13)) (ix_run (xTT 6 (va_up xs 1 13)) 14 8) xm_law N (340, xLS, [], xhp0) (some (.int 1), hp) ∧ hp.1 ≤ 600000 ∧ hp.2.1 ≤ 7302250 :=
  ⟨35, _, Nat.le_of_ble_eq_true rfl, (ix_R.fin 35 (iy_n_ok (iy_run_ok _ _ _) rfl)), Nat.le_of_ble_eq_true rfl, Nat.le_of_ble_eq_true rfl⟩
set_option maxRecDepth 1000000 in
set_option maxHeartbeats 8000000 in
theorem xo_4_k14 (xs : Nat → Int32) : ∃ (N : Nat) (hp : ix_H), N ≤ 2 ^ 15 ∧ ix_R (xTT 6 (va_up xs 1 14)) (ix_run (xTT 6 (va_up xs 1 14)) 14 8) xm_law N (340, xLS, [], xhp0) (some (.int 1), hp) ∧ hp.1 ≤ 600000 ∧ hp.2.1 ≤ 7302250 :=
  ⟨35, _, Nat.le_of_ble_eq_true rfl, (ix_R.fin 35 (iy_n_ok (iy_run_ok _ _ _) rfl)), Nat.le_of_ble_eq_true rfl, Nat.le_of_ble_eq_true rfl⟩
set_option maxRecDepth 1000000 in
set_option maxHeartbeats 8000000 in
theorem xo_4_k15 (xs : Nat → Int32) : ∃ (N : Nat) (hp : ix_H), N ≤ 2 ^ 15 ∧ ix_R (xTT 6 (va_up xs 1 15)) (ix_run (xTT 6 (va_up xs 1 15)) 14 8) xm_law N (340, xLS, [], xhp0) (some (.int 1), hp) ∧ hp.1 ≤ 600000 ∧ hp.2.1 ≤ 7302250 :=
  ⟨35, _, Nat.le_of_ble_eq_true rfl, (ix_R.fin 35 (iy_n_ok (iy_run_ok _ _ _) rfl)), Nat.le_of_ble_eq_true rfl, Nat.le_of_ble_eq_true rfl⟩
set_option maxRecDepth 1000000 in
set_option maxHeartbeats 8000000 in
theorem xo_4_k16 (xs : Nat → Int32) : ∃ (N : Nat) (hp : ix_H), N ≤ 2 ^ 15 ∧ ix_R (xTT 6 (va_up xs 1 16)) (ix_run (xTT 6 (va_up xs 1 16)) 14 8) xm_law N (340, xLS, [], xhp0) (some (.int 1), hp) ∧ hp.1 ≤ 600000 ∧ hp.2.1 ≤ 7302250 :=
  ⟨35, _, Nat.le_of_ble_eq_true rfl, (ix_R.fin 35 (iy_n_ok (iy_run_ok _ _ _) rfl)), Nat.le_of_ble_eq_true rfl, Nat.le_of_ble_eq_true rfl⟩
set_option maxRecDepth 1000000 in
set_option maxHeartbeats 8000000 in
theorem xo_4_k17 (xs : Nat → Int32) : ∃ (N : Nat) (hp : ix_H), N ≤ 2 ^ 15 ∧ ix_R (xTT 6 (va_up xs 1 17)) (ix_run (xTT 6 (va_up xs 1 17)) 14 8) xm_law N (340, xLS, [], xhp0) (some (.int 1), hp) ∧ hp.1 ≤ 600000 ∧ hp.2.1 ≤ 7302250 :=
  ⟨35, _, Nat.le_of_ble_eq_true rfl, (ix_R.fin 35 (iy_n_ok (iy_run_ok _ _ _) rfl)), Nat.le_of_ble_eq_true rfl, Nat.le_of_ble_eq_true rfl⟩
set_option maxRecDepth 1000000 in
set_option maxHeartbeats 8000000 in
theorem xo_4_k18 (xs : Nat → Int32) : ∃ (N : Nat) (hp : ix_H), N ≤ 2 ^ 15 ∧ ix_R (xTT 6 (va_up xs 1 18)) (ix_run (xTT 6 (va_up xs 1 18)) 14 8) xm_law N (340, xLS, [], xhp0) (some (.int 1), hp) ∧ hp.1 ≤ 600000 ∧ hp.2.1 ≤ 7302250 :=
  ⟨35, _, Nat.le_of_ble_eq_true rfl, (ix_R.fin 35 (iy_n_ok (iy_run_ok _ _ _) rfl)), Nat.le_of_ble_eq_true rfl, Nat.le_of_ble_eq_true rfl⟩
set_option maxRecDepth 1000000 in
set_option maxHeartbeats 8000000 in
theorem xo_4_k19 (xs : Nat → Int32) : ∃ (N : Nat) (hp : ix_H), N ≤ 2 ^ 15 ∧ ix_R (xTT 6 (va_up xs 1 19)) (ix_run (xTT 6 (va_up xs 1 19)) 14 8) xm_law N (340, xLS, [], xhp0) (some (.int 1), hp) ∧ hp.1 ≤ 600000 ∧ hp.2.1 ≤ 7302250 :=
  ⟨35, _, Nat.le_of_ble_eq_true rfl, (ix_R.fin 35 (iy_n_ok (iy_run_ok _ _ _) rfl)), Nat.le_of_ble_eq_true rfl, Nat.le_of_ble_eq_true rfl⟩
set_option maxRecDepth 1000000 in
set_option maxHeartbeats 8000000 in
theorem xo_4_k20 (xs : Nat → Int32) : ∃ (N : Nat) (hp : ix_H), N ≤ 2 ^ 15 ∧ ix_R (xTT 6 (va_up xs 1 20)) (ix_run (xTT 6 (va_up xs 1 20)) 14 8) xm_law N (340, xLS, [], xhp0) (some (.int 1), hp) ∧ hp.1 ≤ 600000 ∧ hp.2.1 ≤ 7302250 :=
  ⟨35, _, Nat.le_of_ble_eq_true rfl, (ix_R.fin 35 (iy_n_ok (iy_run_ok _ _ _) rfl)), Nat.le_of_ble_eq_true rfl, Nat.le_of_ble_eq_true rfl⟩
set_option maxRecDepth 1000000 in
set_option maxHeartbeats 8000000 in
theorem xo_4_k21 (xs : Nat → Int32) : ∃ (N : Nat) (hp : ix_H), N ≤ 2 ^ 15 ∧ ix_R (xTT 6 (va_up xs 1 21)) (ix_run (xTT 6 (va_up xs 1 21)) 14 8) xm_law N (340, xLS, [], xhp0) (some (.int 1), hp) ∧ hp.1 ≤ 600000 ∧ hp.2.1 ≤ 7302250 :=
  ⟨35, _, Nat.le_of_ble_eq_true rfl, (ix_R.fin 35 (iy_n_ok (iy_run_ok _ _ _) rfl)), Nat.le_of_ble_eq_true rfl, Nat.le_of_ble_eq_true rfl⟩
set_option maxRecDepth 1000000 in
set_option maxHeartbeats 8000000 in
theorem xo_4_k22 (xs : Nat → Int32) : ∃ (N : Nat) (hp : ix_H), N ≤ 2 ^ 15 ∧ ix_R (xTT 6 (va_up xs 1 22)) (ix_run (xTT 6 (va_up xs 1 22)) 14 8) xm_law N (340, xLS, [], xhp0) (some (.int 1), hp) ∧ hp.1 ≤ 600000 ∧ hp.2.1 ≤ 7302250 :=
  ⟨35, _, Nat.le_of_ble_eq_true rfl, (ix_R.fin 35 (iy_n_ok (iy_run_ok _ _ _) rfl)), Nat.le_of_ble_eq_true rfl, Nat.le_of_ble_eq_true rfl⟩
set_option maxRecDepth 1000000 in
set_option maxHeartbeats 8000000 in
theorem xo_4_k23 (xs : Nat → Int32) : ∃ (N : Nat) (hp : ix_H), N ≤ 2 ^ 15 ∧ ix_R (xTT 6 (va_up xs 1 23)) (ix_run (xTT 6 (va_up xs 1 23)) 14 8) xm_law N (340, xLS, [], xhp0) (some (.int 1), hp) ∧ hp.1 ≤ 600000 ∧ hp.2.1 ≤ 7302250 :=
  ⟨35, _, Nat.le_of_ble_eq_true rfl, (ix_R.fin 35 (iy_n_ok (iy_run_ok _ _ _) rfl)), Nat.le_of_ble_eq_true rfl, Nat.le_of_ble_eq_true rfl⟩
set_option maxRecDepth 1000000 in
set_option maxHeartbeats 8000000 in
theorem xo_5_neg (xs : Nat → Int32) (h1 : -2147483648 ≤ (xs 1).toInt ∧ (xs 1).toInt ≤ -1) : ∃ (N : Nat) (hp : ix_H), N ≤ 2 ^ 15 ∧ ix_R (xTT 6 xs) (ix_run (xTT 6 xs) 14 8) xm_law N (373, xLS, [], xhp0) (some (.int 1), hp) ∧ hp.1 ≤ 600000 ∧ hp.2.1 ≤ 7302250 :=
  ⟨25, _, Nat.le_of_ble_eq_true rfl, (ix_R.step 6 (iy_n_ok (iy_run_ok _ _ _) rfl) (ix_R.step 1 (ix_n_call (Or.inl ⟨_, rfl⟩) rfl (ix_cal_v rfl (Or.inl rfl) rfl rfl rfl ⟨rfl, Nat.le_of_ble_eq_true rfl, Nat.le_of_ble_eq_true rfl⟩ (ix_R.run (N := 4) rfl (Nat.le_of_ble_eq_true rfl) (ix_R.step 1 (iy_n_ok (iy_run_ok _ _ _) rfl) (ix_R.step 1 (ix_n_ift rfl rfl (cbt_lt (x := xs 1) (y := 0) (by have e9 : (0 : Int32).toInt = 0 := rfl; omega))) (ix_R.fin 2 (iy_n_ok (iy_run_ok _ _ _) rfl)))) (Nat.le_of_ble_eq_true rfl)))) (ix_R.step 6 (iy_n_ok (iy_run_ok _ _ _) rfl) (ix_R.step 1 (ix_n_call (Or.inl ⟨_, rfl⟩) rfl (ix_cal_v rfl (Or.inl rfl) rfl rfl rfl ⟨rfl, Nat.le_of_ble_eq_true rfl, Nat.le_of_ble_eq_true rfl⟩ (ix_R.run (N := 5) rfl (Nat.le_of_ble_eq_true rfl) (ix_R.step 1 (iy_n_ok (iy_run_ok _ _ _) rfl) (ix_R.step 1 (ix_n_call (Or.inr (Or.inr ⟨_, rfl⟩)) rfl (ix_cal_s rfl (Or.inl rfl) ⟨Nat.le_of_ble_eq_true rfl, Nat.le_of_ble_eq_true rfl⟩ (ix_R.run (N := 6) rfl (Nat.le_of_ble_eq_true rfl) (ix_R.step 4 (iy_n_ok (iy_run_ok _ _ _) rfl) (ix_R.step 1 (ix_n_call (Or.inr (Or.inr ⟨_, rfl⟩)) rfl (ix_cal_s rfl (Or.inl rfl) ⟨Nat.le_of_ble_eq_true rfl, Nat.le_of_ble_eq_true rfl⟩ (ix_R.run (N := 6) rfl (Nat.le_of_ble_eq_true rfl) (ix_R.step 3 (iy_n_ok (iy_run_ok _ _ _) rfl) (ix_R.step 1 (ix_n_ift rfl rfl (clt_lt (x := (xs 1).toInt64) (y := 0) (by rw [Int32.toInt_toInt64]; have e9 : (0 : Int64).toInt = 0 := rfl; omega))) (ix_R.fin 2 (iy_n_ok (iy_run_ok _ _ _) rfl)))) (Nat.le_of_ble_eq_true rfl)))) (ix_R.fin 1 (iy_n_ok (iy_run_ok _ _ _) rfl)))) (Nat.le_of_ble_eq_true rfl)))) (ix_R.fin 3 (iy_n_ok (iy_run_ok _ _ _) rfl)))) (Nat.le_of_ble_eq_true rfl)))) (ix_R.fin 11 (iy_n_ok (iy_run_ok _ _ _) rfl)))))), Nat.le_of_ble_eq_true rfl, Nat.le_of_ble_eq_true rfl⟩
set_option maxRecDepth 1000000 in
set_option maxHeartbeats 8000000 in
theorem xo_5_big (xs : Nat → Int32) (h1 : 24 ≤ (xs 1).toInt ∧ (xs 1).toInt ≤ 2147483647) : ∃ (N : Nat) (hp : ix_H), N ≤ 2 ^ 15 ∧ ix_R (xTT 6 xs) (ix_run (xTT 6 xs) 14 8) xm_law N (373, xLS, [], xhp0) (some (.int 1), hp) ∧ hp.1 ≤ 600000 ∧ hp.2.1 ≤ 7302250 :=
  ⟨25, _, Nat.le_of_ble_eq_true rfl, (ix_R.step 6 (iy_n_ok (iy_run_ok _ _ _) rfl) (ix_R.step 1 (ix_n_call (Or.inl ⟨_, rfl⟩) rfl (ix_cal_v rfl (Or.inl rfl) rfl rfl rfl ⟨rfl, Nat.le_of_ble_eq_true rfl, Nat.le_of_ble_eq_true rfl⟩ (ix_R.run (N := 7) rfl (Nat.le_of_ble_eq_true rfl) (ix_R.step 1 (iy_n_ok (iy_run_ok _ _ _) rfl) (ix_R.step 1 (ix_n_iff rfl rfl (cbf_lt (x := xs 1) (y := 0) (by have e9 : (0 : Int32).toInt = 0 := rfl; omega))) (ix_R.step 2 (iy_n_ok (iy_run_ok _ _ _) rfl) (ix_R.step 1 (ix_n_icmpf rfl rfl (cbf_lt (x := xs 1) (y := 24) (by have e9 : (24 : Int32).toInt = 24 := rfl; omega))) (ix_R.fin 2 (iy_n_ok (iy_run_ok _ _ _) rfl)))))) (Nat.le_of_ble_eq_true rfl)))) (ix_R.step 6 (iy_n_ok (iy_run_ok _ _ _) rfl) (ix_R.step 1 (ix_n_call (Or.inl ⟨_, rfl⟩) rfl (ix_cal_v rfl (Or.inl rfl) rfl rfl rfl ⟨rfl, Nat.le_of_ble_eq_true rfl, Nat.le_of_ble_eq_true rfl⟩ (ix_R.run (N := 5) rfl (Nat.le_of_ble_eq_true rfl) (ix_R.step 1 (iy_n_ok (iy_run_ok _ _ _) rfl) (ix_R.step 1 (ix_n_call (Or.inr (Or.inr ⟨_, rfl⟩)) rfl (ix_cal_s rfl (Or.inl rfl) ⟨Nat.le_of_ble_eq_true rfl, Nat.le_of_ble_eq_true rfl⟩ (ix_R.run (N := 6) rfl (Nat.le_of_ble_eq_true rfl) (ix_R.step 4 (iy_n_ok (iy_run_ok _ _ _) rfl) (ix_R.step 1 (ix_n_call (Or.inr (Or.inr ⟨_, rfl⟩)) rfl (ix_cal_s rfl (Or.inl rfl) ⟨Nat.le_of_ble_eq_true rfl, Nat.le_of_ble_eq_true rfl⟩ (ix_R.run (N := 10) rfl (Nat.le_of_ble_eq_true rfl) (ix_R.step 3 (iy_n_ok (iy_run_ok _ _ _) rfl) (ix_R.step 1 (ix_n_iff rfl rfl (clf_lt (x := (xs 1).toInt64) (y := 0) (by rw [Int32.toInt_toInt64]; have e9 : (0 : Int64).toInt = 0 := rfl; omega))) (ix_R.step 3 (iy_n_ok (iy_run_ok _ _ _) rfl) (ix_R.step 1 (ix_n_ift rfl rfl (clt_gt (x := (xs 1).toInt64) (y := 23) (by rw [Int32.toInt_toInt64]; have e9 : (23 : Int64).toInt = 23 := rfl; omega))) (ix_R.fin 2 (iy_n_ok (iy_run_ok _ _ _) rfl)))))) (Nat.le_of_ble_eq_true rfl)))) (ix_R.fin 1 (iy_n_ok (iy_run_ok _ _ _) rfl)))) (Nat.le_of_ble_eq_true rfl)))) (ix_R.fin 3 (iy_n_ok (iy_run_ok _ _ _) rfl)))) (Nat.le_of_ble_eq_true rfl)))) (ix_R.fin 11 (iy_n_ok (iy_run_ok _ _ _) rfl)))))), Nat.le_of_ble_eq_true rfl, Nat.le_of_ble_eq_true rfl⟩
set_option maxRecDepth 1000000 in
set_option maxHeartbeats 8000000 in
theorem xo_5_k0 (xs : Nat → Int32) : ∃ (N : Nat) (hp : ix_H), N ≤ 2 ^ 15 ∧ ix_R (xTT 6 (va_up xs 1 0)) (ix_run (xTT 6 (va_up xs 1 0)) 14 8) xm_law N (373, xLS, [], xhp0) (some (.int 1), hp) ∧ hp.1 ≤ 600000 ∧ hp.2.1 ≤ 7302250 :=
  ⟨25, _, Nat.le_of_ble_eq_true rfl, (ix_R.fin 25 (iy_n_ok (iy_run_ok _ _ _) rfl)), Nat.le_of_ble_eq_true rfl, Nat.le_of_ble_eq_true rfl⟩
set_option maxRecDepth 1000000 in
set_option maxHeartbeats 8000000 in
theorem xo_5_k1 (xs : Nat → Int32) : ∃ (N : Nat) (hp : ix_H), N ≤ 2 ^ 15 ∧ ix_R (xTT 6 (va_up xs 1 1)) (ix_run (xTT 6 (va_up xs 1 1)) 14 8) xm_law N (373, xLS, [], xhp0) (some (.int 1), hp) ∧ hp.1 ≤ 600000 ∧ hp.2.1 ≤ 7302250 :=
  ⟨25, _, Nat.le_of_ble_eq_true rfl, (ix_R.fin 25 (iy_n_ok (iy_run_ok _ _ _) rfl)), Nat.le_of_ble_eq_true rfl, Nat.le_of_ble_eq_true rfl⟩
set_option maxRecDepth 1000000 in
set_option maxHeartbeats 8000000 in
theorem xo_5_k2 (xs : Nat → Int32) : ∃ (N : Nat) (hp : ix_H), N ≤ 2 ^ 15 ∧ ix_R (xTT 6 (va_up xs 1 2)) (ix_run (xTT 6 (va_up xs 1 2)) 14 8) xm_law N (373, xLS, [], xhp0) (some (.int 1), hp) ∧ hp.1 ≤ 600000 ∧ hp.2.1 ≤ 7302250 :=
  ⟨25, _, Nat.le_of_ble_eq_true rfl, (ix_R.fin 25 (iy_n_ok (iy_run_ok _ _ _) rfl)), Nat.le_of_ble_eq_true rfl, Nat.le_of_ble_eq_true rfl⟩
set_option maxRecDepth 1000000 in
set_option maxHeartbeats 8000000 in
theorem xo_5_k3 (xs : Nat → Int32) : ∃ (N : Nat) (hp : ix_H), N ≤ 2 ^ 15 ∧ ix_R (xTT 6 (va_up xs 1 3)) (ix_run (xTT 6 (va_up xs 1 3)) 14 8) xm_law N (373, xLS, [], xhp0) (some (.int 1), hp) ∧ hp.1 ≤ 600000 ∧ hp.2.1 ≤ 7302250 :=
  ⟨25, _, Nat.le_of_ble_eq_true rfl, (ix_R.fin 25 (iy_n_ok (iy_run_ok _ _ _) rfl)), Nat.le_of_ble_eq_true rfl, Nat.le_of_ble_eq_true rfl⟩
set_option maxRecDepth 1000000 in
set_option maxHeartbeats 8000000 in
theorem xo_5_k4 (xs : Nat → Int32) : ∃ (N : Nat) (hp : ix_H), N ≤ 2 ^ 15 ∧ ix_R (xTT 6 (va_up xs 1 4)) (ix_run (xTT 6 (va_up xs 1 4)) 14 8) xm_law N (373, xLS, [], xhp0) (some (.int 1), hp) ∧ hp.1 ≤ 600000 ∧ hp.2.1 ≤ 7302250 :=
  ⟨25, _, Nat.le_of_ble_eq_true rfl, (ix_R.fin 25 (iy_n_ok (iy_run_ok _ _ _) rfl)), Nat.le_of_ble_eq_true rfl, Nat.le_of_ble_eq_true rfl⟩
set_option maxRecDepth 1000000 in
set_option maxHeartbeats 8000000 in
theorem xo_5_k5 (xs : Nat → Int32) : ∃ (N : Nat) (hp : ix_H), N ≤ 2 ^ 15 ∧ ix_R (xTT 6 (va_up xs 1 5)) (ix_run (xTT 6 (va_up xs 1 5)) 14 8) xm_law N (373, xLS, [], xhp0) (some (.int 1), hp) ∧ hp.1 ≤ 600000 ∧ hp.2.1 ≤ 7302250 :=
  ⟨25, _, Nat.le_of_ble_eq_true rfl, (ix_R.fin 25 (iy_n_ok (iy_run_ok _ _ _) rfl)), Nat.le_of_ble_eq_true rfl, Nat.le_of_ble_eq_true rfl⟩
set_option maxRecDepth 1000000 in
set_option maxHeartbeats 8000000 in
theorem xo_5_k6 (xs : Nat → Int32) : ∃ (N : Nat) (hp : ix_H), N ≤ 2 ^ 15 ∧ ix_R (xTT 6 (va_up xs 1 6)) (ix_run (xTT 6 (va_up xs 1 6)) 14 8) xm_law N (373, xLS, [], xhp0) (some (.int 1), hp) ∧ hp.1 ≤ 600000 ∧ hp.2.1 ≤ 7302250 :=
  ⟨25, _, Nat.le_of_ble_eq_true rfl, (ix_R.fin 25 (iy_n_ok (iy_run_ok _ _ _) rfl)), Nat.le_of_ble_eq_true rfl, Nat.le_of_ble_eq_true rfl⟩
set_option maxRecDepth 1000000 in
set_option maxHeartbeats 8000000 in
theorem xo_5_k7 (xs : Nat → Int32) : ∃ (N : Nat) (hp : ix_H), N ≤ 2 ^ 15 ∧ ix_R (xTT 6 (va_up xs 1 7)) (ix_run (xTT 6 (va_up xs 1 7)) 14 8) xm_law N (373, xLS, [], xhp0) (some (.int 1), hp) ∧ hp.1 ≤ 600000 ∧ hp.2.1 ≤ 7302250 :=
  ⟨25, _, Nat.le_of_ble_eq_true rfl, (ix_R.fin 25 (iy_n_ok (iy_run_ok _ _ _) rfl)), Nat.le_of_ble_eq_true rfl, Nat.le_of_ble_eq_true rfl⟩
set_option maxRecDepth 1000000 in
set_option maxHeartbeats 8000000 in
theorem xo_5_k8 (xs : Nat → Int32) : ∃ (N : Nat) (hp : ix_H), N ≤ 2 ^ 15 ∧ ix_R (xTT 6 (va_up xs 1 8)) (ix_run (xTT 6 (va_up xs 1 8)) 14 8) xm_law N (373, xLS, [], xhp0) (some (.int 1), hp) ∧ hp.1 ≤ 600000 ∧ hp.2.1 ≤ 7302250 :=
  ⟨25, _, Nat.le_of_ble_eq_true rfl, (ix_R.fin 25 (iy_n_ok (iy_run_ok _ _ _) rfl)), Nat.le_of_ble_eq_true rfl, Nat.le_of_ble_eq_true rfl⟩
set_option maxRecDepth 1000000 in
set_option maxHeartbeats 8000000 in
theorem xo_5_k9 (xs : Nat → Int32) : ∃ (N : Nat) (hp : ix_H), N ≤ 2 ^ 15 ∧ ix_R (xTT 6 (va_up xs 1 9)) (ix_run (xTT 6 (va_up xs 1 9)) 14 8) xm_law N (373, xLS, [], xhp0) (some (.int 1), hp) ∧ hp.1 ≤ 600000 ∧ hp.2.1 ≤ 7302250 :=
  ⟨25, _, Nat.le_of_ble_eq_true rfl, (ix_R.fin 25 (iy_n_ok (iy_run_ok _ _ _) rfl)), Nat.le_of_ble_eq_true rfl, Nat.le_of_ble_eq_true rfl⟩
set_option maxRecDepth 1000000 in
set_option maxHeartbeats 8000000 in
theorem xo_5_k10 (xs : Nat → Int32) : ∃ (N : Nat) (hp : ix_H), N ≤ 2 ^ 15 ∧ ix_R (xTT 6 (va_up xs 1 10)) (ix_run (xTT 6 (va_up xs 1 10)) 14 8) xm_law N (373, xLS, [], xhp0) (some (.int 1), hp) ∧ hp.1 ≤ 600000 ∧ hp.2.1 ≤ 7302250 :=
  ⟨25, _, Nat.le_of_ble_eq_true rfl, (ix_R.fin 25 (iy_n_ok (iy_run_ok _ _ _) rfl)), Nat.le_of_ble_eq_true rfl, Nat.le_of_ble_eq_true rfl⟩
set_option maxRecDepth 1000000 in
set_option maxHeartbeats 8000000 in
theorem xo_5_k11 (xs : Nat → Int32) : ∃ (N : Nat) (hp : ix_H), N ≤ 2 ^ 15 ∧ ix_R (xTT 6 (va_up xs 1 11)) (ix_run (xTT 6 (va_up xs 1 11)) 14 8) xm_law N (373, xLS, [], xhp0) (some (.int 1), hp) ∧ hp.1 ≤ 600000 ∧ hp.2.1 ≤ 7302250 :=
  ⟨25, _, Nat.le_of_ble_eq_true rfl, (ix_R.fin 25 (iy_n_ok (iy_run_ok _ _ _) rfl)), Nat.le_of_ble_eq_true rfl, Nat.le_of_ble_eq_true rfl⟩
set_option maxRecDepth 1000000 in
set_option maxHeartbeats 8000000 in
theorem xo_5_k12 (xs : Nat → Int32) : ∃ (N : Nat) (hp : ix_H), N ≤ 2 ^ 15 ∧ ix_R (xTT 6 (va_up xs 1 12)) (ix_run (xTT 6 (va_up xs 1 12)) 14 8) xm_law N (373, xLS, [], xhp0) (some (.int 1), hp) ∧ hp.1 ≤ 600000 ∧ hp.2.1 ≤ 7302250 :=
  ⟨25, _, Nat.le_of_ble_eq_true rfl, (ix_R.fin 25 (iy_n_ok (iy_run_ok _ _ _) rfl)), Nat.le_of_ble_eq_true rfl, Nat.le_of_ble_eq_true rfl⟩
set_option maxRecDepth 1000000 in
set_option maxHeartbeats 8000000 in
theorem xo_5_k13 (xs : Nat → Int32) : ∃ (N : Nat) (hp : ix_H), N ≤ 2 ^ 15 ∧ ix_R (xTT 6 (va_up xs 1 13)) (ix_run (xTT 6 (va_up xs 1 13)) 14 8) xm_law N (373, xLS, [], xhp0) (some (.int 1), hp) ∧ hp.1 ≤ 600000 ∧ hp.2.1 ≤ 7302250 :=
  ⟨25, _, Nat.le_of_ble_eq_true rfl, (ix_R.fin 25 (iy_n_ok (iy_run_ok _ _ _) rfl)), Nat.le_of_ble_eq_true rfl, Nat.le_of_ble_eq_true rfl⟩
set_option maxRecDepth 1000000 in
set_option maxHeartbeats 8000000 in
theorem xo_5_k14 (xs : Nat → Int32) : ∃ (N : Nat) (hp : ix_H), N ≤ 2 ^ 15 ∧ ix_R (xTT 6 (va_up xs 1 14)) (ix_run (xTT 6 (va_up xs 1 14)) 14 8) xm_law N (373, xLS, [], xhp0) (some (.int 1), hp) ∧ hp.1 ≤ 600000 ∧ hp.2.1 ≤ 7302250 :=
  ⟨25, _, Nat.le_of_ble_eq_true rfl, (ix_R.fin 25 (iy_n_ok (iy_run_ok _ _ _) rfl)), Nat.le_of_ble_eq_true rfl, Nat.le_of_ble_eq_true rfl⟩
set_option maxRecDepth 1000000 in
set_option maxHeartbeats 8000000 in
theorem xo_5_k15 (xs : Nat → Int32) : ∃ (N : Nat) (hp : ix_H), N ≤ 2 ^ 15 ∧ ix_R (xTT 6 (va_up xs 1 15)) (ix_run (xTT 6 (va_up xs 1 15)) 14 8) xm_law N (373, xLS, [], xhp0) (some (.int 1), hp) ∧ hp.1 ≤ 600000 ∧ hp.2.1 ≤ 7302250 :=
  ⟨25, _, Nat.le_of_ble_eq_true rfl, (ix_R.fin 25 (iy_n_ok (iy_run_ok _ _ _) rfl)), Nat.le_of_ble_eq_true rfl, Nat.le_of_ble_eq_true rfl⟩
set_option maxRecDepth 1000000 in
set_option maxHeartbeats 8000000 in
theorem xo_5_k16 (xs : Nat → Int32) : ∃ (N : Nat) (hp : ix_H), N ≤ 2 ^ 15 ∧ ix_R (xTT 6 (va_up xs 1 16)) (ix_run (xTT 6 (va_up xs 1 16)) 14 8) xm_law N (373, xLS, [], xhp0) (some (.int 1), hp) ∧ hp.1 ≤ 600000 ∧ hp.2.1 ≤ 7302250 :=
  ⟨25, _, Nat.le_of_ble_eq_true rfl, (ix_R.fin 25 (iy_n_ok (iy_run_ok _ _ _) rfl)), Nat.le_of_ble_eq_true rfl, Nat.le_of_ble_eq_true rfl⟩
set_option maxRecDepth 1000000 in
set_option maxHeartbeats 8000000 in
theorem xo_5_k17 (xs : Nat → Int32) : ∃ (N : Nat) (hp : ix_H), N ≤ 2 ^ 15 ∧ ix_R (xTT 6 (va_up xs 1 17)) (ix_run (xTT 6 (va_up xs 1 17)) 14 8) xm_law N (373, xLS, [], xhp0) (some (.int 1), hp) ∧ hp.1 ≤ 600000 ∧ hp.2.1 ≤ 7302250 :=
  ⟨25, _, Nat.le_of_ble_eq_true rfl, (ix_R.fin 25 (iy_n_ok (iy_run_ok _ _ _) rfl)), Nat.le_of_ble_eq_true rfl, Nat.le_of_ble_eq_true rfl⟩
set_option maxRecDepth 1000000 in
set_option maxHeartbeats 8000000 in
theorem xo_5_k18 (xs : Nat → Int32) : ∃ (N : Nat) (hp : ix_H), N ≤ 2 ^ 15 ∧ ix_R (xTT 6 (va_up xs 1 18)) (ix_run (xTT 6 (va_up xs 1 18)) 14 8) xm_law N (373, xLS, [], xhp0) (some (.int 1), hp) ∧ hp.1 ≤ 600000 ∧ hp.2.1 ≤ 7302250 :=
  ⟨25, _, Nat.le_of_ble_eq_true rfl, (ix_R.fin 25 (iy_n_ok (iy_run_ok _ _ _) rfl)), Nat.le_of_ble_eq_true rfl, Nat.le_of_ble_eq_true rfl⟩
set_option maxRecDepth 1000000 in
set_option maxHeartbeats 8000000 in
theorem xo_5_k19 (xs : Nat → Int32) : ∃ (N : Nat) (hp : ix_H), N ≤ 2 ^ 15 ∧ ix_R (xTT 6 (va_up xs 1 19)) (ix_run (xTT 6 (va_up xs 1 19)) 14 8) xm_law N (373, xLS, [], xhp0) (some (.int 1), hp) ∧ hp.1 ≤ 600000 ∧ hp.2.1 ≤ 7302250 :=
  ⟨25, _, Nat.le_of_ble_eq_true rfl, (ix_R.fin 25 (iy_n_ok (iy_run_ok _ _ _) rfl)), Nat.le_of_ble_eq_true rfl, Nat.le_of_ble_eq_true rfl⟩
set_option maxRecDepth 1000000 in
set_option maxHeartbeats 8000000 in
theorem xo_5_k20 (xs : Nat → Int32) : ∃ (N : Nat) (hp : ix_H), N ≤ 2 ^ 15 ∧ ix_R (xTT 6 (va_up xs 1 20)) (ix_run (xTT 6 (va_up xs 1 20)) 14 8) xm_law N (373, xLS, [], xhp0) (some (.int 1), hp) ∧ hp.1 ≤ 600000 ∧ hp.2.1 ≤ 7302250 :=
  ⟨25, _, Nat.le_of_ble_eq_true rfl, (ix_R.fin 25 (iy_n_ok (iy_run_ok _ _ _) rfl)), Nat.le_of_ble_eq_true rfl, Nat.le_of_ble_eq_true rfl⟩
set_option maxRecDepth 1000000 in
set_option maxHeartbeats 8000000 in
theorem xo_5_k21 (xs : Nat → Int32) : ∃ (N : Nat) (hp : ix_H), N ≤ 2 ^ 15 ∧ ix_R (xTT 6 (va_up xs 1 21)) (ix_run (xTT 6 (va_up xs 1 21)) 14 8) xm_law N (373, xLS, [], xhp0) (some (.int 1), hp) ∧ hp.1 ≤ 600000 ∧ hp.2.1 ≤ 7302250 :=
  ⟨25, _, Nat.le_of_ble_eq_true rfl, (ix_R.fin 25 (iy_n_ok (iy_run_ok _ _ _) rfl)), Nat.le_of_ble_eq_true rfl, Nat.le_of_ble_eq_true rfl⟩
set_option maxRecDepth 1000000 in
set_option maxHeartbeats 8000000 in
theorem xo_5_k22 (xs : Nat → Int32) : ∃ (N : Nat) (hp : ix_H), N ≤ 2 ^ 15 ∧ ix_R (xTT 6 (va_up xs 1 22)) (ix_run (xTT 6 (va_up xs 1 22)) 14 8) xm_law N (373, xLS, [], xhp0) (some (.int 1), hp) ∧ hp.1 ≤ 600000 ∧ hp.2.1 ≤ 7302250 :=
  ⟨25, _, Nat.le_of_ble_eq_true rfl, (ix_R.fin 25 (iy_n_ok (iy_run_ok _ _ _) rfl)), Nat.le_of_ble_eq_true rfl, Nat.le_of_ble_eq_true rfl⟩
set_option maxRecDepth 1000000 in
set_option maxHeartbeats 8000000 in
theorem xo_5_k23 (xs : Nat → Int32) : ∃ (N : Nat) (hp : ix_H), N ≤ 2 ^ 15 ∧ ix_R (xTT 6 (va_up xs 1 23)) (ix_run (xTT 6 (va_up xs 1 23)) 14 8) xm_law N (373, xLS, [], xhp0) (some (.int 1), hp) ∧ hp.1 ≤ 600000 ∧ hp.2.1 ≤ 7302250 :=
  ⟨25, _, Nat.le_of_ble_eq_true rfl, (ix_R.fin 25 (iy_n_ok (iy_run_ok _ _ _) rfl)), Nat.le_of_ble_eq_true rfl, Nat.le_of_ble_eq_true rfl⟩
set_option maxRecDepth 1000000 in
set_option maxHeartbeats 8000000 in
theorem xo_6_neg (xs : Nat → Int32) (h1 : -2147483648 ≤ (xs 1).toInt ∧ (xs 1).toInt ≤ -1) : ∃ (N : Nat) (hp : ix_H), N ≤ 2 ^ 15 ∧ ix_R (xTT 6 xs) (ix_run (xTT 6 xs) 14 8) xm_law N (396, xLS, [], xhp0) (some (.int 1), hp) ∧ hp.1 ≤ 600000 ∧ hp.2.1 ≤ 7302250 :=
  ⟨25, _, Nat.le_of_ble_eq_true rfl, (ix_R.step 6 (iy_n_ok (iy_run_ok _ _ _) rfl) (ix_R.step 1 (ix_n_call (Or.inl ⟨_, rfl⟩) rfl (ix_cal_v rfl (Or.inl rfl) rfl rfl rfl ⟨rfl, Nat.le_of_ble_eq_true rfl, Nat.le_of_ble_eq_true rfl⟩ (ix_R.run (N := 5) rfl (Nat.le_of_ble_eq_true rfl) (ix_R.step 1 (iy_n_ok (iy_run_ok _ _ _) rfl) (ix_R.step 1 (ix_n_ift rfl rfl (cbt_lt (x := xs 1) (y := 0) (by have e9 : (0 : Int32).toInt = 0 := rfl; omega))) (ix_R.fin 3 (iy_n_ok (iy_run_ok _ _ _) rfl)))) (Nat.le_of_ble_eq_true rfl)))) (ix_R.step 6 (iy_n_ok (iy_run_ok _ _ _) rfl) (ix_R.step 1 (ix_n_call (Or.inl ⟨_, rfl⟩) rfl (ix_cal_v rfl (Or.inl rfl) rfl rfl rfl ⟨rfl, Nat.le_of_ble_eq_true rfl, Nat.le_of_ble_eq_true rfl⟩ (ix_R.run (N := 7) rfl (Nat.le_of_ble_eq_true rfl) (ix_R.step 1 (iy_n_ok (iy_run_ok _ _ _) rfl) (ix_R.step 1 (ix_n_tswo rfl rfl (x := xs 1) (by omega)) (ix_R.step 2 (iy_n_ok (iy_run_ok _ _ _) rfl) (ix_R.step 1 (ix_n_icmpt rfl rfl (cbt_ne (x := xs 1) (y := 3) (by have e9 : (3 : Int32).toInt = 3 := rfl; omega))) (ix_R.fin 2 (iy_n_ok (iy_run_ok _ _ _) rfl)))))) (Nat.le_of_ble_eq_true rfl)))) (ix_R.fin 11 (iy_n_ok (iy_run_ok _ _ _) rfl)))))), Nat.le_of_ble_eq_true rfl, Nat.le_of_ble_eq_true rfl⟩
set_option maxRecDepth 1000000 in
set_option maxHeartbeats 8000000 in
theorem xo_6_big (xs : Nat → Int32) (h1 : 4 ≤ (xs 1).toInt ∧ (xs 1).toInt ≤ 2147483647) : ∃ (N : Nat) (hp : ix_H), N ≤ 2 ^ 15 ∧ ix_R (xTT 6 xs) (ix_run (xTT 6 xs) 14 8) xm_law N (396, xLS, [], xhp0) (some (.int 1), hp) ∧ hp.1 ≤ 600000 ∧ hp.2.1 ≤ 7302250 :=
  ⟨25, _, Nat.le_of_ble_eq_true rfl, (ix_R.step 6 (iy_n_ok (iy_run_ok _ _ _) rfl) (ix_R.step 1 (ix_n_call (Or.inl ⟨_, rfl⟩) rfl (ix_cal_v rfl (Or.inl rfl) rfl rfl rfl ⟨rfl, Nat.le_of_ble_eq_true rfl, Nat.le_of_ble_eq_true rfl⟩ (ix_R.run (N := 10) rfl (Nat.le_of_ble_eq_true rfl) (ix_R.step 1 (iy_n_ok (iy_run_ok _ _ _) rfl) (ix_R.step 1 (ix_n_iff rfl rfl (cbf_lt (x := xs 1) (y := 0) (by have e9 : (0 : Int32).toInt = 0 := rfl; omega))) (ix_R.step 4 (iy_n_ok (iy_run_ok _ _ _) rfl) (ix_R.step 1 (ix_n_icmpf rfl rfl (cbf_lt (x := xs 1) (y := 4) (by have e9 : (4 : Int32).toInt = 4 := rfl; omega))) (ix_R.fin 3 (iy_n_ok (iy_run_ok _ _ _) rfl)))))) (Nat.le_of_ble_eq_true rfl)))) (ix_R.step 6 (iy_n_ok (iy_run_ok _ _ _) rfl) (ix_R.step 1 (ix_n_call (Or.inl ⟨_, rfl⟩) rfl (ix_cal_v rfl (Or.inl rfl) rfl rfl rfl ⟨rfl, Nat.le_of_ble_eq_true rfl, Nat.le_of_ble_eq_true rfl⟩ (ix_R.run (N := 7) rfl (Nat.le_of_ble_eq_true rfl) (ix_R.step 1 (iy_n_ok (iy_run_ok _ _ _) rfl) (ix_R.step 1 (ix_n_tswo rfl rfl (x := xs 1) (by omega)) (ix_R.step 2 (iy_n_ok (iy_run_ok _ _ _) rfl) (ix_R.step 1 (ix_n_icmpt rfl rfl (cbt_ne (x := xs 1) (y := 3) (by have e9 : (3 : Int32).toInt = 3 := rfl; omega))) (ix_R.fin 2 (iy_n_ok (iy_run_ok _ _ _) rfl)))))) (Nat.le_of_ble_eq_true rfl)))) (ix_R.fin 11 (iy_n_ok (iy_run_ok _ _ _) rfl)))))), Nat.le_of_ble_eq_true rfl, Nat.le_of_ble_eq_true rfl⟩
