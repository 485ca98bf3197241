set_option maxRecDepth 1000000 in
set_option maxHeartbeats 8000000 in
theorem xo_15_k6 (xs : Nat → Int32) : ∃ (N : Nat) (hp : ix_H), N ≤ 2 ^ 15 ∧ ix_R (xTT 6 (va_up xs 1 6)) (ix_run (xTT 6 (va_up xs 1 6)) 14 8) xm_law N (695, xLS, [], xhp0) (some (.int 1), hp) ∧ hp.1 ≤ 600000 ∧ hp.2.1 ≤ 7302250 :=
  ⟨25, _, Nat.le_of_ble_eq_true rfl, (ix_R.fin 25 (iy_n_ok (iy_run_ok _ _ _) rfl)), Nat.le_of_ble_eq_true rfl, Nat.le_of_ble_eq_true rfl⟩
set_option maxRecDepth 1000000 in
set_option maxHeartbeats 8000000 in
theorem xo_15_k7 (xs : Nat → Int32) : ∃ (N : Nat) (hp : ix_H), N ≤ 2 ^ 15 ∧ ix_R (xTT 6 (va_up xs 1 7)) (ix_run (xTT 6 (va_up xs 1 7)) 14 8) xm_law N (695, xLS, [], xhp0) (some (.int 1), hp) ∧ hp.1 ≤ 600000 ∧ hp.2.1 ≤ 7302250 :=
  ⟨25, _, Nat.le_of_ble_eq_true rfl, (ix_R.fin 25 (iy_n_ok (iy_run_ok _ _ _) rfl)), Nat.le_of_ble_eq_true rfl, Nat.le_of_ble_eq_true rfl⟩
set_option maxRecDepth 1000000 in
set_option maxHeartbeats 8000000 in
theorem xo_15_k8 (xs : Nat → Int32) : ∃ (N : Nat) (hp : ix_H), N ≤ 2 ^ 15 ∧ ix_R (xTT 6 (va_up xs 1 8)) (ix_run (xTT 6 (va_up xs 1 8)) 14 8) xm_law N (695, xLS, [], xhp0) (some (.int 1), hp) ∧ hp.1 ≤ 600000 ∧ hp.2.1 ≤ 7302250 :=
  ⟨25, _, Nat.le_of_ble_eq_true rfl, (ix_R.fin 25 (iy_n_ok (iy_run_ok _ _ _) rfl)), Nat.le_of_ble_eq_true rfl, Nat.le_of_ble_eq_true rfl⟩
set_option maxRecDepth 1000000 in
set_option maxHeartbeats 8000000 in
theorem xo_15_k9 (xs : Nat → Int32) : ∃ (N : Nat) (hp : ix_H), N ≤ 2 ^ 15 ∧ ix_R (xTT 6 (va_up xs 1 9)) (ix_run (xTT 6 (va_up xs 1 9)) 14 8) xm_law N (695, xLS, [], xhp0) (some (.int 1), hp) ∧ hp.1 ≤ 600000 ∧ hp.2.1 ≤ 7302250 :=
  ⟨25, _, Nat.le_of_ble_eq_true rfl, (ix_R.fin 25 (iy_n_ok (iy_run_ok _ _ _) rfl)), Nat.le_of_ble_eq_true rfl, Nat.le_of_ble_eq_true rfl⟩
set_option maxRecDepth 1000000 in
set_option maxHeartbeats 8000000 in
theorem xo_15_k10 (xs : Nat → Int32) : ∃ (N : Nat) (hp : ix_H), N ≤ 2 ^ 15 ∧ ix_R (xTT 6 (va_up xs 1 10)) (ix_run (xTT 6 (va_up xs 1 10)) 14 8) xm_law N (695, xLS, [], xhp0) (some (.int 1), hp) ∧ hp.1 ≤ 600000 ∧ hp.2.1 ≤ 7302250 :=
  ⟨25, _, Nat.le_of_ble_eq_true rfl, (ix_R.fin 25 (iy_n_ok (iy_run_ok _ _ _) rfl)), Nat.le_of_ble_eq_true rfl, Nat.le_of_ble_eq_true rfl⟩
set_option maxRecDepth 1000000 in
set_option maxHeartbeats 8000000 in
theorem xo_15_k11 (xs : Nat → Int32) : ∃ (N : Nat) (hp : ix_H), N ≤ 2 ^ 15 ∧ ix_R (xTT 6 (va_up xs 1 11)) (ix_run (xTT 6 (va_up xs 1 11)) 14 8) xm_law N (695, xLS, [], xhp0) (some (.int 1), hp) ∧ hp.1 ≤ 600000 ∧ hp.2.1 ≤ 7302250 :=
  ⟨25, _, Nat.le_of_ble_eq_true rfl, (ix_R.fin 25 (iy_n_ok (iy_run_ok _ _ _) rfl)), Nat.le_of_ble_eq_true rfl, Nat.le_of_ble_eq_true rfl⟩
set_option maxRecDepth 1000000 in
set_option maxHeartbeats 8000000 in
theorem xo_15_k12 (xs : Nat → Int32) : ∃ (N : Nat) (hp : ix_H), N ≤ 2 ^ 15 ∧ ix_R (xTT 6 (va_up xs 1 12)) (ix_run (xTT 6 (va_up xs 1 12)) 14 8) xm_law N (695, xLS, [], xhp0) (some (.int 1), hp) ∧ hp.1 ≤ 600000 ∧ hp.2.1 ≤ 7302250 :=
  ⟨25, _, Nat.le_of_ble_eq_true rfl, (ix_R.fin 25 (iy_n_ok (iy_run_ok _ _ _) rfl)), Nat.le_of_ble_eq_true rfl, Nat.le_of_ble_eq_true rfl⟩
set_option maxRecDepth 1000000 in
set_option maxHeartbeats 8000000 in
theorem xo_15_k13 (xs : Nat → Int32) : ∃ (N : Nat) (hp : ix_H), N ≤ 2 ^ 15 ∧ ix_R (xTT 6 (va_up xs 1 13)) (ix_run (xTT 6 (va_up xs 1 13)) 14 8) xm_law N (695, xLS, [], xhp0) (some (.int 1), hp) ∧ hp.1 ≤ 600000 ∧ hp.2.1 ≤ 7302250 :=
  ⟨25, _, Nat.le_of_ble_eq_true rfl, (ix_R.fin 25 (iy_n_ok (iy_run_ok _ _ _) rfl)), Nat.le_of_ble_eq_true rfl, Nat.le_of_ble_eq_true rfl⟩
set_option maxRecDepth 1000000 in
set_option maxHeartbeats 8000000 in
theorem xo_15_k14 (xs : Nat → Int32) : ∃ (N : Nat) (hp : ix_H), N ≤ 2 ^ 15 ∧ ix_R (xTT 6 (va_up xs 1 14)) (ix_run (xTT 6 (va_up xs 1 14)) 14 8) xm_law N (695, xLS, [], xhp0) (some (.int 1), hp) ∧ hp.1 ≤ 600000 ∧ hp.2.1 ≤ 7302250 :=
  ⟨25, _, Nat.le_of_ble_eq_true rfl, (ix_R.fin 25 (iy_n_ok (iy_run_ok _ _ _) rfl)), Nat.le_of_ble_eq_true rfl, Nat.le_of_ble_eq_true rfl⟩
set_option maxRecDepth 1000000 in
set_option maxHeartbeats 8000000 in
theorem xo_15_k15 (xs : Nat → Int32) : ∃ (N : Nat) (hp : ix_H), N ≤ 2 ^ 15 ∧ ix_R (xTT 6 (va_up xs 1 15)) (ix_run (xTT 6 (va_up xs 1 15)) 14 8) xm_law N (695, xLS, [], xhp0) (some (.int 1), hp) ∧ hp.1 ≤ 600000 ∧ hp.2.1 ≤ 7302250 :=
  ⟨25, _, Nat.le_of_ble_eq_true rfl, (ix_R.fin 25 (iy_n_ok (iy_run_ok _ _ _) rfl)), Nat.le_of_ble_eq_true rfl, Nat.le_of_ble_eq_true rfl⟩
set_option maxRecDepth 1000000 in
set_option maxHeartbeats 8000000 in
theorem xo_15_k16 (xs : Nat → Int32) : ∃ (N : Nat) (hp : ix_H), N ≤ 2 ^ 15 ∧ ix_R (xTT 6 (va_up xs 1 16)) (ix_run (xTT 6 (va_up xs 1 16)) 14 8) xm_law N (695, xLS, [], xhp0) (some (.int 1), hp) ∧ hp.1 ≤ 600000 ∧ hp.2.1 ≤ 7302250 :=
  ⟨25, _, Nat.le_of_ble_eq_true rfl, (ix_R.fin 25 (iy_n_ok (iy_run_ok _ _ _) rfl)), Nat.le_of_ble_eq_true rfl, Nat.le_of_ble_eq_true rfl⟩
set_option maxRecDepth 1000000 in
set_option maxHeartbeats 8000000 in
theorem xo_15_k17 (xs : Nat → Int32) : ∃ (N : Nat) (hp : ix_H), N ≤ 2 ^ 15 ∧ ix_R (xTT 6 (va_up xs 1 17)) (ix_run (xTT 6 (va_up xs 1 17)) 14 8) xm_law N (695, xLS, [], xhp0) (some (.int 1), hp) ∧ hp.1 ≤ 600000 ∧ hp.2.1 ≤ 7302250 :=
  ⟨25, _, Nat.le_of_ble_eq_true rfl, (ix_R.fin 25 (iy_n_ok (iy_run_ok _ _ _) rfl)), Nat.le_of_ble_eq_true rfl, Nat.le_of_ble_eq_true rfl⟩
set_option maxRecDepth 1000000 in
set_option maxHeartbeats 8000000 in
theorem xo_15_k18 (xs : Nat → Int32) : ∃ (N : Nat) (hp : ix_H), N ≤ 2 ^ 15 ∧ ix_R (xTT 6 (va_up xs 1 18)) (ix_run (xTT 6 (va_up xs 1 18)) 14 8) xm_law N (695, xLS, [], xhp0) (some (.int 1), hp) ∧ hp.1 ≤ 600000 ∧ hp.2.1 ≤ 7302250 :=
  ⟨25, _, Nat.le_of_ble_eq_true rfl, (ix_R.fin 25 (iy_n_ok (iy_run_ok _ _ _) rfl)), Nat.le_of_ble_eq_true rfl, Nat.le_of_ble_eq_true rfl⟩
set_option maxRecDepth 1000000 in
set_option maxHeartbeats 8000000 in
theorem xo_15_k19 (xs : Nat → Int32) : ∃ (N : Nat) (hp : ix_H), N ≤ 2 ^ 15 ∧ ix_R (xTT 6 (va_up xs 1 19)) (ix_run (xTT 6 (va_up xs 1 19)) 14 8) xm_law N (695, xLS, [], xhp0) (some (.int 1), hp) ∧ hp.1 ≤ 600000 ∧ hp.2.1 ≤ 7302250 :=
  ⟨25, _, Nat.le_of_ble_eq_true rfl, (ix_R.fin 25 (iy_n_ok (iy_run_ok _ _ _) rfl)), Nat.le_of_ble_eq_true rfl, Nat.le_of_ble_eq_true rfl⟩
set_option maxRecDepth 1000000 in
set_option maxHeartbeats 8000000 in
theorem xo_15_k20 (xs : Nat → Int32) : ∃ (N : Nat) (hp : ix_H), N ≤ 2 ^ 15 ∧ ix_R (xTT 6 (va_up xs 1 20)) (ix_run (xTT 6 (va_up xs 1 20)) 14 8) xm_law N (695, xLS, [], xhp0) (some (.int 1), hp) ∧ hp.1 ≤ 600000 ∧ hp.2.1 ≤ 7302250 :=
  ⟨25, _, Nat.le_of_ble_eq_true rfl, (ix_R.fin 25 (iy_n_ok (iy_run_ok _ _ _) rfl)), Nat.le_of_ble_eq_true rfl, Nat.le_of_ble_eq_true rfl⟩
set_option maxRecDepth 1000000 in
set_option maxHeartbeats 8000000 in
theorem xo_15_k21 (xs : Nat → Int32) : ∃ (N : Nat) (hp : ix_H), N ≤ 2 ^ 15 ∧ ix_R (xTT 6 (va_up xs 1 21)) (ix_run (xTT 6 (va_up xs 1 21)) 14 8) xm_law N (695, xLS, [], xhp0) (some (.int 1), hp) ∧ hp.1 ≤ 600000 ∧ hp.2.1 ≤ 7302250 :=
  ⟨25, _, Nat.le_of_ble_eq_true rfl, (ix_R.fin 25 (iy_n_ok (iy_run_ok _ _ _) rfl)), Nat.le_of_ble_eq_true rfl, Nat.le_of_ble_eq_true rfl⟩
set_option maxRecDepth 1000000 in
set_option maxHeartbeats 8000000 in
theorem xo_15_k22 (xs : Nat → Int32) : ∃ (N : Nat) (hp : ix_H), N ≤ 2 ^ 15 ∧ ix_R (xTT 6 (va_up xs 1 22)) (ix_run (xTT 6 (va_up xs 1 22)) 14 8) xm_law N (695, xLS, [], xhp0) (some (.int 1), hp) ∧ hp.1 ≤ 600000 ∧ hp.2.1 ≤ 7302250 :=
  ⟨25, _, Nat.le_of_ble_eq_true rfl, (ix_R.fin 25 (iy_n_ok (iy_run_ok _ _ _) rfl)), Nat.le_of_ble_eq_true rfl, Nat.le_of_ble_eq_true rfl⟩
set_option maxRecDepth 1000000 in
set_option maxHeartbeats 8000000 in
theorem xo_15_k23 (xs : Nat → Int32) : ∃ (N : Nat) (hp : ix_H), N ≤ 2 ^ 15 ∧ ix_R (xTT 6 (va_up xs 1 23)) (ix_run (xTT 6 (va_up xs 1 23)) 14 8) xm_law N (695, xLS, [], xhp0) (some (.int 1), hp) ∧ hp.1 ≤ 600000 ∧ hp.2.1 ≤ 7302250 :=
  ⟨25, _, Nat.le_of_ble_eq_true rfl, (ix_R.fin 25 (iy_n_ok (iy_run_ok _ _ _) rfl)), Nat.le_of_ble_eq_true rfl, Nat.le_of_ble_eq_true rfl⟩
set_option maxRecDepth 1000000 in
set_option maxHeartbeats 8000000 in
theorem xo_16_neg (xs : Nat → Int32) (h1 : -2147483648 ≤ (xs 1).toInt ∧ (xs 1).toInt ≤ -1) : ∃ (N : Nat) (hp : ix_H), N ≤ 2 ^ 15 ∧ ix_R (xTT 6 xs) (ix_run (xTT 6 xs) 14 8) xm_law N (718, xLS, [], xhp0) (some (.int 1), hp) ∧ hp.1 ≤ 600000 ∧ hp.2.1 ≤ 7302250 :=
  ⟨25, _, Nat.le_of_ble_eq_true rfl, (ix_R.step 6 (iy_n_ok (iy_run_ok _ _ _) rfl) (ix_R.step 1 (ix_n_call (Or.inl ⟨_, rfl⟩) rfl (ix_cal_v rfl (Or.inl rfl) rfl rfl rfl ⟨rfl, Nat.le_of_ble_eq_true rfl, Nat.le_of_ble_eq_true rfl⟩ (ix_R.run (N := 5) rfl (Nat.le_of_ble_eq_true rfl) (ix_R.step 1 (iy_n_ok (iy_run_ok _ _ _) rfl) (ix_R.step 1 (ix_n_ift rfl rfl (cbt_lt (x := xs 1) (y := 0) (by have e9 : (0 : Int32).toInt = 0 := rfl; omega))) (ix_R.fin 3 (iy_n_ok (iy_run_ok _ _ _) rfl)))) (Nat.le_of_ble_eq_true rfl)))) (ix_R.step 6 (iy_n_ok (iy_run_ok _ _ _) rfl) (ix_R.step 1 (ix_n_call (Or.inl ⟨_, rfl⟩) rfl (ix_cal_v rfl (Or.inl rfl) rfl rfl rfl ⟨rfl, Nat.le_of_ble_eq_true rfl, Nat.le_of_ble_eq_true rfl⟩ (ix_R.run (N := 8) rfl (Nat.le_of_ble_eq_true rfl) (ix_R.step 4 (iy_n_ok (iy_run_ok _ _ _) rfl) (ix_R.step 1 (ix_n_call (Or.inr (Or.inr ⟨_, rfl⟩)) rfl (ix_cal_s rfl (Or.inl rfl) ⟨Nat.le_of_ble_eq_true rfl, Nat.le_of_ble_eq_true rfl⟩ (ix_R.run (N := 6) rfl (Nat.le_of_ble_eq_true rfl) (ix_R.step 3 (iy_n_ok (iy_run_ok _ _ _) rfl) (ix_R.step 1 (ix_n_ift rfl rfl (clt_lt (x := (xs 1).toInt64) (y := 0) (by rw [Int32.toInt_toInt64]; have e9 : (0 : Int64).toInt = 0 := rfl; omega))) (ix_R.fin 2 (iy_n_ok (iy_run_ok _ _ _) rfl)))) (Nat.le_of_ble_eq_true rfl)))) (ix_R.fin 3 (iy_n_ok (iy_run_ok _ _ _) rfl)))) (Nat.le_of_ble_eq_true rfl)))) (ix_R.fin 11 (iy_n_ok (iy_run_ok _ _ _) rfl)))))), Nat.le_of_ble_eq_true rfl, Nat.le_of_ble_eq_true rfl⟩
set_option maxRecDepth 1000000 in
set_option maxHeartbeats 8000000 in
theorem xo_16_big (xs : Nat → Int32) (h1 : 5 ≤ (xs 1).toInt ∧ (xs 1).toInt ≤ 2147483647) : ∃ (N : Nat) (hp : ix_H), N ≤ 2 ^ 15 ∧ ix_R (xTT 6 xs) (ix_run (xTT 6 xs) 14 8) xm_law N (718, xLS, [], xhp0) (some (.int 1), hp) ∧ hp.1 ≤ 600000 ∧ hp.2.1 ≤ 7302250 :=
  ⟨25, _, Nat.le_of_ble_eq_true rfl, (ix_R.step 6 (iy_n_ok (iy_run_ok _ _ _) rfl) (ix_R.step 1 (ix_n_call (Or.inl ⟨_, rfl⟩) rfl (ix_cal_v rfl (Or.inl rfl) rfl rfl rfl ⟨rfl, Nat.le_of_ble_eq_true rfl, Nat.le_of_ble_eq_true rfl⟩ (ix_R.run (N := 10) rfl (Nat.le_of_ble_eq_true rfl) (ix_R.step 1 (iy_n_ok (iy_run_ok _ _ _) rfl) (ix_R.step 1 (ix_n_iff rfl rfl (cbf_lt (x := xs 1) (y := 0) (by have e9 : (0 : Int32).toInt = 0 := rfl; omega))) (ix_R.step 4 (iy_n_ok (iy_run_ok _ _ _) rfl) (ix_R.step 1 (ix_n_icmpf rfl rfl (cbf_lt (x := xs 1) (y := 5) (by have e9 : (5 : Int32).toInt = 5 := rfl; omega))) (ix_R.fin 3 (iy_n_ok (iy_run_ok _ _ _) rfl)))))) (Nat.le_of_ble_eq_true rfl)))) (ix_R.step 6 (iy_n_ok (iy_run_ok _ _ _) rfl) (ix_R.step 1 (ix_n_call (Or.inl ⟨_, rfl⟩) rfl (ix_cal_v rfl (Or.inl rfl) rfl rfl rfl ⟨rfl, Nat.le_of_ble_eq_true rfl, Nat.le_of_ble_eq_true rfl⟩ (ix_R.run (N := 8) rfl (Nat.le_of_ble_eq_true rfl) (ix_R.step 4 (iy_n_ok (iy_run_ok _ _ _) rfl) (ix_R.step 1 (ix_n_call (Or.inr (Or.inr ⟨_, rfl⟩)) rfl (ix_cal_s rfl (Or.inl rfl) ⟨Nat.le_of_ble_eq_true rfl, Nat.le_of_ble_eq_true rfl⟩ (ix_R.run (N := 10) rfl (Nat.le_of_ble_eq_true rfl) (ix_R.step 3 (iy_n_ok (iy_run_ok _ _ _) rfl) (ix_R.step 1 (ix_n_iff rfl rfl (clf_lt (x := (xs 1).toInt64) (y := 0) (by rw [Int32.toInt_toInt64]; have e9 : (0 : Int64).toInt = 0 := rfl; omega))) (ix_R.step 3 (iy_n_ok (iy_run_ok _ _ _) rfl) (ix_R.step 1 (ix_n_ift rfl rfl (clt_gt (x := (xs 1).toInt64) (y := 4) (by rw [Int32.toInt_toInt64]; have e9 : (4 : Int64).toInt = 4 := rfl; omega))) (ix_R.fin 2 (iy_n_ok (iy_run_ok _ _ _) rfl)))))) (Nat.le_of_ble_eq_true rfl)))) (ix_R.fin 3 (iy_n_ok (iy_run_ok _ _ _) rfl)))) (Nat.le_of_ble_eq_true rfl)))) (ix_R.fin 11 (iy_n_ok (iy_run_ok _ _ _) rfl)))))), Nat.le_of_ble_eq_true rfl, Nat.le_of_ble_eq_true rfl⟩
set_option maxRecDepth 1000000 in
set_option maxHeartbeats 8000000 in
theorem xo_16_k0 (xs : Nat → Int32) : ∃ (N : Nat) (hp : ix_H), N ≤ 2 ^ 15 ∧ ix_R (xTT 6 (va_up xs 1 0)) (ix_run (xTT 6 (va_up xs 1 0)) 14 8) xm_law N (718, xLS, [], xhp0) (some (.int 1), hp) ∧ hp.1 ≤ 600000 ∧ hp.2.1 ≤ 7302250 :=
  ⟨25, _, Nat.le_of_ble_eq_true rfl, (ix_R.fin 25 (iy_n_ok (iy_run_ok _ _ _) rfl)), Nat.le_of_ble_eq_true rfl, Nat.le_of_ble_eq_true rfl⟩
set_option maxRecDepth 1000000 in
set_option maxHeartbeats 8000000 in
theorem xo_16_k1 (xs : Nat → Int32) : ∃ (N : Nat) (hp : ix_H), N ≤ 2 ^ 15 ∧ ix_R (xTT 6 (va_up xs 1 1)) (ix_run (xTT 6 (va_up xs 1 1)) 14 8) xm_law N (718, xLS, [], xhp0) (some (.int 1), hp) ∧ hp.1 ≤ 600000 ∧ hp.2.1 ≤ 7302250 :=
  ⟨25, _, Nat.le_of_ble_eq_true rfl, (ix_R.fin 25 (iy_n_ok (iy_run_ok _ _ _) rfl)), Nat.le_of_ble_eq_true rfl, Nat.le_of_ble_eq_true rfl⟩
set_option maxRecDepth 1000000 in
set_option maxHeartbeats 8000000 in
theorem xo_16_k2 (xs : Nat → Int32) : ∃ (N : Nat) (hp : ix_H), N ≤ 2 ^ 15 ∧ ix_R (xTT 6 (va_up xs 1 2)) (ix_run (xTT 6 (va_up xs 1 2)) 14 8) xm_law N (718, xLS, [], xhp0) (some (.int 1), hp) ∧ hp.1 ≤ 600000 ∧ hp.2.1 ≤ 7302250 :=
  ⟨25, _, Nat.le_of_ble_eq_true rfl, (ix_R.fin 25 (iy_n_ok (iy_run_ok _ _ _) rfl)), Nat.le_of_ble_eq_true rfl, Nat.le_of_ble_eq_true rfl⟩
set_option maxRecDepth 1000000 in
set_option maxHeartbeats 8000000 in
theorem xo_16_k3 (xs : Nat → Int32) : ∃ (N : Nat) (hp : ix_H), N ≤ 2 ^ 15 ∧ ix_R (xTT 6 (va_up xs 1 3)) (ix_run (xTT 6 (va_up xs 1 3)) 14 8) xm_law N (718, xLS, [], xhp0) (some (.int 1), hp) ∧ hp.1 ≤ 600000 ∧ hp.2.1 ≤ 7302250 :=
  ⟨25, _, Nat.le_of_ble_eq_true rfl, (ix_R.fin 25 (iy_n_ok (iy_run_ok _ _ _) rfl)), Nat.le_of_ble_eq_true rfl, Nat.le_of_ble_eq_true rfl⟩
set_option maxRecDepth 1000000 in
set_option maxHeartbeats 8000000 in
theorem xo_16_k4 (xs : Nat → Int32) : ∃ (N : Nat) (hp : ix_H), N ≤ 2 ^ 15 ∧ ix_R (xTT 6 (va_up xs 1 4)) (ix_run (xTT 6 (va_up xs 1 4)) 14 8) xm_law N (718, xLS, [], xhp0) (some (.int 1), hp) ∧ hp.1 ≤ 600000 ∧ hp.2.1 ≤ 7302250 :=
  ⟨25, _, Nat.le_of_ble_eq_true rfl, (ix_R.fin 25 (iy_n_ok (iy_run_ok _ _ _) rfl)), Nat.le_of_ble_eq_true rfl, Nat.le_of_ble_eq_true rfl⟩
set_option maxRecDepth 1000000 in
set_option maxHeartbeats 8000000 in
theorem xo_17_neg (xs : Nat → Int32) (h1 : -2147483648 ≤ (xs 1).toInt ∧ (xs 1).toInt ≤ 0) : ∃ (N : Nat) (hp : ix_H), N ≤ 2 ^ 15 ∧ ix_R (xTT 6 xs) (ix_run (xTT 6 xs) 14 8) xm_law N (741, xLS, [], xhp0) (some (.int 1), hp) ∧ hp.1 ≤ 600000 ∧ hp.2.1 ≤ 7302250 :=
  ⟨25, _, Nat.le_of_ble_eq_true rfl, (ix_R.step 6 (iy_n_ok (iy_run_ok _ _ _) rfl) (ix_R.step 1 (ix_n_call (Or.inl ⟨_, rfl⟩) rfl (ix_cal_v rfl (Or.inl rfl) rfl rfl rfl ⟨rfl, Nat.le_of_ble_eq_true rfl, Nat.le_of_ble_eq_true rfl⟩ (ix_R.run (N := 5) rfl (Nat.le_of_ble_eq_true rfl) (ix_R.step 2 (iy_n_ok (iy_run_ok _ _ _) rfl) (ix_R.step 1 (ix_n_icmpt rfl rfl (cbt_lt (x := xs 1) (y := 1) (by have e9 : (1 : Int32).toInt = 1 := rfl; omega))) (ix_R.fin 2 (iy_n_ok (iy_run_ok _ _ _) rfl)))) (Nat.le_of_ble_eq_true rfl)))) (ix_R.step 6 (iy_n_ok (iy_run_ok _ _ _) rfl) (ix_R.step 1 (ix_n_call (Or.inl ⟨_, rfl⟩) rfl (ix_cal_v rfl (Or.inl rfl) rfl rfl rfl ⟨rfl, Nat.le_of_ble_eq_true rfl, Nat.le_of_ble_eq_true rfl⟩ (ix_R.run (N := 8) rfl (Nat.le_of_ble_eq_true rfl) (ix_R.step 4 (iy_n_ok (iy_run_ok _ _ _) rfl) (ix_R.step 1 (ix_n_call (Or.inr (Or.inr ⟨_, rfl⟩)) rfl (ix_cal_s rfl (Or.inl rfl) ⟨Nat.le_of_ble_eq_true rfl, Nat.le_of_ble_eq_true rfl⟩ (ix_R.run (N := 6) rfl (Nat.le_of_ble_eq_true rfl) (ix_R.step 3 (iy_n_ok (iy_run_ok _ _ _) rfl) (ix_R.step 1 (ix_n_ift rfl rfl (clt_lt (x := (xs 1).toInt64) (y := 1) (by rw [Int32.toInt_toInt64]; have e9 : (1 : Int64).toInt = 1 := rfl; omega))) (ix_R.fin 2 (iy_n_ok (iy_run_ok _ _ _) rfl)))) (Nat.le_of_ble_eq_true rfl)))) (ix_R.fin 3 (iy_n_ok (iy_run_ok _ _ _) rfl)))) (Nat.le_of_ble_eq_true rfl)))) (ix_R.fin 11 (iy_n_ok (iy_run_ok _ _ _) rfl)))))), Nat.le_of_ble_eq_true rfl, Nat.le_of_ble_eq_true rfl⟩
set_option maxRecDepth 1000000 in
set_option maxHeartbeats 8000000 in
theorem xo_17_big (xs : Nat → Int32) (h1 : 1001 ≤ (xs 1).toInt ∧ (xs 1).toInt ≤ 2147483647) : ∃ (N : Nat) (hp : ix_H), N ≤ 2 ^ 15 ∧ ix_R (xTT 6 xs) (ix_run (xTT 6 xs) 14 8) xm_law N (741, xLS, [], xhp0) (some (.int 1), hp) ∧ hp.1 ≤ 600000 ∧ hp.2.1 ≤ 7302250 :=
  ⟨25, _, Nat.le_of_ble_eq_true rfl, (ix_R.step 6 (iy_n_ok (iy_run_ok _ _ _) rfl) (ix_R.step 1 (ix_n_call (Or.inl ⟨_, rfl⟩) rfl (ix_cal_v rfl (Or.inl rfl) rfl rfl rfl ⟨rfl, Nat.le_of_ble_eq_true rfl, Nat.le_of_ble_eq_true rfl⟩ (ix_R.run (N := 8) rfl (Nat.le_of_ble_eq_true rfl) (ix_R.step 2 (iy_n_ok (iy_run_ok _ _ _) rfl) (ix_R.step 1 (ix_n_icmpf rfl rfl (cbf_lt (x := xs 1) (y := 1) (by have e9 : (1 : Int32).toInt = 1 := rfl; omega))) (ix_R.step 2 (iy_n_ok (iy_run_ok _ _ _) rfl) (ix_R.step 1 (ix_n_icmpf rfl rfl (cbf_le (x := xs 1) (y := 1000) (by have e9 : (1000 : Int32).toInt = 1000 := rfl; omega))) (ix_R.fin 2 (iy_n_ok (iy_run_ok _ _ _) rfl)))))) (Nat.le_of_ble_eq_true rfl)))) (ix_R.step 6 (iy_n_ok (iy_run_ok _ _ _) rfl) (ix_R.step 1 (ix_n_call (Or.inl ⟨_, rfl⟩) rfl (ix_cal_v rfl (Or.inl rfl) rfl rfl rfl ⟨rfl, Nat.le_of_ble_eq_true rfl, Nat.le_of_ble_eq_true rfl⟩ (ix_R.run (N := 8) rfl (Nat.le_of_ble_eq_true rfl) (ix_R.step 4 (iy_n_ok (iy_run_ok _ _ _) rfl) (ix_R.step 1 (ix_n_call (Or.inr (Or.inr ⟨_, rfl⟩)) rfl (ix_cal_s rfl (Or.inl rfl) ⟨Nat.le_of_ble_eq_true rfl, Nat.le_of_ble_eq_true rfl⟩ (ix_R.run (N := 10) rfl (Nat.le_of_ble_eq_true rfl) (ix_R.step 3 (iy_n_ok (iy_run_ok _ _ _) rfl) (ix_R.step 1 (ix_n_iff rfl rfl (clf_lt (x := (xs 1).toInt64) (y := 1) (by rw [Int32.toInt_toInt64]; have e9 : (1 : Int64).toInt = 1 := rfl; omega))) (ix_R.step 3 (iy_n_ok (iy_run_ok _ _ _) rfl) (ix_R.step 1 (ix_n_ift rfl rfl (clt_gt (x := (xs 1).toInt64) (y := 1000) (by rw [Int32.toInt_toInt64]; have e9 : (1000 : Int64).toInt = 1000 := rfl; omega))) (ix_R.fin 2 (iy_n_ok (iy_run_ok _ _ _) rfl)))))) (Nat.le_of_ble_eq_true rfl)))) (ix_R.fin 3 (iy_n_ok (iy_run_ok _ _ _) rfl)))) (Nat.le_of_ble_eq_true rfl)))) (ix_R.fin 11 (iy_n_ok (iy_run_ok _ _ _) rfl)))))), Nat.le_of_ble_eq_true rfl, Nat.le_of_ble_eq_true rfl⟩
set_option maxRecDepth 1000000 in
set_option maxHeartbeats 8000000 in
theorem xo_18_neg (xs : Nat → Int32) (h1 : -2147483648 ≤ (xs 1).toInt ∧ (xs 1).toInt ≤ -1) : ∃ (N : Nat) (hp : ix_H), N ≤ 2 ^ 15 ∧ ix_R (xTT 6 xs) (ix_run (xTT 6 xs) 14 8) xm_law N (764, xLS, [], xhp0) (some (.int 1), hp) ∧ hp.1 ≤ 600000 ∧ hp.2.1 ≤ 7302250 :=
  ⟨25, _, Nat.le_of_ble_eq_true rfl, (ix_R.step 6 (iy_n_ok (iy_run_ok _ _ _) rfl) (ix_R.step 1 (ix_n_call (Or.inl ⟨_, rfl⟩) rfl (ix_cal_v rfl (Or.inl rfl) rfl rfl rfl ⟨rfl, Nat.le_of_ble_eq_true rfl, Nat.le_of_ble_eq_true rfl⟩ (ix_R.run (N := 6) rfl (Nat.le_of_ble_eq_true rfl) (ix_R.step 2 (iy_n_ok (iy_run_ok _ _ _) rfl) (ix_R.step 1 (ix_n_call (Or.inl ⟨_, rfl⟩) rfl (ix_cal_v rfl (Or.inl rfl) rfl rfl rfl ⟨rfl, Nat.le_of_ble_eq_true rfl, Nat.le_of_ble_eq_true rfl⟩ (ix_R.run (N := 4) rfl (Nat.le_of_ble_eq_true rfl) (ix_R.step 1 (iy_n_ok (iy_run_ok _ _ _) rfl) (ix_R.step 1 (ix_n_ift rfl rfl (cbt_lt (x := xs 1) (y := 0) (by have e9 : (0 : Int32).toInt = 0 := rfl; omega))) (ix_R.fin 2 (iy_n_ok (iy_run_ok _ _ _) rfl)))) (Nat.le_of_ble_eq_true rfl)))) (ix_R.fin 3 (iy_n_ok (iy_run_ok _ _ _) rfl)))) (Nat.le_of_ble_eq_true rfl)))) (ix_R.step 6 (iy_n_ok (iy_run_ok _ _ _) rfl) (ix_R.step 1 (ix_n_call (Or.inl ⟨_, rfl⟩) rfl (ix_cal_v rfl (Or.inl rfl) rfl rfl rfl ⟨rfl, Nat.le_of_ble_eq_true rfl, Nat.le_of_ble_eq_true rfl⟩ (ix_R.run (N := 6) rfl (Nat.le_of_ble_eq_true rfl) (ix_R.step 2 (iy_n_ok (iy_run_ok _ _ _) rfl) (ix_R.step 1 (ix_n_call (Or.inl ⟨_, rfl⟩) rfl (ix_cal_v rfl (Or.inl rfl) rfl rfl rfl ⟨rfl, Nat.le_of_ble_eq_true rfl, Nat.le_of_ble_eq_true rfl⟩ (ix_R.run (N := 5) rfl (Nat.le_of_ble_eq_true rfl) (ix_R.step 1 (iy_n_ok (iy_run_ok _ _ _) rfl) (ix_R.step 1 (ix_n_call (Or.inr (Or.inr ⟨_, rfl⟩)) rfl (ix_cal_s rfl (Or.inl rfl) ⟨Nat.le_of_ble_eq_true rfl, Nat.le_of_ble_eq_true rfl⟩ (ix_R.run (N := 6) rfl (Nat.le_of_ble_eq_true rfl) (ix_R.step 4 (iy_n_ok (iy_run_ok _ _ _) rfl) (ix_R.step 1 (ix_n_call (Or.inr (Or.inr ⟨_, rfl⟩)) rfl (ix_cal_s rfl (Or.inl rfl) ⟨Nat.le_of_ble_eq_true rfl, Nat.le_of_ble_eq_true rfl⟩ (ix_R.run (N := 6) rfl (Nat.le_of_ble_eq_true rfl) (ix_R.step 3 (iy_n_ok (iy_run_ok _ _ _) rfl) (ix_R.step 1 (ix_n_ift rfl rfl (clt_lt (x := (xs 1).toInt64) (y := 0) (by rw [Int32.toInt_toInt64]; have e9 : (0 : Int64).toInt = 0 := rfl; omega))) (ix_R.fin 2 (iy_n_ok (iy_run_ok _ _ _) rfl)))) (Nat.le_of_ble_eq_true rfl)))) (ix_R.fin 1 (iy_n_ok (iy_run_ok _ _ _) rfl)))) (Nat.le_of_ble_eq_true rfl)))) (ix_R.fin 3 (iy_n_ok (iy_run_ok _ _ _) rfl)))) (Nat.le_of_ble_eq_true rfl)))) (ix_R.fin 3 (iy_n_ok (iy_run_ok _ _ _) rfl)))) (Nat.le_of_ble_eq_true rfl)))) (ix_R.fin 11 (iy_n_ok (iy_run_ok _ _ _) rfl)))))), Nat.le_of_ble_eq_true rfl, Nat.le_of_ble_eq_true rfl⟩
set_option maxRecDepth 1000000 in
set_option maxHeartbeats 8000000 in
theorem xo_18_big (xs : Nat → Int32) (h1 : 24 ≤ (xs 1).toInt ∧ (xs 1).toInt ≤ 2147483647) : ∃ (N : Nat) (hp : ix_H), N ≤ 2 ^ 15 ∧ ix_R (xTT 6 xs) (ix_run (xTT 6 xs) 14 8) xm_law N (764, xLS, [], xhp0) (some (.int 1), hp) ∧ hp.1 ≤ 600000 ∧ hp.2.1 ≤ 7302250 :=
  ⟨25, _, Nat.le_of_ble_eq_true rfl, (ix_R.step 6 (iy_n_ok (iy_run_ok _ _ _) rfl) (ix_R.step 1 (ix_n_call (Or.inl ⟨_, rfl⟩) rfl (ix_cal_v rfl (Or.inl rfl) rfl rfl rfl ⟨rfl, Nat.le_of_ble_eq_true rfl, Nat.le_of_ble_eq_true rfl⟩ (ix_R.run (N := 6) rfl (Nat.le_of_ble_eq_true rfl) (ix_R.step 2 (iy_n_ok (iy_run_ok _ _ _) rfl) (ix_R.step 1 (ix_n_call (Or.inl ⟨_, rfl⟩) rfl (ix_cal_v rfl (Or.inl rfl) rfl rfl rfl ⟨rfl, Nat.le_of_ble_eq_true rfl, Nat.le_of_ble_eq_true rfl⟩ (ix_R.run (N := 7) rfl (Nat.le_of_ble_eq_true rfl) (ix_R.step 1 (iy_n_ok (iy_run_ok _ _ _) rfl) (ix_R.step 1 (ix_n_iff rfl rfl (cbf_lt (x := xs 1) (y := 0) (by have e9 : (0 : Int32).toInt = 0 := rfl; omega))) (ix_R.step 2 (iy_n_ok (iy_run_ok _ _ _) rfl) (ix_R.step 1 (ix_n_icmpt rfl rfl (cbt_ge (x := xs 1) (y := 24) (by have e9 : (24 : Int32).toInt = 24 := rfl; omega))) (ix_R.fin 2 (iy_n_ok (iy_run_ok _ _ _) rfl)))))) (Nat.le_of_ble_eq_true rfl)))) (ix_R.fin 3 (iy_n_ok (iy_run_ok _ _ _) rfl)))) (Nat.le_of_ble_eq_true rfl)))) (ix_R.step 6 (iy_n_ok (iy_run_ok _ _ _) rfl) (ix_R.step 1 (ix_n_call (Or.inl ⟨_, rfl⟩) rfl (ix_cal_v rfl (Or.inl rfl) rfl rfl rfl ⟨rfl, Nat.le_of_ble_eq_true rfl, Nat.le_of_ble_eq_true rfl⟩ (ix_R.run (N := 6) rfl (Nat.le_of_ble_eq_true rfl) (ix_R.step 2 (iy_n_ok (iy_run_ok _ _ _) rfl) (ix_R.step 1 (ix_n_call (Or.inl ⟨_, rfl⟩) rfl (ix_cal_v rfl (Or.inl rfl) rfl rfl rfl ⟨rfl, Nat.le_of_ble_eq_true rfl, Nat.le_of_ble_eq_true rfl⟩ (ix_R.run (N := 5) rfl (Nat.le_of_ble_eq_true rfl) (ix_R.step 1 (iy_n_ok (iy_run_ok _ _ _) rfl) (ix_R.step 1 (ix_n_call (Or.inr (Or.inr ⟨_, rfl⟩)) rfl (ix_cal_s rfl (Or.inl rfl) ⟨Nat.le_of_ble_eq_true rfl, Nat.le_of_ble_eq_true rfl⟩ (ix_R.run (N := 6) rfl (Nat.le_of_ble_eq_true rfl) (ix_R.step 4 (iy_n_ok (iy_run_ok _ _ _) rfl) (ix_R.step 1 (ix_n_call (Or.inr (Or.inr ⟨_, rfl⟩)) rfl (ix_cal_s rfl (Or.inl rfl) ⟨Nat.le_of_ble_eq_true rfl, Nat.le_of_ble_eq_true rfl⟩ (ix_R.run (N := 10) rfl (Nat.le_of_ble_eq_true rfl) (ix_R.step 3 (iy_n_ok (iy_run_ok _ _ _) rfl) (ix_R.step 1 (ix_n_iff rfl rfl (clf_lt (x := (xs 1).toInt64) (y := 0) (by rw [Int32.toInt_toInt64]; have e9 : (0 : Int64).toInt = 0 := rfl; omega))) (ix_R.step 3 (iy_n_ok (iy_run_ok _ _ _) rfl) (ix_R.step 1 (ix_n_ift rfl rfl (clt_gt (x := (xs 1).toInt64) (y := 23) (by rw [Int32.toInt_toInt64]; have e9 : (23 : Int64).toInt = 23 := rfl; omega))) (ix_R.fin 2 (iy_n_ok (iy_run_ok _ _ _) rfl)))))) (Nat.le_of_ble_eq_true rfl)))) (ix_R.fin 1 (iy_n_ok (iy_run_ok _ _ _) rfl)))) (Nat.le_of_ble_eq_true rfl)))) (ix_R.fin 3 (iy_n_ok (iy_run_ok _ _ _) rfl)))) (Nat.le_of_ble_eq_true rfl)))) (ix_R.fin 3 (iy_n_ok (iy_run_ok _ _ _) rfl)))) (Nat.le_of_ble_eq_true rfl)))) (ix_R.fin 11 (iy_n_ok (iy_run_ok _ _ _) rfl)))))), Nat.le_of_ble_eq_true rfl, Nat.le_of_ble_eq_true rfl⟩
set_option maxRecDepth 1000000 in
set_option maxHeartbeats 8000000 in
theorem xo_18_k0 (xs : Nat → Int32) : ∃ (N : Nat) (hp : ix_H), N ≤ 2 ^ 15 ∧ ix_R (xTT 6 (va_up xs 1 0)) (ix_run (xTT 6 (va_up xs 1 0)) 14 8) xm_law N (764, xLS, [], xhp0) (some (.int 1), hp) ∧ hp.1 ≤ 600000 ∧ hp.2.1 ≤ 7302250 :=
  ⟨25, _, Nat.le_of_ble_eq_true rfl, (ix_R.fin 25 (iy_n_ok (iy_run_ok _ _ _) rfl)), Nat.le_of_ble_eq_true rfl, Nat.le_of_ble_eq_true rfl⟩
set_option maxRecDepth 1000000 in
set_option maxHeartbeats 8000000 in
theorem xo_18_k1 (xs : Nat → Int32) : ∃ (N : Nat) (hp : ix_H), N ≤ 2 ^ 15 ∧ ix_R (xTT 6 (va_up xs 1 1)) (ix_run (xTT 6 (va_up xs 1 1)) 14 8) xm_law N (764, xLS, [], xhp0) (some (.int 1), hp) ∧ hp.1 ≤ 600000 ∧ hp.2.1 ≤ 7302250 :=
  ⟨25, _, Nat.le_of_ble_eq_true rfl, (ix_R.fin 25 (iy_n_ok (iy_run_ok _ _ _) rfl)), Nat.le_of_ble_eq_true rfl, Nat.le_of_ble_eq_true rfl⟩
set_option maxRecDepth 1000000 in
set_option maxHeartbeats 8000000 in
theorem xo_18_k2 (xs : Nat → Int32) : ∃ (N : Nat) (hp : ix_H), N ≤ 2 ^ 15 ∧ ix_R (xTT 6 (va_up xs 1 2)) (ix_run (xTT 6 (va_up xs 1 2)) 14 8) xm_law N (764, xLS, [], xhp0) (some (.int 1), hp) ∧ hp.1 ≤ 600000 ∧ hp.2.1 ≤ 7302250 :=
  ⟨25, _, Nat.le_of_ble_eq_true rfl, (ix_R.fin 25 (iy_n_ok (iy_run_ok _ _ _) rfl)), Nat.le_of_ble_eq_true rfl, Nat.le_of_ble_eq_true rfl⟩
set_option maxRecDepth 1000000 in
set_option maxHeartbeats 8000000 in
theorem xo_18_k3 (xs : Nat → Int32) : ∃ (N : Nat) (hp : ix_H), N ≤ 2 ^ 15 ∧ ix_R (xTT 6 (va_up xs 1 3)) (ix_run (xTT 6 (va_up xs 1 3)) 14 8) xm_law N (764, xLS, [], xhp0) (some (.int 1), hp) ∧ hp.1 ≤ 600000 ∧ hp.2.1 ≤ 7302250 :=
  ⟨25, _, Nat.le_of_ble_eq_true rfl, (ix_R.fin 25 (iy_n_ok (iy_run_ok _ _ _) rfl)), Nat.le_of_ble_eq_true rfl, Nat.le_of_ble_eq_true rfl⟩
set_option maxRecDepth 1000000 in
set_option maxHeartbeats 8000000 in
theorem xo_18_k4 (xs : Nat → Int32) : ∃ (N : Nat) (hp : ix_H), N ≤ 2 ^ 15 ∧ ix_R (xTT 6 (va_up xs 1 4)) (ix_run (xTT 6 (va_up xs 1 4)) 14 8) xm_law N (764, xLS, [], xhp0) (some (.int 1), hp) ∧ hp.1 ≤ 600000 ∧ hp.2.1 ≤ 7302250 :=
  ⟨25, _, Nat.le_of_ble_eq_true rfl, (ix_R.fin 25 (iy_n_ok (iy_run_ok _ _ _) rfl)), Nat.le_of_ble_eq_true rfl, Nat.le_of_ble_eq_true rfl⟩
set_option maxRecDepth 1000000 in
set_option maxHeartbeats 8000000 in
theorem xo_18_k5 (xs : Nat → Int32) : ∃ (N : Nat) (hp : ix_H), N ≤ 2 ^ 15 ∧ ix_R (xTT 6 (va_up xs 1 5)) (ix_run (xTT 6 (va_up xs 1 5)) 14 8) xm_law N (764, xLS, [], xhp0) (some (.int 1), hp) ∧ hp.1 ≤ 600000 ∧ hp.2.1 ≤ 7302250 :=
  ⟨25, _, Nat.le_of_ble_eq_true rfl, (ix_R.fin 25 (iy_n_ok (iy_run_ok _ _ _) rfl)), Nat.le_of_ble_eq_true rfl, Nat.le_of_ble_eq_true rfl⟩
set_option maxRecDepth 1000000 in
set_option maxHeartbeats 8000000 in
theorem xo_18_k6 (xs : Nat → Int32) : ∃ (N : Nat) (hp : ix_H), N ≤ 2 ^ 15 ∧ ix_R (xTT 6 (va_up xs 1 6)) (ix_run (xTT 6 (va_up xs 1 6)) 14 8) xm_law N (764, xLS, [], xhp0) (some (.int 1), hp) ∧ hp.1 ≤ 600000 ∧ hp.2.1 ≤ 7302250 :=
  ⟨25, _, Nat.le_of_ble_eq_true rfl, (ix_R.fin 25 (iy_n_ok (iy_run_ok _ _ _) rfl)), Nat.le_of_ble_eq_true rfl, Nat.le_of_ble_eq_true rfl⟩
set_option maxRecDepth 1000000 in
set_option maxHeartbeats 8000000 in
theorem xo_18_k7 (xs : Nat → Int32) : ∃ (N : Nat) (hp : ix_H), N ≤ 2 ^ 15 ∧ ix_R (xTT 6 (va_up xs 1 7)) (ix_run (xTT 6 (va_up xs 1 7)) 14 8) xm_law N (764, xLS, [], xhp0) (some (.int 1), hp) ∧ hp.1 ≤ 600000 ∧ hp.2.1 ≤ 7302250 :=
  ⟨25, _, Nat.le_of_ble_eq_true rfl, (ix_R.fin 25 (iy_n_ok (iy_run_ok _ _ _) rfl)), Nat.le_of_ble_eq_true rfl, Nat.le_of_ble_eq_true rfl⟩
set_option maxRecDepth 1000000 in
set_option maxHeartbeats 8000000 in
theorem xo_18_k8 (xs : Nat → Int32) : ∃ (N : Nat) (hp : ix_H), N ≤ 2 ^ 15 ∧ ix_R (xTT 6 (va_up xs 1 8)) (ix_run (xTT 6 (va_up xs 1 8)) 14 8) xm_law N (764, xLS, [], xhp0) (some (.int 1), hp) ∧ hp.1 ≤ 600000 ∧ hp.2.1 ≤ 7302250 :=
  ⟨25, _, Nat.le_of_ble_eq_true rfl, (ix_R.fin 25 (iy_n_ok (iy_run_ok _ _ _) rfl)), Nat.le_of_ble_eq_true rfl, Nat.le_of_ble_eq_true rfl⟩
set_option maxRecDepth 1000000 in
set_option maxHeartbeats 8000000 in
theorem xo_18_k9 (xs : Nat → Int32) : ∃ (N : Nat) (hp : ix_H), N ≤ 2 ^ 15 ∧ ix_R (xTT 6 (va_up xs 1 9)) (ix_run (xTT 6 (va_up xs 1 9)) 14 8) xm_law N (764, xLS, [], xhp0) (some (.int 1), hp) ∧ hp.1 ≤ 600000 ∧ hp.2.1 ≤ 7302250 :=
  ⟨25, _, Nat.le_of_ble_eq_true rfl, (ix_R.fin 25 (iy_n_ok (iy_run_ok _ _ _) rfl)), Nat.le_of_ble_eq_true rfl, Nat.le_of_ble_eq_true rfl⟩
set_option maxRecDepth 1000000 in
set_option maxHeartbeats 8000000 in
theorem xo_18_k10 (xs : Nat → Int32) : ∃ (N : Nat) (hp : ix_H), N ≤ 2 ^ 15 ∧ ix_R (xTT 6 (va_up xs 1 10)) (ix_run (xTT 6 (va_up xs 1 10)) 14 8) xm_law N (764, xLS, [], xhp0) (some (.int 1), hp) ∧ hp.1 ≤ 600000 ∧ hp.2.1 ≤ 7302250 :=
  ⟨25, _, Nat.le_of_ble_eq_true rfl, (ix_R.fin 25 (iy_n_ok (iy_run_ok _ _ _) rfl)), Nat.le_of_ble_eq_true rfl, Nat.le_of_ble_eq_true rfl⟩
set_option maxRecDepth 1000000 in
set_option maxHeartbeats 8000000 in
theorem xo_18_k11 (xs : Nat → Int32) : ∃ (N : Nat) (hp : ix_H), N ≤ 2 ^ 15 ∧ ix_R (xTT 6 (va_up xs 1 11)) (ix_run (xTT 6 (va_up xs 1 11)) 14 8) xm_law N (764, xLS, [], xhp0) (some (.int 1), hp) ∧ hp.1 ≤ 600000 ∧ hp.2.1 ≤ 7302250 :=
  ⟨25, _, Nat.le_of_ble_eq_true rfl, (ix_R.fin 25 (iy_n_ok (iy_run_ok _ _ _) rfl)), Nat.le_of_ble_eq_true rfl, Nat.le_of_ble_eq_true rfl⟩
set_option maxRecDepth 1000000 in
set_option maxHeartbeats 8000000 in
theorem xo_18_k12 (xs : Nat → Int32) : ∃ (N : Nat) (hp : ix_H), N ≤ 2 ^ 15 ∧ ix_R (xTT 6 (va_up xs 1 12)) (ix_run (xTT 6 (va_up xs 1 12)) 14 8) xm_law N (764, xLS, [], xhp0) (some (.int 1), hp) ∧ hp.1 ≤ 600000 ∧ hp.2.1 ≤ 7302250 :=
  ⟨25, _, Nat.le_of_ble_eq_true rfl, (ix_R.fin 25 (iy_n_ok (iy_run_ok _ _ _) rfl)), Nat.le_of_ble_eq_true rfl, Nat.le_of_ble_eq_true rfl⟩
set_option maxRecDepth 1000000 in
set_option maxHeartbeats 8000000 in
theorem xo_18_k13 (xs : Nat → Int32) : ∃ (N : Nat) (hp : ix_H), N ≤ 2 ^ 15 ∧ ix_R (xTT 6 (va_up xs 1 13)) (ix_run (xTT 6 (va_up xs 1 13)) 14 8) xm_law N (764, xLS, [], xhp0) (some (.int 1), hp) ∧ hp.1 ≤ 600000 ∧ hp.2.1 ≤ 7302250 :=
  ⟨25, _, Nat.le_of_ble_eq_true rfl, (ix_R.fin 25 (iy_n_ok (iy_run_ok _ _ _) rfl)), Nat.le_of_ble_eq_true rfl, Nat.le_of_ble_eq_true rfl⟩
set_option maxRecDepth 1000000 in
set_option maxHeartbeats 8000000 in
theorem xo_18_k14 (xs : Nat → Int32) : ∃ (N : Nat) (hp : ix_H), N ≤ 2 ^ 15 ∧ ix_R (xTT 6 (va_up xs 1 14)) (ix_run (xTT 6 (va_up xs 1 14)) 14 8) xm_law N (764, xLS, [], xhp0) (some (.int 1), hp) ∧ hp.1 ≤ 600000 ∧ hp.2.1 ≤ 7302250 :=
  ⟨25, _, Nat.le_of_ble_eq_true rfl, (ix_R.fin 25 (iy_n_ok (iy_run_ok _ _ _) rfl)), Nat.le_of_ble_eq_true rfl, Nat.le_of_ble_eq_true rfl⟩
set_option maxRecDepth 1000000 in
set_option maxHeartbeats 8000000 in
theorem xo_18_k15 (xs : Nat → Int32) : ∃ (N : Nat) (hp : ix_H), N ≤ 2 ^ 15 ∧ ix_R (xTT 6 (va_up xs 1 15)) (ix_run (xTT 6 (va_up xs 1 15)) 14 8) xm_law N (764, xLS, [], xhp0) (some (.int 1), hp) ∧ hp.1 ≤ 600000 ∧ hp.2.1 ≤ 7302250 :=
  ⟨25, _, Nat.le_of_ble_eq_true rfl, (ix_R.fin 25 (iy_n_ok (iy_run_ok _ _ _) rfl)), Nat.le_of_ble_eq_true rfl, Nat.le_of_ble_eq_true rfl⟩
set_option maxRecDepth 1000000 in
set_option maxHeartbeats 8000000 in
theorem xo_18_k16 (xs : Nat → Int32) : ∃ (N : Nat) (hp : ix_H), N ≤ 2 ^ 15 ∧ ix_R (xTT 6 (va_up xs 1 16)) (ix_run (xTT 6 (va_up xs 1 16)) 14 8) xm_law N (764, xLS, [], xhp0) (some (.int 1), hp) ∧ hp.1 ≤ 600000 ∧ hp.2.1 ≤ 7302250 :=
  ⟨25, _, Nat.le_of_ble_eq_true rfl, (ix_R.fin 25 (iy_n_ok (iy_run_ok _ _ _) rfl)), Nat.le_of_ble_eq_true rfl, Nat.le_of_ble_eq_true rfl⟩
set_option maxRecDepth 1000000 in
set_option maxHeartbeats 8000000 in
theorem xo_18_k17 (xs : Nat → Int32) : ∃ (N : Nat) (hp : ix_H), N ≤ 2 ^ 15 ∧ ix_R (xTT 6 (va_up xs 1 17)) (ix_run (xTT 6 (va_up xs 1 17)) 14 8) xm_law N (764, xLS, [], xhp0) (some (.int 1), hp) ∧ hp.1 ≤ 600000 ∧ hp.2.1 ≤ 7302250 :=
  ⟨25, _, Nat.le_of_ble_eq_true rfl, (ix_R.fin 25 (iy_n_ok (iy_run_ok _ _ _) rfl)), Nat.le_of_ble_eq_true rfl, Nat.le_of_ble_eq_true rfl⟩
set_option maxRecDepth 1000000 in
set_option maxHeartbeats 8000000 in
theorem xo_18_k18 (xs : Nat → Int32) : ∃ (N : Nat) (hp : ix_H), N ≤ 2 ^ 15 ∧ ix_R (xTT 6 (va_up xs 1 18)) (ix_run (xTT 6 (va_up xs 1 18)) 14 8) xm_law N (764, xLS, [], xhp0) (some (.int 1), hp) ∧ hp.1 ≤ 600000 ∧ hp.2.1 ≤ 7302250 :=
  ⟨25, _, Nat.le_of_ble_eq_true rfl, (ix_R.fin 25 (iy_n_ok (iy_run_ok _ _ _) rfl)), Nat.le_of_ble_eq_true rfl, Nat.le_of_ble_eq_true rfl⟩
set_option maxRecDepth 1000000 in
set_option maxHeartbeats 8000000 in
theorem xo_18_k19 (xs : Nat → Int32) : ∃ (N : Nat) (hp : ix_H), N ≤ 2 ^ 15 ∧ ix_R (xTT 6 (va_up xs 1 19)) (ix_run (xTT 6 (va_up xs 1 19)) 14 8) xm_law N (764, xLS, [], xhp0) (some (.int 1), hp) ∧ hp.1 ≤ 600000 ∧ hp.2.1 ≤ 7302250 :=
  ⟨25, _, Nat.le_of_ble_eq_true rfl, (ix_R.fin 25 (iy_n_ok (iy_run_ok _ _ _) rfl)), Nat.le_of_ble_eq_true rfl, Nat.le_of_ble_eq_true rfl⟩
set_option maxRecDepth 1000000 in
set_option maxHeartbeats 8000000 in
theorem xo_18_k20 (xs : Nat → Int32) : ∃ (N : Nat) (hp : ix_H), N ≤ 2 ^ 15 ∧ ix_R (xTT 6 (va_up xs 1 20)) (ix_run (xTT 6 (va_up xs 1 20)) 14 8) xm_law N (764, xLS, [], xhp0) (some (.int 1), hp) ∧ hp.1 ≤ 600000 ∧ hp.2.1 ≤ 7302250 :=
  ⟨25, _, Nat.le_of_ble_eq_true rfl, (ix_R.fin 25 (iy_n_ok (iy_run_ok _ _ _) rfl)), Nat.le_of_ble_eq_true rfl, Nat.le_of_ble_eq_true rfl⟩
set_option maxRecDepth 1000000 in
set_option maxHeartbeats 8000000 in
theorem xo_18_k21 (xs : Nat → Int32) : ∃ (N : Nat) (hp : ix_H), N ≤ 2 ^ 15 ∧ ix_R (xTT 6 (va_up xs 1 21)) (ix_run (xTT 6 (va_up xs 1 21)) 14 8) xm_law N (764, xLS, [], xhp0) (some (.int 1), hp) ∧ hp.1 ≤ 600000 ∧ hp.2.1 ≤ 7302250 :=
  ⟨25, _, Nat.le_of_ble_eq_true rfl, (ix_R.fin 25 (iy_n_ok (iy_run_ok _ _ _) rfl)), Nat.le_of_ble_eq_true rfl, Nat.le_of_ble_eq_true rfl⟩
set_option maxRecDepth 1000000 in
set_option maxHeartbeats 8000000 in
theorem xo_18_k22 (xs : Nat → Int32) : ∃ (N : Nat) (hp : ix_H), N ≤ 2 ^ 15 ∧ ix_R (xTT 6 (va_up xs 1 22)) (ix_run (xTT 6 (va_up xs 1 22)) 14 8) xm_law N (764, xLS, [], xhp0) (some (.int 1), hp) ∧ hp.1 ≤ 600000 ∧ hp.2.1 ≤ 7302250 :=
  ⟨25, _, Nat.le_of_ble_eq_true rfl, (ix_R.fin 25 (iy_n_ok (iy_run_ok _ _ _) rfl)), Nat.le_of_ble_eq_true rfl, Nat.le_of_ble_eq_true rfl⟩
set_option maxRecDepth 1000000 in
set_option maxHeartbeats 8000000 in
theorem xo_18_k23 (xs : Nat → Int32) : ∃ (N : Nat) (hp : ix_H), N ≤ 2 ^ 15 ∧ ix_R (xTT 6 (va_up xs 1 23)) (ix_run (xTT 6 (va_up xs 1 23)) 14 8) xm_law N (764, xLS, [], xhp0) (some (.int 1), hp) ∧ hp.1 ≤ 600000 ∧ hp.2.1 ≤ 7302250 :=
  ⟨25, _, Nat.le_of_ble_eq_true rfl, (ix_R.fin 25 (iy_n_ok (iy_run_ok _ _ _) rfl)), Nat.le_of_ble_eq_true rfl, Nat.le_of_ble_eq_true rfl⟩
set_option maxRecDepth 1000000 in
set_option maxHeartbeats 8000000 in
theorem xo_19_neg (xs : Nat → Int32) (h1 : -2147483648 ≤ (xs 1).toInt ∧ (xs 1).toInt ≤ -1) : ∃ (N : Nat) (hp : ix_H), N ≤ 2 ^ 15 ∧ ix_R (xTT 6 xs) (ix_run (xTT 6 xs) 14 8) xm_law N (787, xLS, [], xhp0) (some (.int 1), hp) ∧ hp.1 ≤ 600000 ∧ hp.2.1 ≤ 7302250 :=
  ⟨35, _, Nat.le_of_ble_eq_true rfl, (ix_R.step 11 (iy_n_ok (iy_run_ok _ _ _) rfl) (ix_R.step 1 (ix_n_call (Or.inl ⟨_, rfl⟩) rfl (ix_cal_v rfl (Or.inl rfl) rfl rfl rfl ⟨rfl, Nat.le_of_ble_eq_true rfl, Nat.le_of_ble_eq_true rfl⟩ (ix_R.run (N := 7) rfl (Nat.le_of_ble_eq_true rfl) (ix_R.step 3 (iy_n_ok (iy_run_ok _ _ _) rfl) (ix_R.step 1 (ix_n_call (Or.inl ⟨_, rfl⟩) rfl (ix_cal_v rfl (Or.inl rfl) rfl rfl rfl ⟨rfl, Nat.le_of_ble_eq_true rfl, Nat.le_of_ble_eq_true rfl⟩ (ix_R.run (N := 4) rfl (Nat.le_of_ble_eq_true rfl) (ix_R.step 1 (iy_n_ok (iy_run_ok _ _ _) rfl) (ix_R.step 1 (ix_n_ift rfl rfl (cbt_lt (x := xs 1) (y := 0) (by have e9 : (0 : Int32).toInt = 0 := rfl; omega))) (ix_R.fin 2 (iy_n_ok (iy_run_ok _ _ _) rfl)))) (Nat.le_of_ble_eq_true rfl)))) (ix_R.fin 3 (iy_n_ok (iy_run_ok _ _ _) rfl)))) (Nat.le_of_ble_eq_true rfl)))) (ix_R.step 11 (iy_n_ok (iy_run_ok _ _ _) rfl) (ix_R.step 1 (ix_n_call (Or.inl ⟨_, rfl⟩) rfl (ix_cal_v rfl (Or.inl rfl) rfl rfl rfl ⟨rfl, Nat.le_of_ble_eq_true rfl, Nat.le_of_ble_eq_true rfl⟩ (ix_R.run (N := 6) rfl (Nat.le_of_ble_eq_true rfl) (ix_R.step 2 (iy_n_ok (iy_run_ok _ _ _) rfl) (ix_R.step 1 (ix_n_call (Or.inl ⟨_, rfl⟩) rfl (ix_cal_v rfl (Or.inl rfl) rfl rfl rfl ⟨rfl, Nat.le_of_ble_eq_true rfl, Nat.le_of_ble_eq_true rfl⟩ (ix_R.run (N := 8) rfl (Nat.le_of_ble_eq_true rfl) (ix_R.step 4 (iy_n_ok (iy_run_ok _ _ _) rfl) (ix_R.step 1 (ix_n_call (Or.inr (Or.inr ⟨_, rfl⟩)) rfl (ix_cal_s rfl (Or.inl rfl) ⟨Nat.le_of_ble_eq_true rfl, Nat.le_of_ble_eq_true rfl⟩ (ix_R.run (N := 6) rfl (Nat.le_of_ble_eq_true rfl) (ix_R.step 3 (iy_n_ok (iy_run_ok _ _ _) rfl) (ix_R.step 1 (ix_n_ift rfl rfl (clt_lt (x := (xs 1).toInt64) (y := 0) (by rw [Int32.toInt_toInt64]; have e9 : (0 : Int64).toInt = 0 := rfl; omega))) (ix_R.fin 2 (iy_n_ok (iy_run_ok _ _ _) rfl)))) (Nat.le_of_ble_eq_true rfl)))) (ix_R.fin 3 (iy_n_ok (iy_run_ok _ _ _) rfl)))) (Nat.le_of_ble_eq_true rfl)))) (ix_R.fin 3 (iy_n_ok (iy_run_ok _ _ _) rfl)))) (Nat.le_of_ble_eq_true rfl)))) (ix_R.fin 11 (iy_n_ok (iy_run_ok _ _ _) rfl)))))), Nat.le_of_ble_eq_true rfl, Nat.le_of_ble_eq_true rfl⟩
set_option maxRecDepth 1000000 in
set_option maxHeartbeats 8000000 in
theorem xo_19_big (xs : Nat → Int32) (h1 : 24 ≤ (xs 1).toInt ∧ (xs 1).toInt ≤ 2147483647) : ∃ (N : Nat) (hp : ix_H), N ≤ 2 ^ 15 ∧ ix_R (xTT 6 xs) (ix_run (xTT 6 xs) 14 8) xm_law N (787, xLS, [], xhp0) (some (.int 1), hp) ∧ hp.1 ≤ 600000 ∧ hp.2.1 ≤ 7302250 :=
  ⟨35, _, Nat.le_of_ble_eq_true rfl, (ix_R.step 11 (iy_n_ok (iy_run_ok _ _ _) rfl) (ix_R.step 1 (ix_n_call (Or.inl ⟨_, rfl⟩) rfl (ix_cal_v rfl (Or.inl rfl) rfl rfl rfl ⟨rfl, Nat.le_of_ble_eq_true rfl, Nat.le_of_ble_eq_true rfl⟩ (ix_R.run (N := 7) rfl (Nat.le_of_ble_eq_true rfl) (ix_R.step 3 (iy_n_ok (iy_run_ok _ _ _) rfl) (ix_R.step 1 (ix_n_call (Or.inl ⟨_, rfl⟩) rfl (ix_cal_v rfl (Or.inl rfl) rfl rfl rfl ⟨rfl, Nat.le_of_ble_eq_true rfl, Nat.le_of_ble_eq_true rfl⟩ (ix_R.run (N := 7) rfl (Nat.le_of_ble_eq_true rfl) (ix_R.step 1 (iy_n_ok (iy_run_ok _ _ _) rfl) (ix_R.step 1 (ix_n_iff rfl rfl (cbf_lt (x := xs 1) (y := 0) (by have e9 : (0 : Int32).toInt = 0 := rfl; omega))) (ix_R.step 2 (iy_n_ok (iy_run_ok _ _ _) rfl) (ix_R.step 1 (ix_n_icmpt rfl rfl (cbt_ge (x := xs 1) (y := 24) (by have e9 : (24 : Int32).toInt = 24 := rfl; omega))) (ix_R.fin 2 (iy_n_ok (iy_run_ok _ _ _) rfl)))))) (Nat.le_of_ble_eq_true rfl)))) (ix_R.fin 3 (iy_n_ok (iy_run_ok _ _ _) rfl)))) (Nat.le_of_ble_eq_true rfl)))) (ix_R.step 11 (iy_n_ok (iy_run_ok _ _ _) rfl) (ix_R.step 1 (ix_n_call (Or.inl ⟨_, rfl⟩) rfl (ix_cal_v rfl (Or.inl rfl) rfl rfl rfl ⟨rfl, Nat.le_of_ble_eq_true rfl, Nat.le_of_ble_eq_true rfl⟩ (ix_R.run (N := 6) rfl (Nat.le_of_ble_eq_true rfl) (ix_R.step 2 (iy_n_ok (iy_run_ok _ _ _) rfl) (ix_R.step 1 (ix_n_call (Or.inl ⟨_, rfl⟩) rfl (ix_cal_v rfl (Or.inl rfl) rfl rfl rfl ⟨rfl, Nat.le_of_ble_eq_true rfl, Nat.le_of_ble_eq_true rfl⟩ (ix_R.run (N := 8) rfl (Nat.le_of_ble_eq_true rfl) (ix_R.step 4 (iy_n_ok (iy_run_ok _ _ _) rfl) (ix_R.step 1 (ix_n_call (Or.inr (Or.inr ⟨_, rfl⟩)) rfl (ix_cal_s rfl (Or.inl rfl) ⟨Nat.le_of_ble_eq_true rfl, Nat.le_of_ble_eq_true rfl⟩ (ix_R.run (N := 10) rfl (Nat.le_of_ble_eq_true rfl) (ix_R.step 3 (iy_n_ok (iy_run_ok _ _ _) rfl) (ix_R.step 1 (ix_n_iff rfl rfl (clf_lt (x := (xs 1).toInt64) (y := 0) (by rw [Int32.toInt_toInt64]; have e9 : (0 : Int64).toInt = 0 := rfl; omega))) (ix_R.step 3 (iy_n_ok (iy_run_ok _ _ _) rfl) (ix_R.step 1 (ix_n_ift rfl rfl (clt_gt (x := (xs 1).toInt64) (y := 23) (by rw [Int32.toInt_toInt64]; have e9 : (23 : Int64).toInt = 23 := rfl; omega))) (ix_R.fin 2 (iy_n_ok (iy_run_ok _ _ _) rfl)))))) (Nat.le_of_ble_eq_true rfl)))) (ix_R.fin 3 (iy_n_ok (iy_run_ok _ _ _) rfl)))) (Nat.le_of_ble_eq_true rfl)))) (ix_R.fin 3 (iy_n_ok (iy_run_ok _ _ _) rfl)))) (Nat.le_of_ble_eq_true rfl)))) (ix_R.fin 11 (iy_n_ok (iy_run_ok _ _ _) rfl)))))), Nat.le_of_ble_eq_true rfl, Nat.le_of_ble_eq_true rfl⟩
set_option maxRecDepth 1000000 in
set_option maxHeartbeats 8000000 in
theorem xo_19_k0 (xs : Nat → Int32) : ∃ (N : Nat) (hp : ix_H), N ≤ 2 ^ 15 ∧ ix_R (xTT 6 (va_up xs 1 0)) (ix_run (xTT 6 (va_up xs 1 0)) 14 8) xm_law N (787, xLS, [], xhp0) (some (.int 1), hp) ∧ hp.1 ≤ 600000 ∧ hp.2.1 ≤ 7302250 :=
  ⟨35, _, Nat.le_of_ble_eq_true rfl, (ix_R.fin 35 (iy_n_ok (iy_run_ok _ _ _) rfl)), Nat.le_of_ble_eq_true rfl, Nat.le_of_ble_eq_true rfl⟩
set_option maxRecDepth 1000000 in
set_option maxHeartbeats 8000000 in
theorem xo_19_k1 (xs : Nat → Int32) : ∃ (N : Nat) (hp : ix_H), N ≤ 2 ^ 15 ∧ ix_R (xTT 6 (va_up xs 1 1)) (ix_run (xTT 6 (va_up xs 1 1)) 14 8) xm_law N (787, xLS, [], xhp0) (some (.int 1), hp) ∧ hp.1 ≤ 600000 ∧ hp.2.1 ≤ 7302250 :=
  ⟨35, _, Nat.le_of_ble_eq_true rfl, (ix_R.fin 35 (iy_n_ok (iy_run_ok _ _ _) rfl)), Nat.le_of_ble_eq_true rfl, Nat.le_of_ble_eq_true rfl⟩
set_option maxRecDepth 1000000 in
set_option maxHeartbeats 8000000 in
theorem xo_19_k2 (xs : Nat → Int32) : ∃ (N : Nat) (hp : ix_H), N ≤ 2 ^ 15 ∧ ix_R (xTT 6 (va_up xs 1 2)) (ix_run (xTT 6 (va_up xs 1 2)) 14 8) xm_law N (787, xLS, [], xhp0) (some (.int 1), hp) ∧ hp.1 ≤ 600000 ∧ hp.2.1 ≤ 7302250 :=
  ⟨35, _, Nat.le_of_ble_eq_true rfl, (ix_R.fin 35 (iy_n_ok (iy_run_ok _ _ _) rfl)), Nat.le_of_ble_eq_true rfl, Nat.le_of_ble_eq_true rfl⟩
set_option maxRecDepth 1000000 in
set_option maxHeartbeats 8000000 in
theorem xo_19_k3 (xs : Nat → Int32) : ∃ (N : Nat) (hp : ix_H), N ≤ 2 ^ 15 ∧ ix_R (xTT 6 (va_up xs 1 3)) (ix_run (xTT 6 (va_up xs 1 3)) 14 8) xm_law N (787, xLS, [], xhp0) (some (.int 1), hp) ∧ hp.1 ≤ 600000 ∧ hp.2.1 ≤ 7302250 :=
  ⟨35, _, Nat.le_of_ble_eq_true rfl, (ix_R.fin 35 (iy_n_ok (iy_run_ok _ _ _) rfl)), Nat.le_of_ble_eq_true rfl, Nat.le_of_ble_eq_true rfl⟩
set_option maxRecDepth 1000000 in
set_option maxHeartbeats 8000000 in
theorem xo_19_k4 (xs : Nat → Int32) : ∃ (N : Nat) (hp : ix_H), N ≤ 2 ^ 15 ∧ ix_R (xTT 6 (va_up xs 1 4)) (ix_run (xTT 6 (va_up xs 1 4)) 14 8) xm_law N (787, xLS, [], xhp0) (some (.int 1), hp) ∧ hp.1 ≤ 600000 ∧ hp.2.1 ≤ 7302250 :=
  ⟨35, _, Nat.le_of_ble_eq_true rfl, (ix_R.fin 35 (iy_n_ok (iy_run_ok _ _ _) rfl)), Nat.le_of_ble_eq_true rfl, Nat.le_of_ble_eq_true rfl⟩
set_option maxRecDepth 1000000 in
set_option maxHeartbeats 8000000 in
theorem xo_19_k5 (xs : Nat → Int32) : ∃ (N : Nat) (hp : ix_H), N ≤ 2 ^ 15 ∧ ix_R (xTT 6 (va_up xs 1 5)) (ix_run (xTT 6 (va_up xs 1 5)) 14 8) xm_law N (787, xLS, [], xhp0) (some (.int 1), hp) ∧ hp.1 ≤ 600000 ∧ hp.2.1 ≤ 7302250 :=
  ⟨35, _, Nat.le_of_ble_eq_true rfl, (ix_R.fin 35 (iy_n_ok (iy_run_ok _ _ _) rfl)), Nat.le_of_ble_eq_true rfl, Nat.le_of_ble_eq_true rfl⟩
set_option maxRecDepth 1000000 in
set_option maxHeartbeats 8000000 in
theorem xo_19_k6 (xs : Nat → Int32) : ∃ (N : Nat) (hp : ix_H), N ≤ 2 ^ 15 ∧ ix_R (xTT 6 (va_up xs 1 6)) (ix_run (xTT 6 (va_up xs 1 6)) 14 8) xm_law N (787, xLS, [], xhp0) (some (.int 1), hp) ∧ hp.1 ≤ 600000 ∧ hp.2.1 ≤ 7302250 :=
  ⟨35, _, Nat.le_of_ble_eq_true rfl, (ix_R.fin 35 (iy_n_ok (iy_run_ok _ _ _) rfl)), Nat.le_of_ble_eq_true rfl, Nat.le_of_ble_eq_true rfl⟩
set_option maxRecDepth 1000000 in
set_option maxHeartbeats 8000000 in
theorem xo_19_k7 (xs : Nat → Int32) : ∃ (N : Nat) (hp : ix_H), N ≤ 2 ^ 15 ∧ ix_R (xTT 6 (va_up xs 1 7)) (ix_run (xTT 6 (va_up xs 1 7)) 14 8) xm_law N (787, xLS, [], xhp0) (some (.int 1), hp) ∧ hp.1 ≤ 600000 ∧ hp.2.1 ≤ 7302250 :=
  ⟨35, _, Nat.le_of_ble_eq_true rfl, (ix_R.fin 35 (iy_n_ok (iy_run_ok _ _ _) rfl)), Nat.le_of_ble_eq_true rfl, Nat.le_of_ble_eq_true rfl⟩
set_option maxRecDepth 1000000 in
set_option maxHeartbeats 8000000 in
theorem xo_19_k8 (xs : Nat → Int32) : ∃ (N : Nat) (hp : ix_H), N ≤ 2 ^ 15 ∧ ix_R (xTT 6 (va_up xs 1 8)) (ix_run (xTT 6 (va_up xs 1 8)) 14 8) xm_law N (787, xLS, [], xhp0) (some (.int 1), hp) ∧ hp.1 ≤ 600000 ∧ hp.2.1 ≤ 7302250 :=
  ⟨35, _, Nat.le_of_ble_eq_true rfl, (ix_R.fin 35 (iy_n_ok (iy_run_ok _ _ _) rfl)), Nat.le_of_ble_eq_true rfl, Nat.le_of_ble_eq_true rfl⟩
set_option maxRecDepth 1000000 in
set_option maxHeartbeats 8000000 in
theorem xo_19_k9 (xs : Nat → Int32) : ∃ (N : Nat) (hp : ix_H), N ≤ 2 ^ 15 ∧ ix_R (xTT 6 (va_up xs 1 9)) (ix_run (xTT 6 (va_up xs 1 9)) 14 8) xm_law N (787, xLS, [], xhp0) (some (.int 1), hp) ∧ hp.1 ≤ 600000 ∧ hp.2.1 ≤ 7302250 :=
  ⟨35, _, Nat.le_of_ble_eq_true rfl, (ix_R.fin 35 (iy_n_ok (iy_run_ok _ _ _) rfl)), Nat.le_of_ble_eq_true rfl, Nat.le_of_ble_eq_true rfl⟩
set_option maxRecDepth 1000000 in
set_option maxHeartbeats 8000000 in
theorem xo_19_k10 (xs : Nat → Int32) : ∃ (N : Nat) (hp : ix_H), N ≤ 2 ^ 15 ∧ ix_R (xTT 6 (va_up xs 1 10)) (ix_run (xTT 6 (va_up xs 1 10)) 14 8) xm_law N (787, xLS, [], xhp0) (some (.int 1), hp) ∧ hp.1 ≤ 600000 ∧ hp.2.1 ≤ 7302250 :=
  ⟨35, _, Nat.le_of_ble_eq_true rfl, (ix_R.fin 35 (iy_n_ok (iy_run_ok _ _ _) rfl)), Nat.le_of_ble_eq_true rfl, Nat.le_of_ble_eq_true rfl⟩
set_option maxRecDepth 1000000 in
set_option maxHeartbeats 8000000 in
theorem xo_19_k11 (xs : Nat → Int32) : ∃ (N : Nat) (hp : ix_H), N ≤ 2 ^ 15 ∧ ix_R (xTT 6 (va_up xs 1 11)) (ix_run (xTT 6 (va_up xs 1 11)) 14 8) xm_law N (787, xLS, [], xhp0) (some (.int 1), hp) ∧ hp.1 ≤ 600000 ∧ hp.2.1 ≤ 7302250 :=
  ⟨35, _, Nat.le_of_ble_eq_true rfl, (ix_R.fin 35 (iy_n_ok (iy_run_ok _ _ _) rfl)), Nat.le_of_ble_eq_true rfl, Nat.le_of_ble_eq_true rfl⟩
set_option maxRecDepth 1000000 in
set_option maxHeartbeats 8000000 in
theorem xo_19_k12 (xs : Nat → Int32) : ∃ (N : Nat) (hp : ix_H), N ≤ 2 ^ 15 ∧ ix_R (xTT 6 (va_up xs 1 12)) (ix_run (xTT 6 (va_up xs 1 12)) 14 8) xm_law N (787, xLS, [], xhp0) (some (.int 1), hp) ∧ hp.1 ≤ 600000 ∧ hp.2.1 ≤ 7302250 :=
  ⟨35, _, Nat.le_of_ble_eq_true rfl, (ix_R.fin 35 (iy_n_ok (iy_run_ok _ _ _) rfl)), Nat.le_of_ble_eq_true rfl, Nat.le_of_ble_eq_true rfl⟩
set_option maxRecDepth 1000000 in
set_option maxHeartbeats 8000000 in
theorem xo_19_k13 (xs : Nat → Int32) : ∃ (N : Nat) (hp : ix_H), N ≤ 2 ^ 15 ∧ ix_R (xTT 6 (va_up xs 1 13)) (ix_run (xTT 6 (va_up xs 1 13)) 14 8) xm_law N (787, xLS, [], xhp0) (some (.int 1), hp) ∧ hp.1 ≤ 600000 ∧ hp.2.1 ≤ 7302250 :=
  ⟨35, _, Nat.le_of_ble_eq_true rfl, (ix_R.fin 35 (iy_n_ok (iy_run_ok _ _ _) rfl)), Nat.le_of_ble_eq_true rfl, Nat.le_of_ble_eq_true rfl⟩
set_option maxRecDepth 1000000 in
set_option maxHeartbeats 8000000 in
theorem xo_19_k14 (xs : Nat → Int32) : ∃ (N : Nat) (hp : ix_H), N ≤ 2 ^ 15 ∧ ix_R (xTT 6 (va_up xs 1 14)) (ix_run (xTT 6 (va_up xs 1 14)) 14 8) xm_law N (787, xLS, [], xhp0) (some (.int 1), hp) ∧ hp.1 ≤ 600000 ∧ hp.2.1 ≤ 7302250 :=
  ⟨35, _, Nat.le_of_ble_eq_true rfl, (ix_R.fin 35 (iy_n_ok (iy_run_ok _ _ _) rfl)), Nat.le_of_ble_eq_true rfl, Nat.le_of_ble_eq_true rfl⟩
set_option maxRecDepth 1000000 in
set_option maxHeartbeats 8000000 in
theorem xo_19_k15 (xs : Nat → Int32) : ∃ (N : Nat) (hp : ix_H), N ≤ 2 ^ 15 ∧ ix_R (xTT 6 (va_up xs 1 15)) (ix_run (xTT 6 (va_up xs 1 15)) 14 8) xm_law N (787, xLS, [], xhp0) (some (.int 1), hp) ∧ hp.1 ≤ 600000 ∧ hp.2.1 ≤ 7302250 :=
  ⟨35, _, Nat.le_of_ble_eq_true rfl, (ix_R.fin 35 (iy_n_ok (iy_run_ok _ _ _) rfl)), Nat.le_of_ble_eq_true rfl, Nat.le_of_ble_eq_true rfl⟩
set_option maxRecDepth 1000000 in
set_option maxHeartbeats 8000000 in
theorem xo_19_k16 (xs : Nat → Int32) : ∃ (N : Nat) (hp : ix_H), N ≤ 2 ^ 15 ∧ ix_R (xTT 6 (va_up xs 1 16)) (ix_run (xTT 6 (va_up xs 1 16)) 14 8) xm_law N (787, xLS, [], xhp0) (some (.int 1), hp) ∧ hp.1 ≤ 600000 ∧ hp.2.1 ≤ 7302250 :=
  ⟨35, _, Nat.le_of_ble_eq_true rfl, (ix_R.fin 35 (iy_n_ok (iy_run_ok _ _ _) rfl)), Nat.le_of_ble_eq_true rfl, Nat.le_of_ble_eq_true rfl⟩
set_option maxRecDepth 1000000 in
set_option maxHeartbeats 8000000 in
theorem xo_19_k17 (xs : Nat → Int32) : ∃ (N : Nat) (hp : ix_H), N ≤ 2 ^ 15 ∧ ix_R (xTT 6 (va_up xs 1 17)) (ix_run (xTT 6 (va_up xs 1 17)) 14 8) xm_law N (787, xLS, [], xhp0) (some (.int 1), hp) ∧ hp.1 ≤ 600000 ∧ hp.2.1 ≤ 7302250 :=
  ⟨35, _, Nat.le_of_ble_eq_true rfl, (ix_R.fin 35 (iy_n_ok (iy_run_ok _ _ _) rfl)), Nat.le_of_ble_eq_true rfl, Nat.le_of_ble_eq_true rfl⟩
set_option maxRecDepth 1000000 in
set_option maxHeartbeats 8000000 in
theorem xo_19_k18 (xs : Nat → Int32) : ∃ (N : Nat) (hp : ix_H), N ≤ 2 ^ 15 ∧ ix_R (xTT 6 (va_up xs 1 18)) (ix_run (xTT 6 (va_up xs 1 18)) 14 8) xm_law N (787, xLS, [], xhp0) (some (.int 1), hp) ∧ hp.1 ≤ 600000 ∧ hp.2.1 ≤ 7302250 :=
  ⟨35, _, Nat.le_of_ble_eq_true rfl, (ix_R.fin 35 (iy_n_ok (iy_run_ok _ _ _) rfl)), Nat.le_of_ble_eq_true rfl, Nat.le_of_ble_eq_true rfl⟩
set_option maxRecDepth 1000000 in
set_option maxHeartbeats 8000000 in
theorem xo_19_k19 (xs : Nat → Int32) : ∃ (N : Nat) (hp : ix_H), N ≤ 2 ^ 15 ∧ ix_R (xTT 6 (va_up xs 1 19)) (ix_run (xTT 6 (va_up xs 1 19)) 14 8) xm_law N (787, xLS, [], xhp0) (some (.int 1), hp) ∧ hp.1 ≤ 600000 ∧ hp.2.1 ≤ 7302250 :=
  ⟨35, _, Nat.le_of_ble_eq_true rfl, (ix_R.fin 35 (iy_n_ok (iy_run_ok _ _ _) rfl)), Nat.le_of_ble_eq_true rfl, Nat.le_of_ble_eq_true rfl⟩
set_option maxRecDepth 1000000 in
set_option maxHeartbeats 8000000 in
theorem xo_19_k20 (xs : Nat → Int32) : ∃ (N : Nat) (hp : ix_H), N ≤ 2 ^ 15 ∧ ix_R (xTT 6 (va_up xs 1 20)) (ix_run (xTT 6 (va_up xs 1 20)) 14 8) xm_law N (787, xLS, [], xhp0) (some (.int 1), hp) ∧ hp.1 ≤ 600000 ∧ hp.2.1 ≤ 7302250 :=
  ⟨35, _, Nat.le_of_ble_eq_true rfl, (ix_R.fin 35 (iy_n_ok (iy_run_ok _ _ _) rfl)), Nat.le_of_ble_eq_true rfl, Nat.le_of_ble_eq_true rfl⟩
set_option maxRecDepth 1000000 in
set_option maxHeartbeats 8000000 in
theorem xo_19_k21 (xs : Nat → Int32) : ∃ (N : Nat) (hp : ix_H), N ≤ 2 ^ 15 ∧ ix_R (xTT 6 (va_up xs 1 21)) (ix_run (xTT 6 (va_up xs 1 21)) 14 8) xm_law N (787, xLS, [], xhp0) (some (.int 1), hp) ∧ hp.1 ≤ 600000 ∧ hp.2.1 ≤ 7302250 :=
  ⟨35, _, Nat.le_of_ble_eq_true rfl, (ix_R.fin 35 (iy_n_ok (iy_run_ok _ _ _) rfl)), Nat.le_of_ble_eq_true rfl, Nat.le_of_ble_eq_true rfl⟩
set_option maxRecDepth 1000000 in
set_option maxHeartbeats 8000000 in
theorem xo_19_k22 (xs : Nat → Int32) : ∃ (N : Nat) (hp : ix_H), N ≤ 2 ^ 15 ∧ ix_R (xTT 6 (va_up xs 1 22)) (ix_run (xTT 6 (va_up xs 1 22)) 14 8) xm_law N (787, xLS, [], xhp0) (some (.int 1), hp) ∧ hp.1 ≤ 600000 ∧ hp.2.1 ≤ 7302250 :=
  ⟨35, _, Nat.le_of_ble_eq_true rfl, (ix_R.fin 35 (iy_n_ok (iy_run_ok _ _ _) rfl)), Nat.le_of_ble_eq_true rfl, Nat.le_of_ble_eq_true rfl⟩
set_option maxRecDepth 1000000 in
set_option maxHeartbeats 8000000 in
theorem xo_19_k23 (xs : Nat → Int32) : ∃ (N : Nat) (hp : ix_H), N ≤ 2 ^ 15 ∧ ix_R (xTT 6 (va_up xs 1 23)) (ix_run (xTT 6 (va_up xs 1 23)) 14 8) xm_law N (787, xLS, [], xhp0) (some (.int 1), hp) ∧ hp.1 ≤ 600000 ∧ hp.2.1 ≤ 7302250 :=
  ⟨35, _, Nat.le_of_ble_eq_true rfl, (ix_R.fin 35 (iy_n_ok (iy_run_ok _ _ _) rfl)), Nat.le_of_ble_eq_true rfl, Nat.le_of_ble_eq_true rfl⟩
set_option maxRecDepth 1000000 in
set_option maxHeartbeats 8000000 in
theorem xo_20_neg (xs : Nat → Int32) (h1 : -2147483648 ≤ (xs 1).toInt ∧ (xs 1).toInt ≤ -1) : ∃ (N : Nat) (hp : ix_H), N ≤ 2 ^ 15 ∧ ix_R (xTT 6 xs) (ix_run (xTT 6 xs) 14 8) xm_law N (820, xLS, [], xhp0) (some (.int 1), hp) ∧ hp.1 ≤ 600000 ∧ hp.2.1 ≤ 7302250 :=
  ⟨36, _, Nat.le_of_ble_eq_true rfl, (ix_R.step 11 (iy_n_ok (iy_run_ok _ _ _) rfl) (ix_R.step 1 (ix_n_call (Or.inl ⟨_, rfl⟩) rfl (ix_cal_v rfl (Or.inl rfl) rfl rfl rfl ⟨rfl, Nat.le_of_ble_eq_true rfl, Nat.le_of_ble_eq_true rfl⟩ (ix_R.run (N := 7) rfl (Nat.le_of_ble_eq_true rfl) (ix_R.step 3 (iy_n_ok (iy_run_ok _ _ _) rfl) (ix_R.step 1 (ix_n_call (Or.inl ⟨_, rfl⟩) rfl (ix_cal_v rfl (Or.inl rfl) rfl rfl rfl ⟨rfl, Nat.le_of_ble_eq_true rfl, Nat.le_of_ble_eq_true rfl⟩ (ix_R.run (N := 4) rfl (Nat.le_of_ble_eq_true rfl) (ix_R.step 1 (iy_n_ok (iy_run_ok _ _ _) rfl) (ix_R.step 1 (ix_n_ift rfl rfl (cbt_lt (x := xs 1) (y := 0) (by have e9 : (0 : Int32).toInt = 0 := rfl; omega))) (ix_R.fin 2 (iy_n_ok (iy_run_ok _ _ _) rfl)))) (Nat.le_of_ble_eq_true rfl)))) (ix_R.fin 3 (iy_n_ok (iy_run_ok _ _ _) rfl)))) (Nat.le_of_ble_eq_true rfl)))) (ix_R.step 11 (iy_n_ok (iy_run_ok _ _ _) rfl) (ix_R.step 1 (ix_n_call (Or.inl ⟨_, rfl⟩) rfl (ix_cal_v rfl (Or.inl rfl) rfl rfl rfl ⟨rfl, Nat.le_of_ble_eq_true rfl, Nat.le_of_ble_eq_true rfl⟩ (ix_R.run (N := 6) rfl (Nat.le_of_ble_eq_true rfl) (ix_R.step 2 (iy_n_ok (iy_run_ok _ _ _) rfl) (ix_R.step 1 (ix_n_call (Or.inl ⟨_, rfl⟩) rfl (ix_cal_v rfl (Or.inl rfl) rfl rfl rfl ⟨rfl, Nat.le_of_ble_eq_true rfl, Nat.le_of_ble_eq_true rfl⟩ (ix_R.run (N := 8) rfl (Nat.le_of_ble_eq_true rfl) (ix_R.step 4 (iy_n_ok (iy_run_ok _ _ _) rfl) (ix_R.step 1 (ix_n_call (Or.inr (Or.inr ⟨_, rfl⟩)) rfl (ix_cal_s rfl (Or.inl rfl) ⟨Nat.le_of_ble_eq_true rfl, Nat.le_of_ble_eq_true rfl⟩ (ix_R.run (N := 6) rfl (Nat.le_of_ble_eq_true rfl) (ix_R.step 3 (iy_n_ok (iy_run_ok _ _ _) rfl) (ix_R.step 1 (ix_n_ift rfl rfl (clt_lt (x := (xs 1).toInt64) (y := 0) (by rw [Int32.toInt_toInt64]; have e9 : (0 : Int64).toInt = 0 := rfl; omega))) (ix_R.fin 2 (iy_n_ok (iy_run_ok _ _ _) rfl)))) (Nat.le_of_ble_eq_true rfl)))) (ix_R.fin 3 (iy_n_ok (iy_run_ok _ _ _) rfl)))) (Nat.le_of_ble_eq_true rfl)))) (ix_R.fin 3 (iy_n_ok (iy_run_ok _ _ _) rfl)))) (Nat.le_of_ble_eq_true rfl)))) (ix_R.fin 12 (iy_n_ok (iy_run_ok _ _ _) rfl)))))), Nat.le_of_ble_eq_true rfl, Nat.le_of_ble_eq_true rfl⟩
set_option maxRecDepth 1000000 in
set_option maxHeartbeats 8000000 in
theorem xo_20_big (xs : Nat → Int32) (h1 : 24 ≤ (xs 1).toInt ∧ (xs 1).toInt ≤ 2147483647) : ∃ (N : Nat) (hp : ix_H), N ≤ 2 ^ 15 ∧ ix_R (xTT 6 xs) (ix_run (xTT 6 xs) 14 8) xm_law N (820, xLS, [], xhp0) (some (.int 1), hp) ∧ hp.1 ≤ 600000 ∧ hp.2.1 ≤ 7302250 :=
  ⟨36, _, Nat.le_of_ble_eq_true rfl, (ix_R.step 11 (iy_n_ok (iy_run_ok _ _ _) rfl) (ix_R.step 1 (ix_n_call (Or.inl ⟨_, rfl⟩) rfl (ix_cal_v rfl (Or.inl rfl) rfl rfl rfl ⟨rfl, Nat.le_of_ble_eq_true rfl, Nat.le_of_ble_eq_true rfl⟩ (ix_R.run (N := 7) rfl (Nat.le_of_ble_eq_true rfl) (ix_R.step 3 (iy_n_ok (iy_run_ok _ _ _) rfl) (ix_R.step 1 (ix_n_call (Or.inl ⟨_, rfl⟩) rfl (ix_cal_v rfl (Or.inl rfl) rfl rfl rfl ⟨rfl, Nat.le_of_ble_eq_true rfl, Nat.le_of_ble_eq_true rfl⟩ (ix_R.run (N := 7) rfl (Nat.le_of_ble_eq_true rfl) (ix_R.step 1 (iy_n_ok (iy_run_ok _ _ _) rfl) (ix_R.step 1 (ix_n_iff rfl rfl (cbf_lt (x := xs 1) (y := 0) (by have e9 : (0 : Int32).toInt = 0 := rfl; omega))) (ix_R.step 2 (iy_n_ok (iy_run_ok _ _ _) rfl) (ix_R.step 1 (ix_n_icmpt rfl rfl (cbt_ge (x := xs 1) (y := 24) (by have e9 : (24 : Int32).toInt = 24 := rfl; omega))) (ix_R.fin 2 (iy_n_ok (iy_run_ok _ _ _) rfl)))))) (Nat.le_of_ble_eq_true rfl)))) (ix_R.fin 3 (iy_n_ok (iy_run_ok _ _ _) rfl)))) (Nat.le_of_ble_eq_true rfl)))) (ix_R.step 11 (iy_n_ok (iy_run_ok _ _ _) rfl) (ix_R.step 1 (ix_n_call (Or.inl ⟨_, rfl⟩) rfl (ix_cal_v rfl (Or.inl rfl) rfl rfl rfl ⟨rfl, Nat.le_of_ble_eq_true rfl, Nat.le_of_ble_eq_true rfl⟩ (ix_R.run (N := 6) rfl (Nat.le_of_ble_eq_true rfl) (ix_R.step 2 (iy_n_ok (iy_run_ok _ _ _) rfl) (ix_R.step 1 (ix_n_call (Or.inl ⟨_, rfl⟩) rfl (ix_cal_v rfl (Or.inl rfl) rfl rfl rfl ⟨rfl, Nat.le_of_ble_eq_true rfl, Nat.le_of_ble_eq_true rfl⟩ (ix_R.run (N := 8) rfl (Nat.le_of_ble_eq_true rfl) (ix_R.step 4 (iy_n_ok (iy_run_ok _ _ _) rfl) (ix_R.step 1 (ix_n_call (Or.inr (Or.inr ⟨_, rfl⟩)) rfl (ix_cal_s rfl (Or.inl rfl) ⟨Nat.le_of_ble_eq_true rfl, Nat.le_of_ble_eq_true rfl⟩ (ix_R.run (N := 10) rfl (Nat.le_of_ble_eq_true rfl) (ix_R.step 3 (iy_n_ok (iy_run_ok _ _ _) rfl) (ix_R.step 1 (ix_n_iff rfl rfl (clf_lt (x := (xs 1).toInt64) (y := 0) (by rw [Int32.toInt_toInt64]; have e9 : (0 : Int64).toInt = 0 := rfl; omega))) (ix_R.step 3 (iy_n_ok (iy_run_ok _ _ _) rfl) (ix_R.step 1 (ix_n_ift rfl rfl (clt_gt (x := (xs 1).toInt64) (y := 23) (by rw [Int32.toInt_toInt64]; have e9 : (23 : Int64).toInt = 23 := rfl; omega))) (ix_R.fin 2 (iy_n_ok (iy_run_ok _ _ _) rfl)))))) (Nat.le_of_ble_eq_true rfl)))) (ix_R.fin 3 (iy_n_ok (iy_run_ok _ _ _) rfl)))) (Nat.le_of_ble_eq_true rfl)))) (ix_R.fin 3 (iy_n_ok (iy_run_ok _ _ _) rfl)))) (Nat.le_of_ble_eq_true rfl)))) (ix_R.fin 12 (iy_n_ok (iy_run_ok _ _ _) rfl)))))), Nat.le_of_ble_eq_true rfl, Nat.le_of_ble_eq_true rfl⟩
set_option maxRecDepth 1000000 in
set_option maxHeartbeats 8000000 in
theorem xo_20_k0 (xs : Nat → Int32) : ∃ (N : Nat) (hp : ix_H), N ≤ 2 ^ 15 ∧ ix_R (xTT 6 (va_up xs 1 0)) (ix_run (xTT 6 (va_up xs 1 0)) 14 8) xm_law N (820, xLS, [], xhp0) (some (.int 1), hp) ∧ hp.1 ≤ 600000 ∧ hp.2.1 ≤ 7302250 :=
  ⟨36, _, Nat.le_of_ble_eq_true rfl, (ix_R.fin 36 (iy_n_ok (iy_run_ok _ _ _) rfl)), Nat.le_of_ble_eq_true rfl, Nat.le_of_ble_eq_true rfl⟩
set_option maxRecDepth 1000000 in
set_option maxHeartbeats 8000000 in
theorem xo_20_k1 (xs : Nat → Int32) : ∃ (N : Nat) (hp : ix_H), N ≤ 2 ^ 15 ∧ ix_R (xTT 6 (va_up xs 1 1)) (ix_run (xTT 6 (va_up xs 1 1)) 14 8) xm_law N (820, xLS, [], xhp0) (some (.int 1), hp) ∧ hp.1 ≤ 600000 ∧ hp.2.1 ≤ 7302250 :=
  ⟨36, _, Nat.le_of_ble_eq_true rfl, (ix_R.fin 36 (iy_n_ok (iy_run_ok _ _ _) rfl)), Nat.le_of_ble_eq_true rfl, Nat.le_of_ble_eq_true rfl⟩
set_option maxRecDepth 1000000 in
set_option maxHeartbeats 8000000 in
theorem xo_20_k2 (xs : Nat → Int32) : ∃ (N : Nat) (hp : ix_H), N ≤ 2 ^ 15 ∧ ix_R (xTT 6 (va_up xs 1 2)) (ix_run (xTT 6 (va_up xs 1 2)) 14 8) xm_law N (820, xLS, [], xhp0) (some (.int 1), hp) ∧ hp.1 ≤ 600000 ∧ hp.2.1 ≤ 7302250 :=
  ⟨36, _, Nat.le_of_ble_eq_true rfl, (ix_R.fin 36 (iy_n_ok (iy_run_ok _ _ _) rfl)), Nat.le_of_ble_eq_true rfl, Nat.le_of_ble_eq_true rfl⟩
set_option maxRecDepth 1000000 in
set_option maxHeartbeats 8000000 in
theorem xo_20_k3 (xs : Nat → Int32) : ∃ (N : Nat) (hp : ix_H), N ≤ 2 ^ 15 ∧ ix_R (xTT 6 (va_up xs 1 3)) (ix_run (xTT 6 (va_up xs 1 3)) 14 8) xm_law N (820, xLS, [], xhp0) (some (.int 1), hp) ∧ hp.1 ≤ 600000 ∧ hp.2.1 ≤ 7302250 :=
  ⟨36, _, Nat.le_of_ble_eq_true rfl, (ix_R.fin 36 (iy_n_ok (iy_run_ok _ _ _) rfl)), Nat.le_of_ble_eq_true rfl, Nat.le_of_ble_eq_true rfl⟩
set_option maxRecDepth 1000000 in
set_option maxHeartbeats 8000000 in
theorem xo_20_k4 (xs : Nat → Int32) : ∃ (N : Nat) (hp : ix_H), N ≤ 2 ^ 15 ∧ ix_R (xTT 6 (va_up xs 1 4)) (ix_run (xTT 6 (va_up xs 1 4)) 14 8) xm_law N (820, xLS, [], xhp0) (some (.int 1), hp) ∧ hp.1 ≤ 600000 ∧ hp.2.1 ≤ 7302250 :=
  ⟨36, _, Nat.le_of_ble_eq_true rfl, (ix_R.fin 36 (iy_n_ok (iy_run_ok _ _ _) rfl)), Nat.le_of_ble_eq_true rfl, Nat.le_of_ble_eq_true rfl⟩
set_option maxRecDepth 1000000 in
set_option maxHeartbeats 8000000 in
theorem xo_20_k5 (xs : Nat → Int32) : ∃ (N : Nat) (hp : ix_H), N ≤ 2 ^ 15 ∧ ix_R (xTT 6 (va_up xs 1 5)) (ix_run (xTT 6 (va_up xs 1 5)) 14 8) xm_law N (820, xLS, [], xhp0) (some (.int 1), hp) ∧ hp.1 ≤ 600000 ∧ hp.2.1 ≤ 7302250 :=
  ⟨36, _, Nat.le_of_ble_eq_true rfl, (ix_R.fin 36 (iy_n_ok (iy_run_ok _ _ _) rfl)), Nat.le_of_ble_eq_true rfl, Nat.le_of_ble_eq_true rfl⟩
set_option maxRecDepth 1000000 in
set_option maxHeartbeats 8000000 in
theorem xo_20_k6 (xs : Nat → Int32) : ∃ (N : Nat) (hp : ix_H), N ≤ 2 ^ 15 ∧ ix_R (xTT 6 (va_up xs 1 6)) (ix_run (xTT 6 (va_up xs 1 6)) 14 8) xm_law N (820, xLS, [], xhp0) (some (.int 1), hp) ∧ hp.1 ≤ 600000 ∧ hp.2.1 ≤ 7302250 :=
  ⟨36, _, Nat.le_of_ble_eq_true rfl, (ix_R.fin 36 (iy_n_ok (iy_run_ok _ _ _) rfl)), Nat.le_of_ble_eq_true rfl, Nat.le_of_ble_eq_true rfl⟩
set_option maxRecDepth 1000000 in
set_option maxHeartbeats 8000000 in
theorem xo_20_k7 (xs : Nat → Int32) : ∃ (N : Nat) (hp : ix_H), N ≤ 2 ^ 15 ∧ ix_R (xTT 6 (va_up xs 1 7)) (ix_run (xTT 6 (va_up xs 1 7)) 14 8) xm_law N (820, xLS, [], xhp0) (some (.int 1), hp) ∧ hp.1 ≤ 600000 ∧ hp.2.1 ≤ 7302250 :=
  ⟨36, _, Nat.le_of_ble_eq_true rfl, (ix_R.fin 36 (iy_n_ok (iy_run_ok _ _ _) rfl)), Nat.le_of_ble_eq_true rfl, Nat.le_of_ble_eq_true rfl⟩
set_option maxRecDepth 1000000 in
set_option maxHeartbeats 8000000 in
theorem xo_20_k8 (xs : Nat → Int32) : ∃ (N : Nat) (hp : ix_H), N ≤ 2 ^ 15 ∧ ix_R (xTT 6 (va_up xs 1 8)) (ix_run (xTT 6 (va_up xs 1 8)) 14 8) xm_law N (820, xLS, [], xhp0) (some (.int 1), hp) ∧ hp.1 ≤ 600000 ∧ hp.2.1 ≤ 7302250 :=
  ⟨36, _, Nat.le_of_ble_eq_true rfl, (ix_R.fin 36 (iy_n_ok (iy_run_ok _ _ _) rfl)), Nat.le_of_ble_eq_true rfl, Nat.le_of_ble_eq_true rfl⟩
set_option maxRecDepth 1000000 in
set_option maxHeartbeats 8000000 in
theorem xo_20_k9 (xs : Nat → Int32) : ∃ (N : Nat) (hp : ix_H), N ≤ 2 ^ 15 ∧ ix_R (xTT 6 (va_up xs 1 9)) (ix_run (xTT 6 (va_up xs 1 9)) 14 8) xm_law N (820, xLS, [], xhp0) (some (.int 1), hp) ∧ hp.1 ≤ 600000 ∧ hp.2.1 ≤ 7302250 :=
  ⟨36, _, Nat.le_of_ble_eq_true rfl, (ix_R.fin 36 (iy_n_ok (iy_run_ok _ _ _) rfl)), Nat.le_of_ble_eq_true rfl, Nat.le_of_ble_eq_true rfl⟩
set_option maxRecDepth 1000000 in
set_option maxHeartbeats 8000000 in
theorem xo_20_k10 (xs : Nat → Int32) : ∃ (N : Nat) (hp : ix_H), N ≤ 2 ^ 15 ∧ ix_R (xTT 6 (va_up xs 1 10)) (ix_run (xTT 6 (va_up xs 1 10)) 14 8) xm_law N (820, xLS, [], xhp0) (some (.int 1), hp) ∧ hp.1 ≤ 600000 ∧ hp.2.1 ≤ 7302250 :=
  ⟨36, _, Nat.le_of_ble_eq_true rfl, (ix_R.fin 36 (iy_n_ok (iy_run_ok _ _ _) rfl)), Nat.le_of_ble_eq_true rfl, Nat.le_of_ble_eq_true rfl⟩
set_option maxRecDepth 1000000 in
set_option maxHeartbeats 8000000 in
theorem xo_20_k11 (xs : Nat → Int32) : ∃ (N : Nat) (hp : ix_H), N ≤ 2 ^ 15 ∧ ix_R (xTT 6 (va_up xs 1 11)) (ix_run (xTT 6 (va_up xs 1 11)) 14 8) xm_law N (820, xLS, [], xhp0) (some (.int 1), hp) ∧ hp.1 ≤ 600000 ∧ hp.2.1 ≤ 7302250 :=
  ⟨36, _, Nat.le_of_ble_eq_true rfl, (ix_R.fin 36 (iy_n_ok (iy_run_ok _ _ _) rfl)), Nat.le_of_ble_eq_true rfl, Nat.le_of_ble_eq_true rfl⟩
set_option maxRecDepth 1000000 in
set_option maxHeartbeats 8000000 in
theorem xo_20_k12 (xs : Nat → Int32) : ∃ (N : Nat) (hp : ix_H), N ≤ 2 ^ 15 ∧ ix_R (xTT 6 (va_up xs 1 12)) (ix_run (xTT 6 (va_up xs 1 12)) 14 8) xm_law N (820, xLS, [], xhp0) (some (.int 1), hp) ∧ hp.1 ≤ 600000 ∧ hp.2.1 ≤ 7302250 :=
  ⟨36, _, Nat.le_of_ble_eq_true rfl, (ix_R.fin 36 (iy_n_ok (iy_run_ok _ _ _) rfl)), Nat.le_of_ble_eq_true rfl, Nat.le_of_ble_eq_true rfl⟩
set_option maxRecDepth 1000000 in
set_option maxHeartbeats 8000000 in
theorem xo_20_k13 (xs : Nat → Int32) : ∃ (N : Nat) (hp : ix_H), N ≤ 2 ^ 15 ∧ ix_R (xTT 6 (va_up xs 1 13)) (ix_run (xTT 6 (va_up xs 1 13)) 14 8) xm_law N (820, xLS, [], xhp0) (some (.int 1), hp) ∧ hp.1 ≤ 600000 ∧ hp.2.1 ≤ 7302250 :=
  ⟨36, _, Nat.le_of_ble_eq_true rfl, (ix_R.fin 36 (iy_n_ok (iy_run_ok _ _ _) rfl)), Nat.le_of_ble_eq_true rfl, Nat.le_of_ble_eq_true rfl⟩
set_option maxRecDepth 1000000 in
set_option maxHeartbeats 8000000 in
theorem xo_20_k14 (xs : Nat → Int32) : ∃ (N : Nat) (hp : ix_H), N ≤ 2 ^ 15 ∧ ix_R (xTT 6 (va_up xs 1 14)) (ix_run (xTT 6 (va_up xs 1 14)) 14 8) xm_law N (820, xLS, [], xhp0) (some (.int 1), hp) ∧ hp.1 ≤ 600000 ∧ hp.2.1 ≤ 7302250 :=
  ⟨36, _, Nat.le_of_ble_eq_true rfl, (ix_R.fin 36 (iy_n_ok (iy_run_ok _ _ _) rfl)), Nat.le_of_ble_eq_true rfl, Nat.le_of_ble_eq_true rfl⟩
set_option maxRecDepth 1000000 in
set_option maxHeartbeats 8000000 in
theorem xo_20_k15 (xs : Nat → Int32) : ∃ (N : Nat) (hp : ix_H), N ≤ 2 ^ 15 ∧ ix_R (xTT 6 (va_up xs 1 15)) (ix_run (xTT 6 (va_up xs 1 15)) 14 8) xm_law N (820, xLS, [], xhp0) (some (.int 1), hp) ∧ hp.1 ≤ 600000 ∧ hp.2.1 ≤ 7302250 :=
  ⟨36, _, Nat.le_of_ble_eq_true rfl, (ix_R.fin 36 (iy_n_ok (iy_run_ok _ _ _) rfl)), Nat.le_of_ble_eq_true rfl, Nat.le_of_ble_eq_true rfl⟩
set_option maxRecDepth 1000000 in
set_option maxHeartbeats 8000000 in
theorem xo_20_k16 (xs : Nat → Int32) : ∃ (N : Nat) (hp : ix_H), N ≤ 2 ^ 15 ∧ ix_R (xTT 6 (va_up xs 1 16)) (ix_run (xTT 6 (va_up xs 1 16)) 14 8) xm_law N (820, xLS, [], xhp0) (some (.int 1), hp) ∧ hp.1 ≤ 600000 ∧ hp.2.1 ≤ 7302250 :=
  ⟨36, _, Nat.le_of_ble_eq_true rfl, (ix_R.fin 36 (iy_n_ok (iy_run_ok _ _ _) rfl)), Nat.le_of_ble_eq_true rfl, Nat.le_of_ble_eq_true rfl⟩
set_option maxRecDepth 1000000 in
set_option maxHeartbeats 8000000 in
theorem xo_20_k17 (xs : Nat → Int32) : ∃ (N : Nat) (hp : ix_H), N ≤ 2 ^ 15 ∧ ix_R (xTT 6 (va_up xs 1 17)) (ix_run (xTT 6 (va_up xs 1 17)) 14 8) xm_law N (820, xLS, [], xhp0) (some (.int 1), hp) ∧ hp.1 ≤ 600000 ∧ hp.2.1 ≤ 7302250 :=
  ⟨36, _, Nat.le_of_ble_eq_true rfl, (ix_R.fin 36 (iy_n_ok (iy_run_ok _ _ _) rfl)), Nat.le_of_ble_eq_true rfl, Nat.le_of_ble_eq_true rfl⟩
set_option maxRecDepth 1000000 in
set_option maxHeartbeats 8000000 in
theorem xo_20_k18 (xs : Nat → Int32) : ∃ (N : Nat) (hp : ix_H), N ≤ 2 ^ 15 ∧ ix_R (xTT 6 (va_up xs 1 18)) (ix_run (xTT 6 (va_up xs 1 18)) 14 8) xm_law N (820, xLS, [], xhp0) (some (.int 1), hp) ∧ hp.1 ≤ 600000 ∧ hp.2.1 ≤ 7302250 :=
  ⟨36, _, Nat.le_of_ble_eq_true rfl, (ix_R.fin 36 (iy_n_ok (iy_run_ok _ _ _) rfl)), Nat.le_of_ble_eq_true rfl, Nat.le_of_ble_eq_true rfl⟩
set_option maxRecDepth 1000000 in
set_option maxHeartbeats 8000000 in
theorem xo_20_k19 (xs : Nat → Int32) : ∃ (N : Nat) (hp : ix_H), N ≤ 2 ^ 15 ∧ ix_R (xTT 6 (va_up xs 1 19)) (ix_run (xTT 6 (va_up xs 1 19)) 14 8) xm_law N (820, xLS, [], xhp0) (some (.int 1), hp) ∧ hp.1 ≤ 600000 ∧ hp.2.1 ≤ 7302250 :=
  ⟨36, _, Nat.le_of_ble_eq_true rfl, (ix_R.fin 36 (iy_n_ok (iy_run_ok _ _ _) rfl)), Nat.le_of_ble_eq_true rfl, Nat.le_of_ble_eq_true rfl⟩
set_option maxRecDepth 1000000 in
set_option maxHeartbeats 8000000 in
theorem xo_20_k20 (xs : Nat → Int32) : ∃ (N : Nat) (hp : ix_H), N ≤ 2 ^ 15 ∧ ix_R (xTT 6 (va_up xs 1 20)) (ix_run (xTT 6 (va_up xs 1 20)) 14 8) xm_law N (820, xLS, [], xhp0) (some (.int 1), hp) ∧ hp.1 ≤ 600000 ∧ hp.2.1 ≤ 7302250 :=
  ⟨36, _, Nat.le_of_ble_eq_true rfl, (ix_R.fin 36 (iy_n_ok (iy_run_ok _ _ _) rfl)), Nat.le_of_ble_eq_true rfl, Nat.le_of_ble_eq_true rfl⟩
set_option maxRecDepth 1000000 in
set_option maxHeartbeats 8000000 in
theorem xo_20_k21 (xs : Nat → Int32) : ∃ (N : Nat) (hp : ix_H), N ≤ 2 ^ 15 ∧ ix_R (xTT 6 (va_up xs 1 21)) (ix_run (xTT 6 (va_up xs 1 21)) 14 8) xm_law N (820, xLS, [], xhp0) (some (.int 1), hp) ∧ hp.1 ≤ 600000 ∧ hp.2.1 ≤ 7302250 :=
  ⟨36, _, Nat.le_of_ble_eq_true rfl, (ix_R.fin 36 (iy_n_ok (iy_run_ok _ _ _) rfl)), Nat.le_of_ble_eq_true rfl, Nat.le_of_ble_eq_true rfl⟩
set_option maxRecDepth 1000000 in
set_option maxHeartbeats 8000000 in
theorem xo_20_k22 (xs : Nat → Int32) : ∃ (N : Nat) (hp : ix_H), N ≤ 2 ^ 15 ∧ ix_R (xTT 6 (va_up xs 1 22)) (ix_run (xTT 6 (va_up xs 1 22)) 14 8) xm_law N (820, xLS, [], xhp0) (some (.int 1), hp) ∧ hp.1 ≤ 600000 ∧ hp.2.1 ≤ 7302250 :=
  ⟨36, _, Nat.le_of_ble_eq_true rfl, (ix_R.fin 36 (iy_n_ok (iy_run_ok _ _ _) rfl)), Nat.le_of_ble_eq_true rfl, Nat.le_of_ble_eq_true rfl⟩
set_option maxRecDepth 1000000 in
set_option maxHeartbeats 8000000 in
theorem xo_20_k23 (xs : Nat → Int32) : ∃ (N : Nat) (hp : ix_H), N ≤ 2 ^ 15 ∧ ix_R (xTT 6 (va_up xs 1 23)) (ix_run (xTT 6 (va_up xs 1 23)) 14 8) xm_law N (820, xLS, [], xhp0) (some (.int 1), hp) ∧ hp.1 ≤ 600000 ∧ hp.2.1 ≤ 7302250 :=
  ⟨36, _, Nat.le_of_ble_eq_true rfl, (ix_R.fin 36 (iy_n_ok (iy_run_ok _ _ _) rfl)), Nat.le_of_ble_eq_true rfl, Nat.le_of_ble_eq_true rfl⟩
set_option maxRecDepth 1000000 in
set_option maxHeartbeats 8000000 in
theorem xo_21_neg (xs : Nat → Int32) (h1 : -2147483648 ≤ (xs 1).toInt ∧ (xs 1).toInt ≤ -1) : ∃ (N : Nat) (hp : ix_H), N ≤ 2 ^ 15 ∧ ix_R (xTT 6 xs) (ix_run (xTT 6 xs) 14 8) xm_law N (854, xLS, [], xhp0) (some (.int 1), hp) ∧ hp.1 ≤ 600000 ∧ hp.2.1 ≤ 7302250 :=
  ⟨25, _, Nat.le_of_ble_eq_true rfl, (ix_R.step 6 (iy_n_ok (iy_run_ok _ _ _) rfl) (ix_R.step 1 (ix_n_call (Or.inl ⟨_, rfl⟩) rfl (ix_cal_v rfl (Or.inl rfl) rfl rfl rfl ⟨rfl, Nat.le_of_ble_eq_true rfl, Nat.le_of_ble_eq_true rfl⟩ (ix_R.run (N := 7) rfl (Nat.le_of_ble_eq_true rfl) (ix_R.step 3 (iy_n_ok (iy_run_ok _ _ _) rfl) (ix_R.step 1 (ix_n_call (Or.inl ⟨_, rfl⟩) rfl (ix_cal_v rfl (Or.inl rfl) rfl rfl rfl ⟨rfl, Nat.le_of_ble_eq_true rfl, Nat.le_of_ble_eq_true rfl⟩ (ix_R.run (N := 4) rfl (Nat.le_of_ble_eq_true rfl) (ix_R.step 1 (iy_n_ok (iy_run_ok _ _ _) rfl) (ix_R.step 1 (ix_n_ift rfl rfl (cbt_lt (x := xs 1) (y := 0) (by have e9 : (0 : Int32).toInt = 0 := rfl; omega))) (ix_R.fin 2 (iy_n_ok (iy_run_ok _ _ _) rfl)))) (Nat.le_of_ble_eq_true rfl)))) (ix_R.fin 3 (iy_n_ok (iy_run_ok _ _ _) rfl)))) (Nat.le_of_ble_eq_true rfl)))) (ix_R.step 6 (iy_n_ok (iy_run_ok _ _ _) rfl) (ix_R.step 1 (ix_n_call (Or.inl ⟨_, rfl⟩) rfl (ix_cal_v rfl (Or.inl rfl) rfl rfl rfl ⟨rfl, Nat.le_of_ble_eq_true rfl, Nat.le_of_ble_eq_true rfl⟩ (ix_R.run (N := 6) rfl (Nat.le_of_ble_eq_true rfl) (ix_R.step 2 (iy_n_ok (iy_run_ok _ _ _) rfl) (ix_R.step 1 (ix_n_call (Or.inl ⟨_, rfl⟩) rfl (ix_cal_v rfl (Or.inl rfl) rfl rfl rfl ⟨rfl, Nat.le_of_ble_eq_true rfl, Nat.le_of_ble_eq_true rfl⟩ (ix_R.run (N := 8) rfl (Nat.le_of_ble_eq_true rfl) (ix_R.step 4 (iy_n_ok (iy_run_ok _ _ _) rfl) (ix_R.step 1 (ix_n_call (Or.inr (Or.inr ⟨_, rfl⟩)) rfl (ix_cal_s rfl (Or.inl rfl) ⟨Nat.le_of_ble_eq_true rfl, Nat.le_of_ble_eq_true rfl⟩ (ix_R.run (N := 6) rfl (Nat.le_of_ble_eq_true rfl) (ix_R.step 3 (iy_n_ok (iy_run_ok _ _ _) rfl) (ix_R.step 1 (ix_n_ift rfl rfl (clt_lt (x := (xs 1).toInt64) (y := 0) (by rw [Int32.toInt_toInt64]; have e9 : (0 : Int64).toInt = 0 := rfl; omega))) (ix_R.fin 2 (iy_n_ok (iy_run_ok _ _ _) rfl)))) (Nat.le_of_ble_eq_true rfl)))) (ix_R.fin 3 (iy_n_ok (iy_run_ok _ _ _) rfl)))) (Nat.le_of_ble_eq_true rfl)))) (ix_R.fin 3 (iy_n_ok (iy_run_ok _ _ _) rfl)))) (Nat.le_of_ble_eq_true rfl)))) (ix_R.fin 11 (iy_n_ok (iy_run_ok _ _ _) rfl)))))), Nat.le_of_ble_eq_true rfl, Nat.le_of_ble_eq_true rfl⟩
set_option maxRecDepth 1000000 in
set_option maxHeartbeats 8000000 in
theorem xo_21_big (xs : Nat → Int32) (h1 : 24 ≤ (xs 1).toInt ∧ (xs 1).toInt ≤ 2147483647) : ∃ (N : Nat) (hp : ix_H), N ≤ 2 ^ 15 ∧ ix_R (xTT 6 xs) (ix_run (xTT 6 xs) 14 8) xm_law N (854, xLS, [], xhp0) (some (.int 1), hp) ∧ hp.1 ≤ 600000 ∧ hp.2.1 ≤ 7302250 :=
  ⟨25, _, Nat.le_of_ble_eq_true rfl, (ix_R.step 6 (iy_n_ok (iy_run_ok _ _ _) rfl) (ix_R.step 1 (ix_n_call (Or.inl ⟨_, rfl⟩) rfl (ix_cal_v rfl (Or.inl rfl) rfl rfl rfl ⟨rfl, Nat.le_of_ble_eq_true rfl, Nat.le_of_ble_eq_true rfl⟩ (ix_R.run (N := 7) rfl (Nat.le_of_ble_eq_true rfl) (ix_R.step 3 (iy_n_ok (iy_run_ok _ _ _) rfl) (ix_R.step 1 (ix_n_call (Or.inl ⟨_, rfl⟩) rfl (ix_cal_v rfl (Or.inl rfl) rfl rfl rfl ⟨rfl, Nat.le_of_ble_eq_true rfl, Nat.le_of_ble_eq_true rfl⟩ (ix_R.run (N := 7) rfl (Nat.le_of_ble_eq_true rfl) (ix_R.step 1 (iy_n_ok (iy_run_ok _ _ _) rfl) (ix_R.step 1 (ix_n_iff rfl rfl (cbf_lt (x := xs 1) (y := 0) (by have e9 : (0 : Int32).toInt = 0 := rfl; omega))) (ix_R.step 2 (iy_n_ok (iy_run_ok _ _ _) rfl) (ix_R.step 1 (ix_n_icmpt rfl rfl (cbt_ge (x := xs 1) (y := 24) (by have e9 : (24 : Int32).toInt = 24 := rfl; omega))) (ix_R.fin 2 (iy_n_ok (iy_run_ok _ _ _) rfl)))))) (Nat.le_of_ble_eq_true rfl)))) (ix_R.fin 3 (iy_n_ok (iy_run_ok _ _ _) rfl)))) (Nat.le_of_ble_eq_true rfl)))) (ix_R.step 6 (iy_n_ok (iy_run_ok _ _ _) rfl) (ix_R.step 1 (ix_n_call (Or.inl ⟨_, rfl⟩) rfl (ix_cal_v rfl (Or.inl rfl) rfl rfl rfl ⟨rfl, Nat.le_of_ble_eq_true rfl, Nat.le_of_ble_eq_true rfl⟩ (ix_R.run (N := 6) rfl (Nat.le_of_ble_eq_true rfl) (ix_R.step 2 (iy_n_ok (iy_run_ok _ _ _) rfl) (ix_R.step 1 (ix_n_call (Or.inl ⟨_, rfl⟩) rfl (ix_cal_v rfl (Or.inl rfl) rfl rfl rfl ⟨rfl, Nat.le_of_ble_eq_true rfl, Nat.le_of_ble_eq_true rfl⟩ (ix_R.run (N := 8) rfl (Nat.le_of_ble_eq_true rfl) (ix_R.step 4 (iy_n_ok (iy_run_ok _ _ _) rfl) (ix_R.step 1 (ix_n_call (Or.inr (Or.inr ⟨_, rfl⟩)) rfl (ix_cal_s rfl (Or.inl rfl) ⟨Nat.le_of_ble_eq_true rfl, Nat.le_of_ble_eq_true rfl⟩ (ix_R.run (N := 10) rfl (Nat.le_of_ble_eq_true rfl) (ix_R.step 3 (iy_n_ok (iy_run_ok _ _ _) rfl) (ix_R.step 1 (ix_n_iff rfl rfl (clf_lt (x := (xs 1).toInt64) (y := 0) (by rw [Int32.toInt_toInt64]; have e9 : (0 : Int64).toInt = 0 := rfl; omega))) (ix_R.step 3 (iy_n_ok (iy_run_ok _ _ _) rfl) (ix_R.step 1 (ix_n_ift rfl rfl (clt_gt (x := (xs 1).toInt64) (y := 23) (by rw [Int32.toInt_toInt64]; have e9 : (23 : Int64).toInt = 23 := rfl; omega))) (ix_R.fin 2 (iy_n_ok (iy_run_ok _ _ _) rfl)))))) (Nat.le_of_ble_eq_true rfl)))) (ix_R.fin 3 (iy_n_ok (iy_run_ok _ _ _) rfl)))) (Nat.le_of_ble_eq_true rfl)))) (ix_R.fin 3 (iy_n_ok (iy_run_ok _ _ _) rfl)))) (Nat.le_of_ble_eq_true rfl)))) (ix_R.fin 11 (iy_n_ok (iy_run_ok _ _ _) rfl)))))), Nat.le_of_ble_eq_true rfl, Nat.le_of_ble_eq_true rfl⟩
set_option maxRecDepth 1000000 in
set_option maxHeartbeats 8000000 in
theorem xo_21_k0 (xs : Nat → Int32) : ∃ (N : Nat) (hp : ix_H), N ≤ 2 ^ 15 ∧ ix_R (xTT 6 (va_up xs 1 0)) (ix_run (xTT 6 (va_up xs 1 0)) 14 8) xm_law N (854, xLS, [], xhp0) (some (.int 1), hp) ∧ hp.1 ≤ 600000 ∧ hp.2.1 ≤ 7302250 :=
  ⟨25, _, Nat.le_of_ble_eq_true rfl, (ix_R.fin 25 (iy_n_ok (iy_run_ok _ _ _) rfl)), Nat.le_of_ble_eq_true rfl, Nat.le_of_ble_eq_true rfl⟩
set_option maxRecDepth 1000000 in
set_option maxHeartbeats 8000000 in
theorem xo_21_k1 (xs : Nat → Int32) : ∃ (N : Nat) (hp : ix_H), N ≤ 2 ^ 15 ∧ ix_R (xTT 6 (va_up xs 1 1)) (ix_run (xTT 6 (va_up xs 1 1)) 14 8) xm_law N (854, xLS, [], xhp0) (some (.int 1), hp) ∧ hp.1 ≤ 600000 ∧ hp.2.1 ≤ 7302250 :=
  ⟨25, _, Nat.le_of_ble_eq_true rfl, (ix_R.fin 25 (iy_n_ok (iy_run_ok _ _ _) rfl)), Nat.le_of_ble_eq_true rfl, Nat.le_of_ble_eq_true rfl⟩
set_option maxRecDepth 1000000 in
set_option maxHeartbeats 8000000 in
theorem xo_21_k2 (xs : Nat → Int32) : ∃ (N : Nat) (hp : ix_H), N ≤ 2 ^ 15 ∧ ix_R (xTT 6 (va_up xs 1 2)) (ix_run (xTT 6 (va_up xs 1 2)) 14 8) xm_law N (854, xLS, [], xhp0) (some (.int 1), hp) ∧ hp.1 ≤ 600000 ∧ hp.2.1 ≤ 7302250 :=
  ⟨25, _, Nat.le_of_ble_eq_true rfl, (ix_R.fin 25 (iy_n_ok (iy_run_ok _ _ _) rfl)), Nat.le_of_ble_eq_true rfl, Nat.le_of_ble_eq_true rfl⟩
