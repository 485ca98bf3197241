set_option maxRecDepth 1000000 in
set_option maxHeartbeats 8000000 in
theorem xo_21_k3 (xs : Nat → Int32) : ∃ (N : Nat) (hp : ix_H), N ≤ 2 ^ 15 ∧ ix_R (xTT 6 (va_up xs 1 3)) (ix_run (xTT 6 (va_up xs 1 3)) 14 8) xm_law N (854, xLS, [], xhp0) (some (.int 1), hp) ∧ hp.1 ≤ 600000 ∧ hp.2.1 ≤ 7302250 :=
  ⟨25, _, Nat.le_of_ble_eq_true rfl, (ix_R.fin 25 (iy_n_ok (iy_run_ok _ _ _) rfl)), Nat.le_of_ble_eq_true rfl, Nat.le_of_ble_eq_true rfl⟩
set_option maxRecDepth 1000000 in
set_option maxHeartbeats 8000000 in
theorem xo_21_k4 (xs : Nat → Int32) : ∃ (N : Nat) (hp : ix_H), N ≤ 2 ^ 15 ∧ ix_R (xTT 6 (va_up xs 1 4)) (ix_run (xTT 6 (va_up xs 1 4)) 14 8) xm_law N (854, xLS, [], xhp0) (some (.int 1), hp) ∧ hp.1 ≤ 600000 ∧ hp.2.1 ≤ 7302250 :=
  ⟨25, _, Nat.le_of_ble_eq_true rfl, (ix_R.fin 25 (iy_n_ok (iy_run_ok _ _ _) rfl)), Nat.le_of_ble_eq_true rfl, Nat.le_of_ble_eq_true rfl⟩
set_option maxRecDepth 1000000 in
set_option maxHeartbeats 8000000 in
theorem xo_21_k5 (xs : Nat → Int32) : ∃ (N : Nat) (hp : ix_H), N ≤ 2 ^ 15 ∧ ix_R (xTT 6 (va_up xs 1 5)) (ix_run (xTT 6 (va_up xs 1 5)) 14 8) xm_law N (854, xLS, [], xhp0) (some (.int 1), hp) ∧ hp.1 ≤ 600000 ∧ hp.2.1 ≤ 7302250 :=
  ⟨25, _, Nat.le_of_ble_eq_true rfl, (ix_R.fin 25 (iy_n_ok (iy_run_ok _ _ _) rfl)), Nat.le_of_ble_eq_true rfl, Nat.le_of_ble_eq_true rfl⟩
set_option maxRecDepth 1000000 in
set_option maxHeartbeats 8000000 in
theorem xo_21_k6 (xs : Nat → Int32) : ∃ (N : Nat) (hp : ix_H), N ≤ 2 ^ 15 ∧ ix_R (xTT 6 (va_up xs 1 6)) (ix_run (xTT 6 (va_up xs 1 6)) 14 8) xm_law N (854, xLS, [], xhp0) (some (.int 1), hp) ∧ hp.1 ≤ 600000 ∧ hp.2.1 ≤ 7302250 :=
  ⟨25, _, Nat.le_of_ble_eq_true rfl, (ix_R.fin 25 (iy_n_ok (iy_run_ok _ _ _) rfl)), Nat.le_of_ble_eq_true rfl, Nat.le_of_ble_eq_true rfl⟩
set_option maxRecDepth 1000000 in
set_option maxHeartbeats 8000000 in
theorem xo_21_k7 (xs : Nat → Int32) : ∃ (N : Nat) (hp : ix_H), N ≤ 2 ^ 15 ∧ ix_R (xTT 6 (va_up xs 1 7)) (ix_run (xTT 6 (va_up xs 1 7)) 14 8) xm_law N (854, xLS, [], xhp0) (some (.int 1), hp) ∧ hp.1 ≤ 600000 ∧ hp.2.1 ≤ 7302250 :=
  ⟨25, _, Nat.le_of_ble_eq_true rfl, (ix_R.fin 25 (iy_n_ok (iy_run_ok _ _ _) rfl)), Nat.le_of_ble_eq_true rfl, Nat.le_of_ble_eq_true rfl⟩
set_option maxRecDepth 1000000 in
set_option maxHeartbeats 8000000 in
theorem xo_21_k8 (xs : Nat → Int32) : ∃ (N : Nat) (hp : ix_H), N ≤ 2 ^ 15 ∧ ix_R (xTT 6 (va_up xs 1 8)) (ix_run (xTT 6 (va_up xs 1 8)) 14 8) xm_law N (854, xLS, [], xhp0) (some (.int 1), hp) ∧ hp.1 ≤ 600000 ∧ hp.2.1 ≤ 7302250 :=
  ⟨25, _, Nat.le_of_ble_eq_true rfl, (ix_R.fin 25 (iy_n_ok (iy_run_ok _ _ _) rfl)), Nat.le_of_ble_eq_true rfl, Nat.le_of_ble_eq_true rfl⟩
set_option maxRecDepth 1000000 in
set_option maxHeartbeats 8000000 in
theorem xo_21_k9 (xs : Nat → Int32) : ∃ (N : Nat) (hp : ix_H), N ≤ 2 ^ 15 ∧ ix_R (xTT 6 (va_up xs 1 9)) (ix_run (xTT 6 (va_up xs 1 9)) 14 8) xm_law N (854, xLS, [], xhp0) (some (.int 1), hp) ∧ hp.1 ≤ 600000 ∧ hp.2.1 ≤ 7302250 :=
  ⟨25, _, Nat.le_of_ble_eq_true rfl, (ix_R.fin 25 (iy_n_ok (iy_run_ok _ _ _) rfl)), Nat.le_of_ble_eq_true rfl, Nat.le_of_ble_eq_true rfl⟩
set_option maxRecDepth 1000000 in
set_option maxHeartbeats 8000000 in
theorem xo_21_k10 (xs : Nat → Int32) : ∃ (N : Nat) (hp : ix_H), N ≤ 2 ^ 15 ∧ ix_R (xTT 6 (va_up xs 1 10)) (ix_run (xTT 6 (va_up xs 1 10)) 14 8) xm_law N (854, xLS, [], xhp0) (some (.int 1), hp) ∧ hp.1 ≤ 600000 ∧ hp.2.1 ≤ 7302250 :=
  ⟨25, _, Nat.le_of_ble_eq_true rfl, (ix_R.fin 25 (iy_n_ok (iy_run_ok _ _ _) rfl)), Nat.le_of_ble_eq_true rfl, Nat.le_of_ble_eq_true rfl⟩
set_option maxRecDepth 1000000 in
set_option maxHeartbeats 8000000 in
theorem xo_21_k11 (xs : Nat → Int32) : ∃ (N : Nat) (hp : ix_H), N ≤ 2 ^ 15 ∧ ix_R (xTT 6 (va_up xs 1 11)) (ix_run (xTT 6 (va_up xs 1 11)) 14 8) xm_law N (854, xLS, [], xhp0) (some (.int 1), hp) ∧ hp.1 ≤ 600000 ∧ hp.2.1 ≤ 7302250 :=
  ⟨25, _, Nat.le_of_ble_eq_true rfl, (ix_R.fin 25 (iy_n_ok (iy_run_ok _ _ _) rfl)), Nat.le_of_ble_eq_true rfl, Nat.le_of_ble_eq_true rfl⟩
set_option maxRecDepth 1000000 in
set_option maxHeartbeats 8000000 in
theorem xo_21_k12 (xs : Nat → Int32) : ∃ (N : Nat) (hp : ix_H), N ≤ 2 ^ 15 ∧ ix_R (xTT 6 (va_up xs 1 12)) (ix_run (xTT 6 (va_up xs 1 12)) 14 8) xm_law N (854, xLS, [], xhp0) (some (.int 1), hp) ∧ hp.1 ≤ 600000 ∧ hp.2.1 ≤ 7302250 :=
  ⟨25, _, Nat.le_of_ble_eq_true rfl, (ix_R.fin 25 (iy_n_ok (iy_run_ok _ _ _) rfl)), Nat.le_of_ble_eq_true rfl, Nat.le_of_ble_eq_true rfl⟩
set_option maxRecDepth 1000000 in
set_option maxHeartbeats 8000000 in
theorem xo_21_k13 (xs : Nat → Int32) : ∃ (N : Nat) (hp : ix_H), N ≤ 2 ^ 15 ∧ ix_R (xTT 6 (va_up xs 1 13)) (ix_run (xTT 6 (va_up xs 1 13)) 14 8) xm_law N (854, xLS, [], xhp0) (some (.int 1), hp) ∧ hp.1 ≤ 600000 ∧ hp.2.1 ≤ 7302250 :=
  ⟨25, _, Nat.le_of_ble_eq_true rfl, (ix_R.fin 25 (iy_n_ok (iy_run_ok _ _ _) rfl)), Nat.le_of_ble_eq_true rfl, Nat.le_of_ble_eq_true rfl⟩
set_option maxRecDepth 1000000 in
set_option maxHeartbeats 8000000 in
theorem xo_21_k14 (xs : Nat → Int32) : ∃ (N : Nat) (hp : ix_H), N ≤ 2 ^ 15 ∧ ix_R (xTT 6 (va_up xs 1 14)) (ix_run (xTT 6 (va_up xs 1 14)) 14 8) xm_law N (854, xLS, [], xhp0) (some (.int 1), hp) ∧ hp.1 ≤ 600000 ∧ hp.2.1 ≤ 7302250 :=
  ⟨25, _, Nat.le_of_ble_eq_true rfl, (ix_R.fin 25 (iy_n_ok (iy_run_ok _ _ _) rfl)), Nat.le_of_ble_eq_true rfl, Nat.le_of_ble_eq_true rfl⟩
set_option maxRecDepth 1000000 in
set_option maxHeartbeats 8000000 in
theorem xo_21_k15 (xs : Nat → Int32) : ∃ (N : Nat) (hp : ix_H), N ≤ 2 ^ 15 ∧ ix_R (xTT 6 (va_up xs 1 15)) (ix_run (xTT 6 (va_up xs 1 15)) 14 8) xm_law N (854, xLS, [], xhp0) (some (.int 1), hp) ∧ hp.1 ≤ 600000 ∧ hp.2.1 ≤ 7302250 :=
  ⟨25, _, Nat.le_of_ble_eq_true rfl, (ix_R.fin 25 (iy_n_ok (iy_run_ok _ _ _) rfl)), Nat.le_of_ble_eq_true rfl, Nat.le_of_ble_eq_true rfl⟩
set_option maxRecDepth 1000000 in
set_option maxHeartbeats 8000000 in
theorem xo_21_k16 (xs : Nat → Int32) : ∃ (N : Nat) (hp : ix_H), N ≤ 2 ^ 15 ∧ ix_R (xTT 6 (va_up xs 1 16)) (ix_run (xTT 6 (va_up xs 1 16)) 14 8) xm_law N (854, xLS, [], xhp0) (some (.int 1), hp) ∧ hp.1 ≤ 600000 ∧ hp.2.1 ≤ 7302250 :=
  ⟨25, _, Nat.le_of_ble_eq_true rfl, (ix_R.fin 25 (iy_n_ok (iy_run_ok _ _ _) rfl)), Nat.le_of_ble_eq_true rfl, Nat.le_of_ble_eq_true rfl⟩
set_option maxRecDepth 1000000 in
set_option maxHeartbeats 8000000 in
theorem xo_21_k17 (xs : Nat → Int32) : ∃ (N : Nat) (hp : ix_H), N ≤ 2 ^ 15 ∧ ix_R (xTT 6 (va_up xs 1 17)) (ix_run (xTT 6 (va_up xs 1 17)) 14 8) xm_law N (854, xLS, [], xhp0) (some (.int 1), hp) ∧ hp.1 ≤ 600000 ∧ hp.2.1 ≤ 7302250 :=
  ⟨25, _, Nat.le_of_ble_eq_true rfl, (ix_R.fin 25 (iy_n_ok (iy_run_ok _ _ _) rfl)), Nat.le_of_ble_eq_true rfl, Nat.le_of_ble_eq_true rfl⟩
set_option maxRecDepth 1000000 in
set_option maxHeartbeats 8000000 in
theorem xo_21_k18 (xs : Nat → Int32) : ∃ (N : Nat) (hp : ix_H), N ≤ 2 ^ 15 ∧ ix_R (xTT 6 (va_up xs 1 18)) (ix_run (xTT 6 (va_up xs 1 18)) 14 8) xm_law N (854, xLS, [], xhp0) (some (.int 1), hp) ∧ hp.1 ≤ 600000 ∧ hp.2.1 ≤ 7302250 :=
  ⟨25, _, Nat.le_of_ble_eq_true rfl, (ix_R.fin 25 (iy_n_ok (iy_run_ok _ _ _) rfl)), Nat.le_of_ble_eq_true rfl, Nat.le_of_ble_eq_true rfl⟩
set_option maxRecDepth 1000000 in
set_option maxHeartbeats 8000000 in
theorem xo_21_k19 (xs : Nat → Int32) : ∃ (N : Nat) (hp : ix_H), N ≤ 2 ^ 15 ∧ ix_R (xTT 6 (va_up xs 1 19)) (ix_run (xTT 6 (va_up xs 1 19)) 14 8) xm_law N (854, xLS, [], xhp0) (some (.int 1), hp) ∧ hp.1 ≤ 600000 ∧ hp.2.1 ≤ 7302250 :=
  ⟨25, _, Nat.le_of_ble_eq_true rfl, (ix_R.fin 25 (iy_n_ok (iy_run_ok _ _ _) rfl)), Nat.le_of_ble_eq_true rfl, Nat.le_of_ble_eq_true rfl⟩
set_option maxRecDepth 1000000 in
set_option maxHeartbeats 8000000 in
theorem xo_21_k20 (xs : Nat → Int32) : ∃ (N : Nat) (hp : ix_H), N ≤ 2 ^ 15 ∧ ix_R (xTT 6 (va_up xs 1 20)) (ix_run (xTT 6 (va_up xs 1 20)) 14 8) xm_law N (854, xLS, [], xhp0) (some (.int 1), hp) ∧ hp.1 ≤ 600000 ∧ hp.2.1 ≤ 7302250 :=
  ⟨25, _, Nat.le_of_ble_eq_true rfl, (ix_R.fin 25 (iy_n_ok (iy_run_ok _ _ _) rfl)), Nat.le_of_ble_eq_true rfl, Nat.le_of_ble_eq_true rfl⟩
set_option maxRecDepth 1000000 in
set_option maxHeartbeats 8000000 in
theorem xo_21_k21 (xs : Nat → Int32) : ∃ (N : Nat) (hp : ix_H), N ≤ 2 ^ 15 ∧ ix_R (xTT 6 (va_up xs 1 21)) (ix_run (xTT 6 (va_up xs 1 21)) 14 8) xm_law N (854, xLS, [], xhp0) (some (.int 1), hp) ∧ hp.1 ≤ 600000 ∧ hp.2.1 ≤ 7302250 :=
  ⟨25, _, Nat.le_of_ble_eq_true rfl, (ix_R.fin 25 (iy_n_ok (iy_run_ok _ _ _) rfl)), Nat.le_of_ble_eq_true rfl, Nat.le_of_ble_eq_true rfl⟩
set_option maxRecDepth 1000000 in
set_option maxHeartbeats 8000000 in
theorem xo_21_k22 (xs : Nat → Int32) : ∃ (N : Nat) (hp : ix_H), N ≤ 2 ^ 15 ∧ ix_R (xTT 6 (va_up xs 1 22)) (ix_run (xTT 6 (va_up xs 1 22)) 14 8) xm_law N (854, xLS, [], xhp0) (some (.int 1), hp) ∧ hp.1 ≤ 600000 ∧ hp.2.1 ≤ 7302250 :=
  ⟨25, _, Nat.le_of_ble_eq_true rfl, (ix_R.fin 25 (iy_n_ok (iy_run_ok _ _ _) rfl)), Nat.le_of_ble_eq_true rfl, Nat.le_of_ble_eq_true rfl⟩
set_option maxRecDepth 1000000 in
set_option maxHeartbeats 8000000 in
theorem xo_21_k23 (xs : Nat → Int32) : ∃ (N : Nat) (hp : ix_H), N ≤ 2 ^ 15 ∧ ix_R (xTT 6 (va_up xs 1 23)) (ix_run (xTT 6 (va_up xs 1 23)) 14 8) xm_law N (854, xLS, [], xhp0) (some (.int 1), hp) ∧ hp.1 ≤ 600000 ∧ hp.2.1 ≤ 7302250 :=
  ⟨25, _, Nat.le_of_ble_eq_true rfl, (ix_R.fin 25 (iy_n_ok (iy_run_ok _ _ _) rfl)), Nat.le_of_ble_eq_true rfl, Nat.le_of_ble_eq_true rfl⟩
set_option maxRecDepth 1000000 in
set_option maxHeartbeats 8000000 in
theorem xo_22_neg (xs : Nat → Int32) (h1 : -2147483648 ≤ (xs 1).toInt ∧ (xs 1).toInt ≤ -1) : ∃ (N : Nat) (hp : ix_H), N ≤ 2 ^ 15 ∧ ix_R (xTT 6 xs) (ix_run (xTT 6 xs) 14 8) xm_law N (877, xLS, [], xhp0) (some (.int 1), hp) ∧ hp.1 ≤ 600000 ∧ hp.2.1 ≤ 7302250 :=
  ⟨55, _, Nat.le_of_ble_eq_true rfl, (ix_R.step 21 (iy_n_ok (iy_run_ok _ _ _) rfl) (ix_R.step 1 (ix_n_call (Or.inl ⟨_, rfl⟩) rfl (ix_cal_v rfl (Or.inl rfl) rfl rfl rfl ⟨rfl, Nat.le_of_ble_eq_true rfl, Nat.le_of_ble_eq_true rfl⟩ (ix_R.run (N := 11) rfl (Nat.le_of_ble_eq_true rfl) (ix_R.step 9 (iy_n_ok (iy_run_ok _ _ _) rfl) (ix_R.step 1 (ix_n_call (Or.inl ⟨_, rfl⟩) rfl (ix_cal_v rfl (Or.inl rfl) rfl rfl rfl ⟨rfl, Nat.le_of_ble_eq_true rfl, Nat.le_of_ble_eq_true rfl⟩ (ix_R.run (N := 4) rfl (Nat.le_of_ble_eq_true rfl) (ix_R.step 1 (iy_n_ok (iy_run_ok _ _ _) rfl) (ix_R.step 1 (ix_n_ift rfl rfl (cbt_lt (x := xs 1) (y := 0) (by have e9 : (0 : Int32).toInt = 0 := rfl; omega))) (ix_R.fin 2 (iy_n_ok (iy_run_ok _ _ _) rfl)))) (Nat.le_of_ble_eq_true rfl)))) (ix_R.fin 1 (iy_n_ok (iy_run_ok _ _ _) rfl)))) (Nat.le_of_ble_eq_true rfl)))) (ix_R.step 21 (iy_n_ok (iy_run_ok _ _ _) rfl) (ix_R.step 1 (ix_n_call (Or.inl ⟨_, rfl⟩) rfl (ix_cal_v rfl (Or.inl rfl) rfl rfl rfl ⟨rfl, Nat.le_of_ble_eq_true rfl, Nat.le_of_ble_eq_true rfl⟩ (ix_R.run (N := 8) rfl (Nat.le_of_ble_eq_true rfl) (ix_R.step 4 (iy_n_ok (iy_run_ok _ _ _) rfl) (ix_R.step 1 (ix_n_call (Or.inr (Or.inr ⟨_, rfl⟩)) rfl (ix_cal_s rfl (Or.inl rfl) ⟨Nat.le_of_ble_eq_true rfl, Nat.le_of_ble_eq_true rfl⟩ (ix_R.run (N := 6) rfl (Nat.le_of_ble_eq_true rfl) (ix_R.step 3 (iy_n_ok (iy_run_ok _ _ _) rfl) (ix_R.step 1 (ix_n_ift rfl rfl (clt_lt (x := (xs 1).toInt64) (y := 0) (by rw [Int32.toInt_toInt64]; have e9 : (0 : Int64).toInt = 0 := rfl; omega))) (ix_R.fin 2 (iy_n_ok (iy_run_ok _ _ _) rfl)))) (Nat.le_of_ble_eq_true rfl)))) (ix_R.fin 3 (iy_n_ok (iy_run_ok _ _ _) rfl)))) (Nat.le_of_ble_eq_true rfl)))) (ix_R.fin 11 (iy_n_ok (iy_run_ok _ _ _) rfl)))))), Nat.le_of_ble_eq_true rfl, Nat.le_of_ble_eq_true rfl⟩
set_option maxRecDepth 1000000 in
set_option maxHeartbeats 8000000 in
theorem xo_22_big (xs : Nat → Int32) (h1 : 4 ≤ (xs 1).toInt ∧ (xs 1).toInt ≤ 2147483647) : ∃ (N : Nat) (hp : ix_H), N ≤ 2 ^ 15 ∧ ix_R (xTT 6 xs) (ix_run (xTT 6 xs) 14 8) xm_law N (877, xLS, [], xhp0) (some (.int 1), hp) ∧ hp.1 ≤ 600000 ∧ hp.2.1 ≤ 7302250 :=
  ⟨55, _, Nat.le_of_ble_eq_true rfl, (ix_R.step 21 (iy_n_ok (iy_run_ok _ _ _) rfl) (ix_R.step 1 (ix_n_call (Or.inl ⟨_, rfl⟩) rfl (ix_cal_v rfl (Or.inl rfl) rfl rfl rfl ⟨rfl, Nat.le_of_ble_eq_true rfl, Nat.le_of_ble_eq_true rfl⟩ (ix_R.run (N := 11) rfl (Nat.le_of_ble_eq_true rfl) (ix_R.step 9 (iy_n_ok (iy_run_ok _ _ _) rfl) (ix_R.step 1 (ix_n_call (Or.inl ⟨_, rfl⟩) rfl (ix_cal_v rfl (Or.inl rfl) rfl rfl rfl ⟨rfl, Nat.le_of_ble_eq_true rfl, Nat.le_of_ble_eq_true rfl⟩ (ix_R.run (N := 7) rfl (Nat.le_of_ble_eq_true rfl) (ix_R.step 1 (iy_n_ok (iy_run_ok _ _ _) rfl) (ix_R.step 1 (ix_n_iff rfl rfl (cbf_lt (x := xs 1) (y := 0) (by have e9 : (0 : Int32).toInt = 0 := rfl; omega))) (ix_R.step 2 (iy_n_ok (iy_run_ok _ _ _) rfl) (ix_R.step 1 (ix_n_icmpt rfl rfl (cbt_ge (x := xs 1) (y := 4) (by have e9 : (4 : Int32).toInt = 4 := rfl; omega))) (ix_R.fin 2 (iy_n_ok (iy_run_ok _ _ _) rfl)))))) (Nat.le_of_ble_eq_true rfl)))) (ix_R.fin 1 (iy_n_ok (iy_run_ok _ _ _) rfl)))) (Nat.le_of_ble_eq_true rfl)))) (ix_R.step 21 (iy_n_ok (iy_run_ok _ _ _) rfl) (ix_R.step 1 (ix_n_call (Or.inl ⟨_, rfl⟩) rfl (ix_cal_v rfl (Or.inl rfl) rfl rfl rfl ⟨rfl, Nat.le_of_ble_eq_true rfl, Nat.le_of_ble_eq_true rfl⟩ (ix_R.run (N := 8) rfl (Nat.le_of_ble_eq_true rfl) (ix_R.step 4 (iy_n_ok (iy_run_ok _ _ _) rfl) (ix_R.step 1 (ix_n_call (Or.inr (Or.inr ⟨_, rfl⟩)) rfl (ix_cal_s rfl (Or.inl rfl) ⟨Nat.le_of_ble_eq_true rfl, Nat.le_of_ble_eq_true rfl⟩ (ix_R.run (N := 10) rfl (Nat.le_of_ble_eq_true rfl) (ix_R.step 3 (iy_n_ok (iy_run_ok _ _ _) rfl) (ix_R.step 1 (ix_n_iff rfl rfl (clf_lt (x := (xs 1).toInt64) (y := 0) (by rw [Int32.toInt_toInt64]; have e9 : (0 : Int64).toInt = 0 := rfl; omega))) (ix_R.step 3 (iy_n_ok (iy_run_ok _ _ _) rfl) (ix_R.step 1 (ix_n_ift rfl rfl (clt_gt (x := (xs 1).toInt64) (y := 3) (by rw [Int32.toInt_toInt64]; have e9 : (3 : Int64).toInt = 3 := rfl; omega))) (ix_R.fin 2 (iy_n_ok (iy_run_ok _ _ _) rfl)))))) (Nat.le_of_ble_eq_true rfl)))) (ix_R.fin 3 (iy_n_ok (iy_run_ok _ _ _) rfl)))) (Nat.le_of_ble_eq_true rfl)))) (ix_R.fin 11 (iy_n_ok (iy_run_ok _ _ _) rfl)))))), Nat.le_of_ble_eq_true rfl, Nat.le_of_ble_eq_true rfl⟩
set_option maxRecDepth 1000000 in
set_option maxHeartbeats 8000000 in
theorem xo_22_n0 (xs : Nat → Int32) (h1 : 0 ≤ (xs 1).toInt ∧ (xs 1).toInt ≤ 3) (h4 : -2147483648 ≤ (xs 4).toInt ∧ (xs 4).toInt ≤ 0) : ∃ (N : Nat) (hp : ix_H), N ≤ 2 ^ 15 ∧ ix_R (xTT 6 xs) (ix_run (xTT 6 xs) 14 8) xm_law N (877, xLS, [], xhp0) (some (.int 1), hp) ∧ hp.1 ≤ 600000 ∧ hp.2.1 ≤ 7302250 :=
  ⟨55, _, Nat.le_of_ble_eq_true rfl, (ix_R.step 21 (iy_n_ok (iy_run_ok _ _ _) rfl) (ix_R.step 1 (ix_n_call (Or.inl ⟨_, rfl⟩) rfl (ix_cal_v rfl (Or.inl rfl) rfl rfl rfl ⟨rfl, Nat.le_of_ble_eq_true rfl, Nat.le_of_ble_eq_true rfl⟩ (ix_R.run (N := 11) rfl (Nat.le_of_ble_eq_true rfl) (ix_R.step 9 (iy_n_ok (iy_run_ok _ _ _) rfl) (ix_R.step 1 (ix_n_call (Or.inl ⟨_, rfl⟩) rfl (ix_cal_v rfl (Or.inl rfl) rfl rfl rfl ⟨rfl, Nat.le_of_ble_eq_true rfl, Nat.le_of_ble_eq_true rfl⟩ (ix_R.run (N := 10) rfl (Nat.le_of_ble_eq_true rfl) (ix_R.step 1 (iy_n_ok (iy_run_ok _ _ _) rfl) (ix_R.step 1 (ix_n_iff rfl rfl (cbf_lt (x := xs 1) (y := 0) (by have e9 : (0 : Int32).toInt = 0 := rfl; omega))) (ix_R.step 2 (iy_n_ok (iy_run_ok _ _ _) rfl) (ix_R.step 1 (ix_n_icmpf rfl rfl (cbf_ge (x := xs 1) (y := 4) (by have e9 : (4 : Int32).toInt = 4 := rfl; omega))) (ix_R.step 2 (iy_n_ok (iy_run_ok _ _ _) rfl) (ix_R.step 1 (ix_n_icmpt rfl rfl (cbt_lt (x := xs 4) (y := 1) (by have e9 : (1 : Int32).toInt = 1 := rfl; omega))) (ix_R.fin 2 (iy_n_ok (iy_run_ok _ _ _) rfl)))))))) (Nat.le_of_ble_eq_true rfl)))) (ix_R.fin 1 (iy_n_ok (iy_run_ok _ _ _) rfl)))) (Nat.le_of_ble_eq_true rfl)))) (ix_R.step 21 (iy_n_ok (iy_run_ok _ _ _) rfl) (ix_R.step 1 (ix_n_call (Or.inl ⟨_, rfl⟩) rfl (ix_cal_v rfl (Or.inl rfl) rfl rfl rfl ⟨rfl, Nat.le_of_ble_eq_true rfl, Nat.le_of_ble_eq_true rfl⟩ (ix_R.run (N := 14) rfl (Nat.le_of_ble_eq_true rfl) (ix_R.step 4 (iy_n_ok (iy_run_ok _ _ _) rfl) (ix_R.step 1 (ix_n_call (Or.inr (Or.inr ⟨_, rfl⟩)) rfl (ix_cal_s rfl (Or.inl rfl) ⟨Nat.le_of_ble_eq_true rfl, Nat.le_of_ble_eq_true rfl⟩ (ix_R.run (N := 11) rfl (Nat.le_of_ble_eq_true rfl) (ix_R.step 3 (iy_n_ok (iy_run_ok _ _ _) rfl) (ix_R.step 1 (ix_n_iff rfl rfl (clf_lt (x := (xs 1).toInt64) (y := 0) (by rw [Int32.toInt_toInt64]; have e9 : (0 : Int64).toInt = 0 := rfl; omega))) (ix_R.step 3 (iy_n_ok (iy_run_ok _ _ _) rfl) (ix_R.step 1 (ix_n_iff rfl rfl (clf_gt (x := (xs 1).toInt64) (y := 3) (by rw [Int32.toInt_toInt64]; have e9 : (3 : Int64).toInt = 3 := rfl; omega))) (ix_R.fin 3 (iy_n_ok (iy_run_ok _ _ _) rfl)))))) (Nat.le_of_ble_eq_true rfl)))) (ix_R.step 5 (iy_n_ok (iy_run_ok _ _ _) rfl) (ix_R.step 1 (ix_n_call (Or.inr (Or.inr ⟨_, rfl⟩)) rfl (ix_cal_s rfl (Or.inl rfl) ⟨Nat.le_of_ble_eq_true rfl, Nat.le_of_ble_eq_true rfl⟩ (ix_R.run (N := 6) rfl (Nat.le_of_ble_eq_true rfl) (ix_R.step 3 (iy_n_ok (iy_run_ok _ _ _) rfl) (ix_R.step 1 (ix_n_ift rfl rfl (clt_lt (x := (xs 4).toInt64) (y := 1) (by rw [Int32.toInt_toInt64]; have e9 : (1 : Int64).toInt = 1 := rfl; omega))) (ix_R.fin 2 (iy_n_ok (iy_run_ok _ _ _) rfl)))) (Nat.le_of_ble_eq_true rfl)))) (ix_R.fin 3 (iy_n_ok (iy_run_ok _ _ _) rfl)))))) (Nat.le_of_ble_eq_true rfl)))) (ix_R.fin 11 (iy_n_ok (iy_run_ok _ _ _) rfl)))))), Nat.le_of_ble_eq_true rfl, Nat.le_of_ble_eq_true rfl⟩
set_option maxRecDepth 1000000 in
set_option maxHeartbeats 8000000 in
theorem xo_22_n33 (xs : Nat → Int32) (h1 : 0 ≤ (xs 1).toInt ∧ (xs 1).toInt ≤ 3) (h4 : 33 ≤ (xs 4).toInt ∧ (xs 4).toInt ≤ 2147483647) : ∃ (N : Nat) (hp : ix_H), N ≤ 2 ^ 15 ∧ ix_R (xTT 6 xs) (ix_run (xTT 6 xs) 14 8) xm_law N (877, xLS, [], xhp0) (some (.int 1), hp) ∧ hp.1 ≤ 600000 ∧ hp.2.1 ≤ 7302250 :=
  ⟨55, _, Nat.le_of_ble_eq_true rfl, (ix_R.step 21 (iy_n_ok (iy_run_ok _ _ _) rfl) (ix_R.step 1 (ix_n_call (Or.inl ⟨_, rfl⟩) rfl (ix_cal_v rfl (Or.inl rfl) rfl rfl rfl ⟨rfl, Nat.le_of_ble_eq_true rfl, Nat.le_of_ble_eq_true rfl⟩ (ix_R.run (N := 11) rfl (Nat.le_of_ble_eq_true rfl) (ix_R.step 9 (iy_n_ok (iy_run_ok _ _ _) rfl) (ix_R.step 1 (ix_n_call (Or.inl ⟨_, rfl⟩) rfl (ix_cal_v rfl (Or.inl rfl) rfl rfl rfl ⟨rfl, Nat.le_of_ble_eq_true rfl, Nat.le_of_ble_eq_true rfl⟩ (ix_R.run (N := 13) rfl (Nat.le_of_ble_eq_true rfl) (ix_R.step 1 (iy_n_ok (iy_run_ok _ _ _) rfl) (ix_R.step 1 (ix_n_iff rfl rfl (cbf_lt (x := xs 1) (y := 0) (by have e9 : (0 : Int32).toInt = 0 := rfl; omega))) (ix_R.step 2 (iy_n_ok (iy_run_ok _ _ _) rfl) (ix_R.step 1 (ix_n_icmpf rfl rfl (cbf_ge (x := xs 1) (y := 4) (by have e9 : (4 : Int32).toInt = 4 := rfl; omega))) (ix_R.step 2 (iy_n_ok (iy_run_ok _ _ _) rfl) (ix_R.step 1 (ix_n_icmpf rfl rfl (cbf_lt (x := xs 4) (y := 1) (by have e9 : (1 : Int32).toInt = 1 := rfl; omega))) (ix_R.step 2 (iy_n_ok (iy_run_ok _ _ _) rfl) (ix_R.step 1 (ix_n_icmpt rfl rfl (cbt_gt (x := xs 4) (y := 32) (by have e9 : (32 : Int32).toInt = 32 := rfl; omega))) (ix_R.fin 2 (iy_n_ok (iy_run_ok _ _ _) rfl)))))))))) (Nat.le_of_ble_eq_true rfl)))) (ix_R.fin 1 (iy_n_ok (iy_run_ok _ _ _) rfl)))) (Nat.le_of_ble_eq_true rfl)))) (ix_R.step 21 (iy_n_ok (iy_run_ok _ _ _) rfl) (ix_R.step 1 (ix_n_call (Or.inl ⟨_, rfl⟩) rfl (ix_cal_v rfl (Or.inl rfl) rfl rfl rfl ⟨rfl, Nat.le_of_ble_eq_true rfl, Nat.le_of_ble_eq_true rfl⟩ (ix_R.run (N := 14) rfl (Nat.le_of_ble_eq_true rfl) (ix_R.step 4 (iy_n_ok (iy_run_ok _ _ _) rfl) (ix_R.step 1 (ix_n_call (Or.inr (Or.inr ⟨_, rfl⟩)) rfl (ix_cal_s rfl (Or.inl rfl) ⟨Nat.le_of_ble_eq_true rfl, Nat.le_of_ble_eq_true rfl⟩ (ix_R.run (N := 11) rfl (Nat.le_of_ble_eq_true rfl) (ix_R.step 3 (iy_n_ok (iy_run_ok _ _ _) rfl) (ix_R.step 1 (ix_n_iff rfl rfl (clf_lt (x := (xs 1).toInt64) (y := 0) (by rw [Int32.toInt_toInt64]; have e9 : (0 : Int64).toInt = 0 := rfl; omega))) (ix_R.step 3 (iy_n_ok (iy_run_ok _ _ _) rfl) (ix_R.step 1 (ix_n_iff rfl rfl (clf_gt (x := (xs 1).toInt64) (y := 3) (by rw [Int32.toInt_toInt64]; have e9 : (3 : Int64).toInt = 3 := rfl; omega))) (ix_R.fin 3 (iy_n_ok (iy_run_ok _ _ _) rfl)))))) (Nat.le_of_ble_eq_true rfl)))) (ix_R.step 5 (iy_n_ok (iy_run_ok _ _ _) rfl) (ix_R.step 1 (ix_n_call (Or.inr (Or.inr ⟨_, rfl⟩)) rfl (ix_cal_s rfl (Or.inl rfl) ⟨Nat.le_of_ble_eq_true rfl, Nat.le_of_ble_eq_true rfl⟩ (ix_R.run (N := 10) rfl (Nat.le_of_ble_eq_true rfl) (ix_R.step 3 (iy_n_ok (iy_run_ok _ _ _) rfl) (ix_R.step 1 (ix_n_iff rfl rfl (clf_lt (x := (xs 4).toInt64) (y := 1) (by rw [Int32.toInt_toInt64]; have e9 : (1 : Int64).toInt = 1 := rfl; omega))) (ix_R.step 3 (iy_n_ok (iy_run_ok _ _ _) rfl) (ix_R.step 1 (ix_n_ift rfl rfl (clt_gt (x := (xs 4).toInt64) (y := 32) (by rw [Int32.toInt_toInt64]; have e9 : (32 : Int64).toInt = 32 := rfl; omega))) (ix_R.fin 2 (iy_n_ok (iy_run_ok _ _ _) rfl)))))) (Nat.le_of_ble_eq_true rfl)))) (ix_R.fin 3 (iy_n_ok (iy_run_ok _ _ _) rfl)))))) (Nat.le_of_ble_eq_true rfl)))) (ix_R.fin 11 (iy_n_ok (iy_run_ok _ _ _) rfl)))))), Nat.le_of_ble_eq_true rfl, Nat.le_of_ble_eq_true rfl⟩
set_option maxRecDepth 1000000 in
set_option maxHeartbeats 8000000 in
theorem xo_22_p0 (xs : Nat → Int32) (h1 : 0 ≤ (xs 1).toInt ∧ (xs 1).toInt ≤ 3) (h4 : 1 ≤ (xs 4).toInt ∧ (xs 4).toInt ≤ 32) (h3 : -2147483648 ≤ (xs 3).toInt ∧ (xs 3).toInt ≤ 0) : ∃ (N : Nat) (hp : ix_H), N ≤ 2 ^ 15 ∧ ix_R (xTT 6 xs) (ix_run (xTT 6 xs) 14 8) xm_law N (877, xLS, [], xhp0) (some (.int 1), hp) ∧ hp.1 ≤ 600000 ∧ hp.2.1 ≤ 7302250 :=
  ⟨55, _, Nat.le_of_ble_eq_true rfl, (ix_R.step 21 (iy_n_ok (iy_run_ok _ _ _) rfl) (ix_R.step 1 (ix_n_call (Or.inl ⟨_, rfl⟩) rfl (ix_cal_v rfl (Or.inl rfl) rfl rfl rfl ⟨rfl, Nat.le_of_ble_eq_true rfl, Nat.le_of_ble_eq_true rfl⟩ (ix_R.run (N := 11) rfl (Nat.le_of_ble_eq_true rfl) (ix_R.step 9 (iy_n_ok (iy_run_ok _ _ _) rfl) (ix_R.step 1 (ix_n_call (Or.inl ⟨_, rfl⟩) rfl (ix_cal_v rfl (Or.inl rfl) rfl rfl rfl ⟨rfl, Nat.le_of_ble_eq_true rfl, Nat.le_of_ble_eq_true rfl⟩ (ix_R.run (N := 16) rfl (Nat.le_of_ble_eq_true rfl) (ix_R.step 1 (iy_n_ok (iy_run_ok _ _ _) rfl) (ix_R.step 1 (ix_n_iff rfl rfl (cbf_lt (x := xs 1) (y := 0) (by have e9 : (0 : Int32).toInt = 0 := rfl; omega))) (ix_R.step 2 (iy_n_ok (iy_run_ok _ _ _) rfl) (ix_R.step 1 (ix_n_icmpf rfl rfl (cbf_ge (x := xs 1) (y := 4) (by have e9 : (4 : Int32).toInt = 4 := rfl; omega))) (ix_R.step 2 (iy_n_ok (iy_run_ok _ _ _) rfl) (ix_R.step 1 (ix_n_icmpf rfl rfl (cbf_lt (x := xs 4) (y := 1) (by have e9 : (1 : Int32).toInt = 1 := rfl; omega))) (ix_R.step 2 (iy_n_ok (iy_run_ok _ _ _) rfl) (ix_R.step 1 (ix_n_icmpf rfl rfl (cbf_gt (x := xs 4) (y := 32) (by have e9 : (32 : Int32).toInt = 32 := rfl; omega))) (ix_R.step 2 (iy_n_ok (iy_run_ok _ _ _) rfl) (ix_R.step 1 (ix_n_icmpt rfl rfl (cbt_lt (x := xs 3) (y := 1) (by have e9 : (1 : Int32).toInt = 1 := rfl; omega))) (ix_R.fin 2 (iy_n_ok (iy_run_ok _ _ _) rfl)))))))))))) (Nat.le_of_ble_eq_true rfl)))) (ix_R.fin 1 (iy_n_ok (iy_run_ok _ _ _) rfl)))) (Nat.le_of_ble_eq_true rfl)))) (ix_R.step 21 (iy_n_ok (iy_run_ok _ _ _) rfl) (ix_R.step 1 (ix_n_call (Or.inl ⟨_, rfl⟩) rfl (ix_cal_v rfl (Or.inl rfl) rfl rfl rfl ⟨rfl, Nat.le_of_ble_eq_true rfl, Nat.le_of_ble_eq_true rfl⟩ (ix_R.run (N := 17) rfl (Nat.le_of_ble_eq_true rfl) (ix_R.step 4 (iy_n_ok (iy_run_ok _ _ _) rfl) (ix_R.step 1 (ix_n_call (Or.inr (Or.inr ⟨_, rfl⟩)) rfl (ix_cal_s rfl (Or.inl rfl) ⟨Nat.le_of_ble_eq_true rfl, Nat.le_of_ble_eq_true rfl⟩ (ix_R.run (N := 11) rfl (Nat.le_of_ble_eq_true rfl) (ix_R.step 3 (iy_n_ok (iy_run_ok _ _ _) rfl) (ix_R.step 1 (ix_n_iff rfl rfl (clf_lt (x := (xs 1).toInt64) (y := 0) (by rw [Int32.toInt_toInt64]; have e9 : (0 : Int64).toInt = 0 := rfl; omega))) (ix_R.step 3 (iy_n_ok (iy_run_ok _ _ _) rfl) (ix_R.step 1 (ix_n_iff rfl rfl (clf_gt (x := (xs 1).toInt64) (y := 3) (by rw [Int32.toInt_toInt64]; have e9 : (3 : Int64).toInt = 3 := rfl; omega))) (ix_R.fin 3 (iy_n_ok (iy_run_ok _ _ _) rfl)))))) (Nat.le_of_ble_eq_true rfl)))) (ix_R.step 5 (iy_n_ok (iy_run_ok _ _ _) rfl) (ix_R.step 1 (ix_n_call (Or.inr (Or.inr ⟨_, rfl⟩)) rfl (ix_cal_s rfl (Or.inl rfl) ⟨Nat.le_of_ble_eq_true rfl, Nat.le_of_ble_eq_true rfl⟩ (ix_R.run (N := 11) rfl (Nat.le_of_ble_eq_true rfl) (ix_R.step 3 (iy_n_ok (iy_run_ok _ _ _) rfl) (ix_R.step 1 (ix_n_iff rfl rfl (clf_lt (x := (xs 4).toInt64) (y := 1) (by rw [Int32.toInt_toInt64]; have e9 : (1 : Int64).toInt = 1 := rfl; omega))) (ix_R.step 3 (iy_n_ok (iy_run_ok _ _ _) rfl) (ix_R.step 1 (ix_n_iff rfl rfl (clf_gt (x := (xs 4).toInt64) (y := 32) (by rw [Int32.toInt_toInt64]; have e9 : (32 : Int64).toInt = 32 := rfl; omega))) (ix_R.fin 3 (iy_n_ok (iy_run_ok _ _ _) rfl)))))) (Nat.le_of_ble_eq_true rfl)))) (ix_R.step 3 (iy_n_ok (iy_run_ok _ _ _) rfl) (ix_R.step 1 (ix_n_icmpt rfl rfl (cbt_lt (x := xs 3) (y := 1) (by have e9 : (1 : Int32).toInt = 1 := rfl; omega))) (ix_R.fin 2 (iy_n_ok (iy_run_ok _ _ _) rfl)))))))) (Nat.le_of_ble_eq_true rfl)))) (ix_R.fin 11 (iy_n_ok (iy_run_ok _ _ _) rfl)))))), Nat.le_of_ble_eq_true rfl, Nat.le_of_ble_eq_true rfl⟩
set_option maxRecDepth 1000000 in
set_option maxHeartbeats 8000000 in
theorem xo_23_neg (xs : Nat → Int32) (h1 : -2147483648 ≤ (xs 1).toInt ∧ (xs 1).toInt ≤ -1) : ∃ (N : Nat) (hp : ix_H), N ≤ 2 ^ 15 ∧ ix_R (xTT 6 xs) (ix_run (xTT 6 xs) 14 8) xm_law N (930, xLS, [], xhp0) (some (.int 1), hp) ∧ hp.1 ≤ 600000 ∧ hp.2.1 ≤ 7302250 :=
  ⟨35, _, Nat.le_of_ble_eq_true rfl, (ix_R.step 11 (iy_n_ok (iy_run_ok _ _ _) rfl) (ix_R.step 1 (ix_n_call (Or.inl ⟨_, rfl⟩) rfl (ix_cal_v rfl (Or.inl rfl) rfl rfl rfl ⟨rfl, Nat.le_of_ble_eq_true rfl, Nat.le_of_ble_eq_true rfl⟩ (ix_R.run (N := 7) rfl (Nat.le_of_ble_eq_true rfl) (ix_R.step 3 (iy_n_ok (iy_run_ok _ _ _) rfl) (ix_R.step 1 (ix_n_call (Or.inl ⟨_, rfl⟩) rfl (ix_cal_v rfl (Or.inl rfl) rfl rfl rfl ⟨rfl, Nat.le_of_ble_eq_true rfl, Nat.le_of_ble_eq_true rfl⟩ (ix_R.run (N := 4) rfl (Nat.le_of_ble_eq_true rfl) (ix_R.step 1 (iy_n_ok (iy_run_ok _ _ _) rfl) (ix_R.step 1 (ix_n_ift rfl rfl (cbt_lt (x := xs 1) (y := 0) (by have e9 : (0 : Int32).toInt = 0 := rfl; omega))) (ix_R.fin 2 (iy_n_ok (iy_run_ok _ _ _) rfl)))) (Nat.le_of_ble_eq_true rfl)))) (ix_R.fin 3 (iy_n_ok (iy_run_ok _ _ _) rfl)))) (Nat.le_of_ble_eq_true rfl)))) (ix_R.step 11 (iy_n_ok (iy_run_ok _ _ _) rfl) (ix_R.step 1 (ix_n_call (Or.inl ⟨_, rfl⟩) rfl (ix_cal_v rfl (Or.inl rfl) rfl rfl rfl ⟨rfl, Nat.le_of_ble_eq_true rfl, Nat.le_of_ble_eq_true rfl⟩ (ix_R.run (N := 6) rfl (Nat.le_of_ble_eq_true rfl) (ix_R.step 2 (iy_n_ok (iy_run_ok _ _ _) rfl) (ix_R.step 1 (ix_n_call (Or.inl ⟨_, rfl⟩) rfl (ix_cal_v rfl (Or.inl rfl) rfl rfl rfl ⟨rfl, Nat.le_of_ble_eq_true rfl, Nat.le_of_ble_eq_true rfl⟩ (ix_R.run (N := 8) rfl (Nat.le_of_ble_eq_true rfl) (ix_R.step 4 (iy_n_ok (iy_run_ok _ _ _) rfl) (ix_R.step 1 (ix_n_call (Or.inr (Or.inr ⟨_, rfl⟩)) rfl (ix_cal_s rfl (Or.inl rfl) ⟨Nat.le_of_ble_eq_true rfl, Nat.le_of_ble_eq_true rfl⟩ (ix_R.run (N := 6) rfl (Nat.le_of_ble_eq_true rfl) (ix_R.step 3 (iy_n_ok (iy_run_ok _ _ _) rfl) (ix_R.step 1 (ix_n_ift rfl rfl (clt_lt (x := (xs 1).toInt64) (y := 0) (by rw [Int32.toInt_toInt64]; have e9 : (0 : Int64).toInt = 0 := rfl; omega))) (ix_R.fin 2 (iy_n_ok (iy_run_ok _ _ _) rfl)))) (Nat.le_of_ble_eq_true rfl)))) (ix_R.fin 3 (iy_n_ok (iy_run_ok _ _ _) rfl)))) (Nat.le_of_ble_eq_true rfl)))) (ix_R.fin 3 (iy_n_ok (iy_run_ok _ _ _) rfl)))) (Nat.le_of_ble_eq_true rfl)))) (ix_R.fin 11 (iy_n_ok (iy_run_ok _ _ _) rfl)))))), Nat.le_of_ble_eq_true rfl, Nat.le_of_ble_eq_true rfl⟩
set_option maxRecDepth 1000000 in
set_option maxHeartbeats 8000000 in
theorem xo_23_big (xs : Nat → Int32) (h1 : 24 ≤ (xs 1).toInt ∧ (xs 1).toInt ≤ 2147483647) : ∃ (N : Nat) (hp : ix_H), N ≤ 2 ^ 15 ∧ ix_R (xTT 6 xs) (ix_run (xTT 6 xs) 14 8) xm_law N (930, xLS, [], xhp0) (some (.int 1), hp) ∧ hp.1 ≤ 600000 ∧ hp.2.1 ≤ 7302250 :=
  ⟨35, _, Nat.le_of_ble_eq_true rfl, (ix_R.step 11 (iy_n_ok (iy_run_ok _ _ _) rfl) (ix_R.step 1 (ix_n_call (Or.inl ⟨_, rfl⟩) rfl (ix_cal_v rfl (Or.inl rfl) rfl rfl rfl ⟨rfl, Nat.le_of_ble_eq_true rfl, Nat.le_of_ble_eq_true rfl⟩ (ix_R.run (N := 7) rfl (Nat.le_of_ble_eq_true rfl) (ix_R.step 3 (iy_n_ok (iy_run_ok _ _ _) rfl) (ix_R.step 1 (ix_n_call (Or.inl ⟨_, rfl⟩) rfl (ix_cal_v rfl (Or.inl rfl) rfl rfl rfl ⟨rfl, Nat.le_of_ble_eq_true rfl, Nat.le_of_ble_eq_true rfl⟩ (ix_R.run (N := 7) rfl (Nat.le_of_ble_eq_true rfl) (ix_R.step 1 (iy_n_ok (iy_run_ok _ _ _) rfl) (ix_R.step 1 (ix_n_iff rfl rfl (cbf_lt (x := xs 1) (y := 0) (by have e9 : (0 : Int32).toInt = 0 := rfl; omega))) (ix_R.step 2 (iy_n_ok (iy_run_ok _ _ _) rfl) (ix_R.step 1 (ix_n_icmpt rfl rfl (cbt_ge (x := xs 1) (y := 24) (by have e9 : (24 : Int32).toInt = 24 := rfl; omega))) (ix_R.fin 2 (iy_n_ok (iy_run_ok _ _ _) rfl)))))) (Nat.le_of_ble_eq_true rfl)))) (ix_R.fin 3 (iy_n_ok (iy_run_ok _ _ _) rfl)))) (Nat.le_of_ble_eq_true rfl)))) (ix_R.step 11 (iy_n_ok (iy_run_ok _ _ _) rfl) (ix_R.step 1 (ix_n_call (Or.inl ⟨_, rfl⟩) rfl (ix_cal_v rfl (Or.inl rfl) rfl rfl rfl ⟨rfl, Nat.le_of_ble_eq_true rfl, Nat.le_of_ble_eq_true rfl⟩ (ix_R.run (N := 6) rfl (Nat.le_of_ble_eq_true rfl) (ix_R.step 2 (iy_n_ok (iy_run_ok _ _ _) rfl) (ix_R.step 1 (ix_n_call (Or.inl ⟨_, rfl⟩) rfl (ix_cal_v rfl (Or.inl rfl) rfl rfl rfl ⟨rfl, Nat.le_of_ble_eq_true rfl, Nat.le_of_ble_eq_true rfl⟩ (ix_R.run (N := 8) rfl (Nat.le_of_ble_eq_true rfl) (ix_R.step 4 (iy_n_ok (iy_run_ok _ _ _) rfl) (ix_R.step 1 (ix_n_call (Or.inr (Or.inr ⟨_, rfl⟩)) rfl (ix_cal_s rfl (Or.inl rfl) ⟨Nat.le_of_ble_eq_true rfl, Nat.le_of_ble_eq_true rfl⟩ (ix_R.run (N := 10) rfl (Nat.le_of_ble_eq_true rfl) (ix_R.step 3 (iy_n_ok (iy_run_ok _ _ _) rfl) (ix_R.step 1 (ix_n_iff rfl rfl (clf_lt (x := (xs 1).toInt64) (y := 0) (by rw [Int32.toInt_toInt64]; have e9 : (0 : Int64).toInt = 0 := rfl; omega))) (ix_R.step 3 (iy_n_ok (iy_run_ok _ _ _) rfl) (ix_R.step 1 (ix_n_ift rfl rfl (clt_gt (x := (xs 1).toInt64) (y := 23) (by rw [Int32.toInt_toInt64]; have e9 : (23 : Int64).toInt = 23 := rfl; omega))) (ix_R.fin 2 (iy_n_ok (iy_run_ok _ _ _) rfl)))))) (Nat.le_of_ble_eq_true rfl)))) (ix_R.fin 3 (iy_n_ok (iy_run_ok _ _ _) rfl)))) (Nat.le_of_ble_eq_true rfl)))) (ix_R.fin 3 (iy_n_ok (iy_run_ok _ _ _) rfl)))) (Nat.le_of_ble_eq_true rfl)))) (ix_R.fin 11 (iy_n_ok (iy_run_ok _ _ _) rfl)))))), Nat.le_of_ble_eq_true rfl, Nat.le_of_ble_eq_true rfl⟩
set_option maxRecDepth 1000000 in
set_option maxHeartbeats 8000000 in
theorem xo_23_k0 (xs : Nat → Int32) : ∃ (N : Nat) (hp : ix_H), N ≤ 2 ^ 15 ∧ ix_R (xTT 6 (va_up xs 1 0)) (ix_run (xTT 6 (va_up xs 1 0)) 14 8) xm_law N (930, xLS, [], xhp0) (some (.int 1), hp) ∧ hp.1 ≤ 600000 ∧ hp.2.1 ≤ 7302250 :=
  ⟨35, _, Nat.le_of_ble_eq_true rfl, (ix_R.fin 35 (iy_n_ok (iy_run_ok _ _ _) rfl)), Nat.le_of_ble_eq_true rfl, Nat.le_of_ble_eq_true rfl⟩
set_option maxRecDepth 1000000 in
set_option maxHeartbeats 8000000 in
theorem xo_23_k1 (xs : Nat → Int32) : ∃ (N : Nat) (hp : ix_H), N ≤ 2 ^ 15 ∧ ix_R (xTT 6 (va_up xs 1 1)) (ix_run (xTT 6 (va_up xs 1 1)) 14 8) xm_law N (930, xLS, [], xhp0) (some (.int 1), hp) ∧ hp.1 ≤ 600000 ∧ hp.2.1 ≤ 7302250 :=
  ⟨35, _, Nat.le_of_ble_eq_true rfl, (ix_R.fin 35 (iy_n_ok (iy_run_ok _ _ _) rfl)), Nat.le_of_ble_eq_true rfl, Nat.le_of_ble_eq_true rfl⟩
set_option maxRecDepth 1000000 in
set_option maxHeartbeats 8000000 in
theorem xo_23_k2 (xs : Nat → Int32) : ∃ (N : Nat) (hp : ix_H), N ≤ 2 ^ 15 ∧ ix_R (xTT 6 (va_up xs 1 2)) (ix_run (xTT 6 (va_up xs 1 2)) 14 8) xm_law N (930, xLS, [], xhp0) (some (.int 1), hp) ∧ hp.1 ≤ 600000 ∧ hp.2.1 ≤ 7302250 :=
  ⟨35, _, Nat.le_of_ble_eq_true rfl, (ix_R.fin 35 (iy_n_ok (iy_run_ok _ _ _) rfl)), Nat.le_of_ble_eq_true rfl, Nat.le_of_ble_eq_true rfl⟩
set_option maxRecDepth 1000000 in
set_option maxHeartbeats 8000000 in
theorem xo_23_k3 (xs : Nat → Int32) : ∃ (N : Nat) (hp : ix_H), N ≤ 2 ^ 15 ∧ ix_R (xTT 6 (va_up xs 1 3)) (ix_run (xTT 6 (va_up xs 1 3)) 14 8) xm_law N (930, xLS, [], xhp0) (some (.int 1), hp) ∧ hp.1 ≤ 600000 ∧ hp.2.1 ≤ 7302250 :=
  ⟨35, _, Nat.le_of_ble_eq_true rfl, (ix_R.fin 35 (iy_n_ok (iy_run_ok _ _ _) rfl)), Nat.le_of_ble_eq_true rfl, Nat.le_of_ble_eq_true rfl⟩
set_option maxRecDepth 1000000 in
set_option maxHeartbeats 8000000 in
theorem xo_23_k4 (xs : Nat → Int32) : ∃ (N : Nat) (hp : ix_H), N ≤ 2 ^ 15 ∧ ix_R (xTT 6 (va_up xs 1 4)) (ix_run (xTT 6 (va_up xs 1 4)) 14 8) xm_law N (930, xLS, [], xhp0) (some (.int 1), hp) ∧ hp.1 ≤ 600000 ∧ hp.2.1 ≤ 7302250 :=
  ⟨35, _, Nat.le_of_ble_eq_true rfl, (ix_R.fin 35 (iy_n_ok (iy_run_ok _ _ _) rfl)), Nat.le_of_ble_eq_true rfl, Nat.le_of_ble_eq_true rfl⟩
set_option maxRecDepth 1000000 in
set_option maxHeartbeats 8000000 in
theorem xo_23_k5 (xs : Nat → Int32) : ∃ (N : Nat) (hp : ix_H), N ≤ 2 ^ 15 ∧ ix_R (xTT 6 (va_up xs 1 5)) (ix_run (xTT 6 (va_up xs 1 5)) 14 8) xm_law N (930, xLS, [], xhp0) (some (.int 1), hp) ∧ hp.1 ≤ 600000 ∧ hp.2.1 ≤ 7302250 :=
  ⟨35, _, Nat.le_of_ble_eq_true rfl, (ix_R.fin 35 (iy_n_ok (iy_run_ok _ _ _) rfl)), Nat.le_of_ble_eq_true rfl, Nat.le_of_ble_eq_true rfl⟩
set_option maxRecDepth 1000000 in
set_option maxHeartbeats 8000000 in
theorem xo_23_k6 (xs : Nat → Int32) : ∃ (N : Nat) (hp : ix_H), N ≤ 2 ^ 15 ∧ ix_R (xTT 6 (va_up xs 1 6)) (ix_run (xTT 6 (va_up xs 1 6)) 14 8) xm_law N (930, xLS, [], xhp0) (some (.int 1), hp) ∧ hp.1 ≤ 600000 ∧ hp.2.1 ≤ 7302250 :=
  ⟨35, _, Nat.le_of_ble_eq_true rfl, (ix_R.fin 35 (iy_n_ok (iy_run_ok _ _ _) rfl)), Nat.le_of_ble_eq_true rfl, Nat.le_of_ble_eq_true rfl⟩
set_option maxRecDepth 1000000 in
set_option maxHeartbeats 8000000 in
theorem xo_23_k7 (xs : Nat → Int32) : ∃ (N : Nat) (hp : ix_H), N ≤ 2 ^ 15 ∧ ix_R (xTT 6 (va_up xs 1 7)) (ix_run (xTT 6 (va_up xs 1 7)) 14 8) xm_law N (930, xLS, [], xhp0) (some (.int 1), hp) ∧ hp.1 ≤ 600000 ∧ hp.2.1 ≤ 7302250 :=
  ⟨35, _, Nat.le_of_ble_eq_true rfl, (ix_R.fin 35 (iy_n_ok (iy_run_ok _ _ _) rfl)), Nat.le_of_ble_eq_true rfl, Nat.le_of_ble_eq_true rfl⟩
set_option maxRecDepth 1000000 in
set_option maxHeartbeats 8000000 in
theorem xo_23_k8 (xs : Nat → Int32) : ∃ (N : Nat) (hp : ix_H), N ≤ 2 ^ 15 ∧ ix_R (xTT 6 (va_up xs 1 8)) (ix_run (xTT 6 (va_up xs 1 8)) 14 8) xm_law N (930, xLS, [], xhp0) (some (.int 1), hp) ∧ hp.1 ≤ 600000 ∧ hp.2.1 ≤ 7302250 :=
  ⟨35, _, Nat.le_of_ble_eq_true rfl, (ix_R.fin 35 (iy_n_ok (iy_run_ok _ _ _) rfl)), Nat.le_of_ble_eq_true rfl, Nat.le_of_ble_eq_true rfl⟩
set_option maxRecDepth 1000000 in
set_option maxHeartbeats 8000000 in
theorem xo_23_k9 (xs : Nat → Int32) : ∃ (N : Nat) (hp : ix_H), N ≤ 2 ^ 15 ∧ ix_R (xTT 6 (va_up xs 1 9)) (ix_run (xTT 6 (va_up xs 1 9)) 14 8) xm_law N (930, xLS, [], xhp0) (some (.int 1), hp) ∧ hp.1 ≤ 600000 ∧ hp.2.1 ≤ 7302250 :=
  ⟨35, _, Nat.le_of_ble_eq_true rfl, (ix_R.fin 35 (iy_n_ok (iy_run_ok _ _ _) rfl)), Nat.le_of_ble_eq_true rfl, Nat.le_of_ble_eq_true rfl⟩
set_option maxRecDepth 1000000 in
set_option maxHeartbeats 8000000 in
theorem xo_23_k10 (xs : Nat → Int32) : ∃ (N : Nat) (hp : ix_H), N ≤ 2 ^ 15 ∧ ix_R (xTT 6 (va_up xs 1 10)) (ix_run (xTT 6 (va_up xs 1 10)) 14 8) xm_law N (930, xLS, [], xhp0) (some (.int 1), hp) ∧ hp.1 ≤ 600000 ∧ hp.2.1 ≤ 7302250 :=
  ⟨35, _, Nat.le_of_ble_eq_true rfl, (ix_R.fin 35 (iy_n_ok (iy_run_ok _ _ _) rfl)), Nat.le_of_ble_eq_true rfl, Nat.le_of_ble_eq_true rfl⟩
set_option maxRecDepth 1000000 in
set_option maxHeartbeats 8000000 in
theorem xo_23_k11 (xs : Nat → Int32) : ∃ (N : Nat) (hp : ix_H), N ≤ 2 ^ 15 ∧ ix_R (xTT 6 (va_up xs 1 11)) (ix_run (xTT 6 (va_up xs 1 11)) 14 8) xm_law N (930, xLS, [], xhp0) (some (.int 1), hp) ∧ hp.1 ≤ 600000 ∧ hp.2.1 ≤ 7302250 :=
  ⟨35, _, Nat.le_of_ble_eq_true rfl, (ix_R.fin 35 (iy_n_ok (iy_run_ok _ _ _) rfl)), Nat.le_of_ble_eq_true rfl, Nat.le_of_ble_eq_true rfl⟩
set_option maxRecDepth 1000000 in
set_option maxHeartbeats 8000000 in
theorem xo_23_k12 (xs : Nat → Int32) : ∃ (N : Nat) (hp : ix_H), N ≤ 2 ^ 15 ∧ ix_R (xTT 6 (va_up xs 1 12)) (ix_run (xTT 6 (va_up xs 1 12)) 14 8) xm_law N (930, xLS, [], xhp0) (some (.int 1), hp) ∧ hp.1 ≤ 600000 ∧ hp.2.1 ≤ 7302250 :=
  ⟨35, _, Nat.le_of_ble_eq_true rfl, (ix_R.fin 35 (iy_n_ok (iy_run_ok _ _ _) rfl)), Nat.le_of_ble_eq_true rfl, Nat.le_of_ble_eq_true rfl⟩
set_option maxRecDepth 1000000 in
set_option maxHeartbeats 8000000 in
theorem xo_23_k13 (xs : Nat → Int32) : ∃ (N : Nat) (hp : ix_H), N ≤ 2 ^ 15 ∧ ix_R (xTT 6 (va_up xs 1 13)) (ix_run (xTT 6 (va_up xs 1 13)) 14 8) xm_law N (930, xLS, [], xhp0) (some (.int 1), hp) ∧ hp.1 ≤ 600000 ∧ hp.2.1 ≤ 7302250 :=
  ⟨35, _, Nat.le_of_ble_eq_true rfl, (ix_R.fin 35 (iy_n_ok (iy_run_ok _ _ _) rfl)), Nat.le_of_ble_eq_true rfl, Nat.le_of_ble_eq_true rfl⟩
set_option maxRecDepth 1000000 in
set_option maxHeartbeats 8000000 in
theorem xo_23_k14 (xs : Nat → Int32) : ∃ (N : Nat) (hp : ix_H), N ≤ 2 ^ 15 ∧ ix_R (xTT 6 (va_up xs 1 14)) (ix_run (xTT 6 (va_up xs 1 14)) 14 8) xm_law N (930, xLS, [], xhp0) (some (.int 1), hp) ∧ hp.1 ≤ 600000 ∧ hp.2.1 ≤ 7302250 :=
  ⟨35, _, Nat.le_of_ble_eq_true rfl, (ix_R.fin 35 (iy_n_ok (iy_run_ok _ _ _) rfl)), Nat.le_of_ble_eq_true rfl, Nat.le_of_ble_eq_true rfl⟩
set_option maxRecDepth 1000000 in
set_option maxHeartbeats 8000000 in
theorem xo_23_k15 (xs : Nat → Int32) : ∃ (N : Nat) (hp : ix_H), N ≤ 2 ^ 15 ∧ ix_R (xTT 6 (va_up xs 1 15)) (ix_run (xTT 6 (va_up xs 1 15)) 14 8) xm_law N (930, xLS, [], xhp0) (some (.int 1), hp) ∧ hp.1 ≤ 600000 ∧ hp.2.1 ≤ 7302250 :=
  ⟨35, _, Nat.le_of_ble_eq_true rfl, (ix_R.fin 35 (iy_n_ok (iy_run_ok _ _ _) rfl)), Nat.le_of_ble_eq_true rfl, Nat.le_of_ble_eq_true rfl⟩
set_option maxRecDepth 1000000 in
set_option maxHeartbeats 8000000 in
theorem xo_23_k16 (xs : Nat → Int32) : ∃ (N : Nat) (hp : ix_H), N ≤ 2 ^ 15 ∧ ix_R (xTT 6 (va_up xs 1 16)) (ix_run (xTT 6 (va_up xs 1 16)) 14 8) xm_law N (930, xLS, [], xhp0) (some (.int 1), hp) ∧ hp.1 ≤ 600000 ∧ hp.2.1 ≤ 7302250 :=
  ⟨35, _, Nat.le_of_ble_eq_true rfl, (ix_R.fin 35 (iy_n_ok (iy_run_ok _ _ _) rfl)), Nat.le_of_ble_eq_true rfl, Nat.le_of_ble_eq_true rfl⟩
set_option maxRecDepth 1000000 in
set_option maxHeartbeats 8000000 in
theorem xo_23_k17 (xs : Nat → Int32) : ∃ (N : Nat) (hp : ix_H), N ≤ 2 ^ 15 ∧ ix_R (xTT 6 (va_up xs 1 17)) (ix_run (xTT 6 (va_up xs 1 17)) 14 8) xm_law N (930, xLS, [], xhp0) (some (.int 1), hp) ∧ hp.1 ≤ 600000 ∧ hp.2.1 ≤ 7302250 :=
  ⟨35, _, Nat.le_of_ble_eq_true rfl, (ix_R.fin 35 (iy_n_ok (iy_run_ok _ _ _) rfl)), Nat.le_of_ble_eq_true rfl, Nat.le_of_ble_eq_true rfl⟩
set_option maxRecDepth 1000000 in
set_option maxHeartbeats 8000000 in
theorem xo_23_k18 (xs : Nat → Int32) : ∃ (N : Nat) (hp : ix_H), N ≤ 2 ^ 15 ∧ ix_R (xTT 6 (va_up xs 1 18)) (ix_run (xTT 6 (va_up xs 1 18)) 14 8) xm_law N (930, xLS, [], xhp0) (some (.int 1), hp) ∧ hp.1 ≤ 600000 ∧ hp.2.1 ≤ 7302250 :=
  ⟨35, _, Nat.le_of_ble_eq_true rfl, (ix_R.fin 35 (iy_n_ok (iy_run_ok _ _ _) rfl)), Nat.le_of_ble_eq_true rfl, Nat.le_of_ble_eq_true rfl⟩
set_option maxRecDepth 1000000 in
set_option maxHeartbeats 8000000 in
theorem xo_23_k19 (xs : Nat → Int32) : ∃ (N : Nat) (hp : ix_H), N ≤ 2 ^ 15 ∧ ix_R (xTT 6 (va_up xs 1 19)) (ix_run (xTT 6 (va_up xs 1 19)) 14 8) xm_law N (930, xLS, [], xhp0) (some (.int 1), hp) ∧ hp.1 ≤ 600000 ∧ hp.2.1 ≤ 7302250 :=
  ⟨35, _, Nat.le_of_ble_eq_true rfl, (ix_R.fin 35 (iy_n_ok (iy_run_ok _ _ _) rfl)), Nat.le_of_ble_eq_true rfl, Nat.le_of_ble_eq_true rfl⟩
set_option maxRecDepth 1000000 in
set_option maxHeartbeats 8000000 in
theorem xo_23_k20 (xs : Nat → Int32) : ∃ (N : Nat) (hp : ix_H), N ≤ 2 ^ 15 ∧ ix_R (xTT 6 (va_up xs 1 20)) (ix_run (xTT 6 (va_up xs 1 20)) 14 8) xm_law N (930, xLS, [], xhp0) (some (.int 1), hp) ∧ hp.1 ≤ 600000 ∧ hp.2.1 ≤ 7302250 :=
  ⟨35, _, Nat.le_of_ble_eq_true rfl, (ix_R.fin 35 (iy_n_ok (iy_run_ok _ _ _) rfl)), Nat.le_of_ble_eq_true rfl, Nat.le_of_ble_eq_true rfl⟩
set_option maxRecDepth 1000000 in
set_option maxHeartbeats 8000000 in
theorem xo_23_k21 (xs : Nat → Int32) : ∃ (N : Nat) (hp : ix_H), N ≤ 2 ^ 15 ∧ ix_R (xTT 6 (va_up xs 1 21)) (ix_run (xTT 6 (va_up xs 1 21)) 14 8) xm_law N (930, xLS, [], xhp0) (some (.int 1), hp) ∧ hp.1 ≤ 600000 ∧ hp.2.1 ≤ 7302250 :=
  ⟨35, _, Nat.le_of_ble_eq_true rfl, (ix_R.fin 35 (iy_n_ok (iy_run_ok _ _ _) rfl)), Nat.le_of_ble_eq_true rfl, Nat.le_of_ble_eq_true rfl⟩
set_option maxRecDepth 1000000 in
set_option maxHeartbeats 8000000 in
theorem xo_23_k22 (xs : Nat → Int32) : ∃ (N : Nat) (hp : ix_H), N ≤ 2 ^ 15 ∧ ix_R (xTT 6 (va_up xs 1 22)) (ix_run (xTT 6 (va_up xs 1 22)) 14 8) xm_law N (930, xLS, [], xhp0) (some (.int 1), hp) ∧ hp.1 ≤ 600000 ∧ hp.2.1 ≤ 7302250 :=
  ⟨35, _, Nat.le_of_ble_eq_true rfl, (ix_R.fin 35 (iy_n_ok (iy_run_ok _ _ _) rfl)), Nat.le_of_ble_eq_true rfl, Nat.le_of_ble_eq_true rfl⟩
set_option maxRecDepth 1000000 in
set_option maxHeartbeats 8000000 in
theorem xo_23_k23 (xs : Nat → Int32) : ∃ (N : Nat) (hp : ix_H), N ≤ 2 ^ 15 ∧ ix_R (xTT 6 (va_up xs 1 23)) (ix_run (xTT 6 (va_up xs 1 23)) 14 8) xm_law N (930, xLS, [], xhp0) (some (.int 1), hp) ∧ hp.1 ≤ 600000 ∧ hp.2.1 ≤ 7302250 :=
  ⟨35, _, Nat.le_of_ble_eq_true rfl, (ix_R.fin 35 (iy_n_ok (iy_run_ok _ _ _) rfl)), Nat.le_of_ble_eq_true rfl, Nat.le_of_ble_eq_true rfl⟩
set_option maxRecDepth 1000000 in
set_option maxHeartbeats 8000000 in
theorem xo_24_neg (xs : Nat → Int32) (h1 : -2147483648 ≤ (xs 1).toInt ∧ (xs 1).toInt ≤ -1) : ∃ (N : Nat) (hp : ix_H), N ≤ 2 ^ 15 ∧ ix_R (xTT 6 xs) (ix_run (xTT 6 xs) 14 8) xm_law N (963, xLS, [], xhp0) (some (.int 1), hp) ∧ hp.1 ≤ 600000 ∧ hp.2.1 ≤ 7302250 :=
  ⟨25, _, Nat.le_of_ble_eq_true rfl, (ix_R.step 6 (iy_n_ok (iy_run_ok _ _ _) rfl) (ix_R.step 1 (ix_n_call (Or.inl ⟨_, rfl⟩) rfl (ix_cal_v rfl (Or.inl rfl) rfl rfl rfl ⟨rfl, Nat.le_of_ble_eq_true rfl, Nat.le_of_ble_eq_true rfl⟩ (ix_R.run (N := 6) rfl (Nat.le_of_ble_eq_true rfl) (ix_R.step 2 (iy_n_ok (iy_run_ok _ _ _) rfl) (ix_R.step 1 (ix_n_call (Or.inl ⟨_, rfl⟩) rfl (ix_cal_v rfl (Or.inl rfl) rfl rfl rfl ⟨rfl, Nat.le_of_ble_eq_true rfl, Nat.le_of_ble_eq_true rfl⟩ (ix_R.run (N := 4) rfl (Nat.le_of_ble_eq_true rfl) (ix_R.step 1 (iy_n_ok (iy_run_ok _ _ _) rfl) (ix_R.step 1 (ix_n_ift rfl rfl (cbt_lt (x := xs 1) (y := 0) (by have e9 : (0 : Int32).toInt = 0 := rfl; omega))) (ix_R.fin 2 (iy_n_ok (iy_run_ok _ _ _) rfl)))) (Nat.le_of_ble_eq_true rfl)))) (ix_R.fin 3 (iy_n_ok (iy_run_ok _ _ _) rfl)))) (Nat.le_of_ble_eq_true rfl)))) (ix_R.step 6 (iy_n_ok (iy_run_ok _ _ _) rfl) (ix_R.step 1 (ix_n_call (Or.inl ⟨_, rfl⟩) rfl (ix_cal_v rfl (Or.inl rfl) rfl rfl rfl ⟨rfl, Nat.le_of_ble_eq_true rfl, Nat.le_of_ble_eq_true rfl⟩ (ix_R.run (N := 6) rfl (Nat.le_of_ble_eq_true rfl) (ix_R.step 2 (iy_n_ok (iy_run_ok _ _ _) rfl) (ix_R.step 1 (ix_n_call (Or.inl ⟨_, rfl⟩) rfl (ix_cal_v rfl (Or.inl rfl) rfl rfl rfl ⟨rfl, Nat.le_of_ble_eq_true rfl, Nat.le_of_ble_eq_true rfl⟩ (ix_R.run (N := 5) rfl (Nat.le_of_ble_eq_true rfl) (ix_R.step 1 (iy_n_ok (iy_run_ok _ _ _) rfl) (ix_R.step 1 (ix_n_call (Or.inr (Or.inr ⟨_, rfl⟩)) rfl (ix_cal_s rfl (Or.inl rfl) ⟨Nat.le_of_ble_eq_true rfl, Nat.le_of_ble_eq_true rfl⟩ (ix_R.run (N := 6) rfl (Nat.le_of_ble_eq_true rfl) (ix_R.step 4 (iy_n_ok (iy_run_ok _ _ _) rfl) (ix_R.step 1 (ix_n_call (Or.inr (Or.inr ⟨_, rfl⟩)) rfl (ix_cal_s rfl (Or.inl rfl) ⟨Nat.le_of_ble_eq_true rfl, Nat.le_of_ble_eq_true rfl⟩ (ix_R.run (N := 6) rfl (Nat.le_of_ble_eq_true rfl) (ix_R.step 3 (iy_n_ok (iy_run_ok _ _ _) rfl) (ix_R.step 1 (ix_n_ift rfl rfl (clt_lt (x := (xs 1).toInt64) (y := 0) (by rw [Int32.toInt_toInt64]; have e9 : (0 : Int64).toInt = 0 := rfl; omega))) (ix_R.fin 2 (iy_n_ok (iy_run_ok _ _ _) rfl)))) (Nat.le_of_ble_eq_true rfl)))) (ix_R.fin 1 (iy_n_ok (iy_run_ok _ _ _) rfl)))) (Nat.le_of_ble_eq_true rfl)))) (ix_R.fin 3 (iy_n_ok (iy_run_ok _ _ _) rfl)))) (Nat.le_of_ble_eq_true rfl)))) (ix_R.fin 3 (iy_n_ok (iy_run_ok _ _ _) rfl)))) (Nat.le_of_ble_eq_true rfl)))) (ix_R.fin 11 (iy_n_ok (iy_run_ok _ _ _) rfl)))))), Nat.le_of_ble_eq_true rfl, Nat.le_of_ble_eq_true rfl⟩
set_option maxRecDepth 1000000 in
set_option maxHeartbeats 8000000 in
theorem xo_24_big (xs : Nat → Int32) (h1 : 24 ≤ (xs 1).toInt ∧ (xs 1).toInt ≤ 2147483647) : ∃ (N : Nat) (hp : ix_H), N ≤ 2 ^ 15 ∧ ix_R (xTT 6 xs) (ix_run (xTT 6 xs) 14 8) xm_law N (963, xLS, [], xhp0) (some (.int 1), hp) ∧ hp.1 ≤ 600000 ∧ hp.2.1 ≤ 7302250 :=
  ⟨25, _, Nat.le_of_ble_eq_true rfl, (ix_R.step 6 (iy_n_ok (iy_run_ok _ _ _) rfl) (ix_R.step 1 (ix_n_call (Or.inl ⟨_, rfl⟩) rfl (ix_cal_v rfl (Or.inl rfl) rfl rfl rfl ⟨rfl, Nat.le_of_ble_eq_true rfl, Nat.le_of_ble_eq_true rfl⟩ (ix_R.run (N := 6) rfl (Nat.le_of_ble_eq_true rfl) (ix_R.step 2 (iy_n_ok (iy_run_ok _ _ _) rfl) (ix_R.step 1 (ix_n_call (Or.inl ⟨_, rfl⟩) rfl (ix_cal_v rfl (Or.inl rfl) rfl rfl rfl ⟨rfl, Nat.le_of_ble_eq_true rfl, Nat.le_of_ble_eq_true rfl⟩ (ix_R.run (N := 7) rfl (Nat.le_of_ble_eq_true rfl) (ix_R.step 1 (iy_n_ok (iy_run_ok _ _ _) rfl) (ix_R.step 1 (ix_n_iff rfl rfl (cbf_lt (x := xs 1) (y := 0) (by have e9 : (0 : Int32).toInt = 0 := rfl; omega))) (ix_R.step 2 (iy_n_ok (iy_run_ok _ _ _) rfl) (ix_R.step 1 (ix_n_icmpt rfl rfl (cbt_ge (x := xs 1) (y := 24) (by have e9 : (24 : Int32).toInt = 24 := rfl; omega))) (ix_R.fin 2 (iy_n_ok (iy_run_ok _ _ _) rfl)))))) (Nat.le_of_ble_eq_true rfl)))) (ix_R.fin 3 (iy_n_ok (iy_run_ok _ _ _) rfl)))) (Nat.le_of_ble_eq_true rfl)))) (ix_R.step 6 (iy_n_ok (iy_run_ok _ _ _) rfl) (ix_R.step 1 (ix_n_call (Or.inl ⟨_, rfl⟩) rfl (ix_cal_v rfl (Or.inl rfl) rfl rfl rfl ⟨rfl, Nat.le_of_ble_eq_true rfl, Nat.le_of_ble_eq_true rfl⟩ (ix_R.run (N := 6) rfl (Nat.le_of_ble_eq_true rfl) (ix_R.step 2 (iy_n_ok (iy_run_ok _ _ _) rfl) (ix_R.step 1 (ix_n_call (Or.inl ⟨_, rfl⟩) rfl (ix_cal_v rfl (Or.inl rfl) rfl rfl rfl ⟨rfl, Nat.le_of_ble_eq_true rfl, Nat.le_of_ble_eq_true rfl⟩ (ix_R.run (N := 5) rfl (Nat.le_of_ble_eq_true rfl) (ix_R.step 1 (iy_n_ok (iy_run_ok _ _ _) rfl) (ix_R.step 1 (ix_n_call (Or.inr (Or.inr ⟨_, rfl⟩)) rfl (ix_cal_s rfl (Or.inl rfl) ⟨Nat.le_of_ble_eq_true rfl, Nat.le_of_ble_eq_true rfl⟩ (ix_R.run (N := 6) rfl (Nat.le_of_ble_eq_true rfl) (ix_R.step 4 (iy_n_ok (iy_run_ok _ _ _) rfl) (ix_R.step 1 (ix_n_call (Or.inr (Or.inr ⟨_, rfl⟩)) rfl (ix_cal_s rfl (Or.inl rfl) ⟨Nat.le_of_ble_eq_true rfl, Nat.le_of_ble_eq_true rfl⟩ (ix_R.run (N := 10) rfl (Nat.le_of_ble_eq_true rfl) (ix_R.step 3 (iy_n_ok (iy_run_ok _ _ _) rfl) (ix_R.step 1 (ix_n_iff rfl rfl (clf_lt (x := (xs 1).toInt64) (y := 0) (by rw [Int32.toInt_toInt64]; have e9 : (0 : Int64).toInt = 0 := rfl; omega))) (ix_R.step 3 (iy_n_ok (iy_run_ok _ _ _) rfl) (ix_R.step 1 (ix_n_ift rfl rfl (clt_gt (x := (xs 1).toInt64) (y := 23) (by rw [Int32.toInt_toInt64]; have e9 : (23 : Int64).toInt = 23 := rfl; omega))) (ix_R.fin 2 (iy_n_ok (iy_run_ok _ _ _) rfl)))))) (Nat.le_of_ble_eq_true rfl)))) (ix_R.fin 1 (iy_n_ok (iy_run_ok _ _ _) rfl)))) (Nat.le_of_ble_eq_true rfl)))) (ix_R.fin 3 (iy_n_ok (iy_run_ok _ _ _) rfl)))) (Nat.le_of_ble_eq_true rfl)))) (ix_R.fin 3 (iy_n_ok (iy_run_ok _ _ _) rfl)))) (Nat.le_of_ble_eq_true rfl)))) (ix_R.fin 11 (iy_n_ok (iy_run_ok _ _ _) rfl)))))), Nat.le_of_ble_eq_true rfl, Nat.le_of_ble_eq_true rfl⟩
set_option maxRecDepth 1000000 in
set_option maxHeartbeats 8000000 in
theorem xo_24_k0 (xs : Nat → Int32) : ∃ (N : Nat) (hp : ix_H), N ≤ 2 ^ 15 ∧ ix_R (xTT 6 (va_up xs 1 0)) (ix_run (xTT 6 (va_up xs 1 0)) 14 8) xm_law N (963, xLS, [], xhp0) (some (.int 1), hp) ∧ hp.1 ≤ 600000 ∧ hp.2.1 ≤ 7302250 :=
  ⟨25, _, Nat.le_of_ble_eq_true rfl, (ix_R.fin 25 (iy_n_ok (iy_run_ok _ _ _) rfl)), Nat.le_of_ble_eq_true rfl, Nat.le_of_ble_eq_true rfl⟩
set_option maxRecDepth 1000000 in
set_option maxHeartbeats 8000000 in
theorem xo_24_k1 (xs : Nat → Int32) : ∃ (N : Nat) (hp : ix_H), N ≤ 2 ^ 15 ∧ ix_R (xTT 6 (va_up xs 1 1)) (ix_run (xTT 6 (va_up xs 1 1)) 14 8) xm_law N (963, xLS, [], xhp0) (some (.int 1), hp) ∧ hp.1 ≤ 600000 ∧ hp.2.1 ≤ 7302250 :=
  ⟨25, _, Nat.le_of_ble_eq_true rfl, (ix_R.fin 25 (iy_n_ok (iy_run_ok _ _ _) rfl)), Nat.le_of_ble_eq_true rfl, Nat.le_of_ble_eq_true rfl⟩
set_option maxRecDepth 1000000 in
set_option maxHeartbeats 8000000 in
theorem xo_24_k2 (xs : Nat → Int32) : ∃ (N : Nat) (hp : ix_H), N ≤ 2 ^ 15 ∧ ix_R (xTT 6 (va_up xs 1 2)) (ix_run (xTT 6 (va_up xs 1 2)) 14 8) xm_law N (963, xLS, [], xhp0) (some (.int 1), hp) ∧ hp.1 ≤ 600000 ∧ hp.2.1 ≤ 7302250 :=
  ⟨25, _, Nat.le_of_ble_eq_true rfl, (ix_R.fin 25 (iy_n_ok (iy_run_ok _ _ _) rfl)), Nat.le_of_ble_eq_true rfl, Nat.le_of_ble_eq_true rfl⟩
set_option maxRecDepth 1000000 in
set_option maxHeartbeats 8000000 in
theorem xo_24_k3 (xs : Nat → Int32) : ∃ (N : Nat) (hp : ix_H), N ≤ 2 ^ 15 ∧ ix_R (xTT 6 (va_up xs 1 3)) (ix_run (xTT 6 (va_up xs 1 3)) 14 8) xm_law N (963, xLS, [], xhp0) (some (.int 1), hp) ∧ hp.1 ≤ 600000 ∧ hp.2.1 ≤ 7302250 :=
  ⟨25, _, Nat.le_of_ble_eq_true rfl, (ix_R.fin 25 (iy_n_ok (iy_run_ok _ _ _) rfl)), Nat.le_of_ble_eq_true rfl, Nat.le_of_ble_eq_true rfl⟩
set_option maxRecDepth 1000000 in
set_option maxHeartbeats 8000000 in
theorem xo_24_k4 (xs : Nat → Int32) : ∃ (N : Nat) (hp : ix_H), N ≤ 2 ^ 15 ∧ ix_R (xTT 6 (va_up xs 1 4)) (ix_run (xTT 6 (va_up xs 1 4)) 14 8) xm_law N (963, xLS, [], xhp0) (some (.int 1), hp) ∧ hp.1 ≤ 600000 ∧ hp.2.1 ≤ 7302250 :=
  ⟨25, _, Nat.le_of_ble_eq_true rfl, (ix_R.fin 25 (iy_n_ok (iy_run_ok _ _ _) rfl)), Nat.le_of_ble_eq_true rfl, Nat.le_of_ble_eq_true rfl⟩
set_option maxRecDepth 1000000 in
set_option maxHeartbeats 8000000 in
theorem xo_24_k5 (xs : Nat → Int32) : ∃ (N : Nat) (hp : ix_H), N ≤ 2 ^ 15 ∧ ix_R (xTT 6 (va_up xs 1 5)) (ix_run (xTT 6 (va_up xs 1 5)) 14 8) xm_law N (963, xLS, [], xhp0) (some (.int 1), hp) ∧ hp.1 ≤ 600000 ∧ hp.2.1 ≤ 7302250 :=
  ⟨25, _, Nat.le_of_ble_eq_true rfl, (ix_R.fin 25 (iy_n_ok (iy_run_ok _ _ _) rfl)), Nat.le_of_ble_eq_true rfl, Nat.le_of_ble_eq_true rfl⟩
set_option maxRecDepth 1000000 in
set_option maxHeartbeats 8000000 in
theorem xo_24_k6 (xs : Nat → Int32) : ∃ (N : Nat) (hp : ix_H), N ≤ 2 ^ 15 ∧ ix_R (xTT 6 (va_up xs 1 6)) (ix_run (xTT 6 (va_up xs 1 6)) 14 8) xm_law N (963, xLS, [], xhp0) (some (.int 1), hp) ∧ hp.1 ≤ 600000 ∧ hp.2.1 ≤ 7302250 :=
  ⟨25, _, Nat.le_of_ble_eq_true rfl, (ix_R.fin 25 (iy_n_ok (iy_run_ok _ _ _) rfl)), Nat.le_of_ble_eq_true rfl, Nat.le_of_ble_eq_true rfl⟩
set_option maxRecDepth 1000000 in
set_option maxHeartbeats 8000000 in
theorem xo_24_k7 (xs : Nat → Int32) : ∃ (N : Nat) (hp : ix_H), N ≤ 2 ^ 15 ∧ ix_R (xTT 6 (va_up xs 1 7)) (ix_run (xTT 6 (va_up xs 1 7)) 14 8) xm_law N (963, xLS, [], xhp0) (some (.int 1), hp) ∧ hp.1 ≤ 600000 ∧ hp.2.1 ≤ 7302250 :=
  ⟨25, _, Nat.le_of_ble_eq_true rfl, (ix_R.fin 25 (iy_n_ok (iy_run_ok _ _ _) rfl)), Nat.le_of_ble_eq_true rfl, Nat.le_of_ble_eq_true rfl⟩
set_option maxRecDepth 1000000 in
set_option maxHeartbeats 8000000 in
theorem xo_24_k8 (xs : Nat → Int32) : ∃ (N : Nat) (hp : ix_H), N ≤ 2 ^ 15 ∧ ix_R (xTT 6 (va_up xs 1 8)) (ix_run (xTT 6 (va_up xs 1 8)) 14 8) xm_law N (963, xLS, [], xhp0) (some (.int 1), hp) ∧ hp.1 ≤ 600000 ∧ hp.2.1 ≤ 7302250 :=
  ⟨25, _, Nat.le_of_ble_eq_true rfl, (ix_R.fin 25 (iy_n_ok (iy_run_ok _ _ _) rfl)), Nat.le_of_ble_eq_true rfl, Nat.le_of_ble_eq_true rfl⟩
set_option maxRecDepth 1000000 in
set_option maxHeartbeats 8000000 in
theorem xo_24_k9 (xs : Nat → Int32) : ∃ (N : Nat) (hp : ix_H), N ≤ 2 ^ 15 ∧ ix_R (xTT 6 (va_up xs 1 9)) (ix_run (xTT 6 (va_up xs 1 9)) 14 8) xm_law N (963, xLS, [], xhp0) (some (.int 1), hp) ∧ hp.1 ≤ 600000 ∧ hp.2.1 ≤ 7302250 :=
  ⟨25, _, Nat.le_of_ble_eq_true rfl, (ix_R.fin 25 (iy_n_ok (iy_run_ok _ _ _) rfl)), Nat.le_of_ble_eq_true rfl, Nat.le_of_ble_eq_true rfl⟩
set_option maxRecDepth 1000000 in
set_option maxHeartbeats 8000000 in
theorem xo_24_k10 (xs : Nat → Int32) : ∃ (N : Nat) (hp : ix_H), N ≤ 2 ^ 15 ∧ ix_R (xTT 6 (va_up xs 1 10)) (ix_run (xTT 6 (va_up xs 1 10)) 14 8) xm_law N (963, xLS, [], xhp0) (some (.int 1), hp) ∧ hp.1 ≤ 600000 ∧ hp.2.1 ≤ 7302250 :=
  ⟨25, _, Nat.le_of_ble_eq_true rfl, (ix_R.fin 25 (iy_n_ok (iy_run_ok _ _ _) rfl)), Nat.le_of_ble_eq_true rfl, Nat.le_of_ble_eq_true rfl⟩
set_option maxRecDepth 1000000 in
set_option maxHeartbeats 8000000 in
theorem xo_24_k11 (xs : Nat → Int32) : ∃ (N : Nat) (hp : ix_H), N ≤ 2 ^ 15 ∧ ix_R (xTT 6 (va_up xs 1 11)) (ix_run (xTT 6 (va_up xs 1 11)) 14 8) xm_law N (963, xLS, [], xhp0) (some (.int 1), hp) ∧ hp.1 ≤ 600000 ∧ hp.2.1 ≤ 7302250 :=
  ⟨25, _, Nat.le_of_ble_eq_true rfl, (ix_R.fin 25 (iy_n_ok (iy_run_ok _ _ _) rfl)), Nat.le_of_ble_eq_true rfl, Nat.le_of_ble_eq_true rfl⟩
set_option maxRecDepth 1000000 in
set_option maxHeartbeats 8000000 in
theorem xo_24_k12 (xs : Nat → Int32) : ∃ (N : Nat) (hp : ix_H), N ≤ 2 ^ 15 ∧ ix_R (xTT 6 (va_up xs 1 12)) (ix_run (xTT 6 (va_up xs 1 12)) 14 8) xm_law N (963, xLS, [], xhp0) (some (.int 1), hp) ∧ hp.1 ≤ 600000 ∧ hp.2.1 ≤ 7302250 :=
  ⟨25, _, Nat.le_of_ble_eq_true rfl, (ix_R.fin 25 (iy_n_ok (iy_run_ok _ _ _) rfl)), Nat.le_of_ble_eq_true rfl, Nat.le_of_ble_eq_true rfl⟩
set_option maxRecDepth 1000000 in
set_option maxHeartbeats 8000000 in
theorem xo_24_k13 (xs : Nat → Int32) : ∃ (N : Nat) (hp : ix_H), N ≤ 2 ^ 15 ∧ ix_R (xTT 6 (va_up xs 1 13)) (ix_run (xTT 6 (va_up xs 1 13)) 14 8) xm_law N (963, xLS, [], xhp0) (some (.int 1), hp) ∧ hp.1 ≤ 600000 ∧ hp.2.1 ≤ 7302250 :=
  ⟨25, _, Nat.le_of_ble_eq_true rfl, (ix_R.fin 25 (iy_n_ok (iy_run_ok _ _ _) rfl)), Nat.le_of_ble_eq_true rfl, Nat.le_of_ble_eq_true rfl⟩
set_option maxRecDepth 1000000 in
set_option maxHeartbeats 8000000 in
theorem xo_24_k14 (xs : Nat → Int32) : ∃ (N : Nat) (hp : ix_H), N ≤ 2 ^ 15 ∧ ix_R (xTT 6 (va_up xs 1 14)) (ix_run (xTT 6 (va_up xs 1 14)) 14 8) xm_law N (963, xLS, [], xhp0) (some (.int 1), hp) ∧ hp.1 ≤ 600000 ∧ hp.2.1 ≤ 7302250 :=
  ⟨25, _, Nat.le_of_ble_eq_true rfl, (ix_R.fin 25 (iy_n_ok (iy_run_ok _ _ _) rfl)), Nat.le_of_ble_eq_true rfl, Nat.le_of_ble_eq_true rfl⟩
set_option maxRecDepth 1000000 in
set_option maxHeartbeats 8000000 in
theorem xo_24_k15 (xs : Nat → Int32) : ∃ (N : Nat) (hp : ix_H), N ≤ 2 ^ 15 ∧ ix_R (xTT 6 (va_up xs 1 15)) (ix_run (xTT 6 (va_up xs 1 15)) 14 8) xm_law N (963, xLS, [], xhp0) (some (.int 1), hp) ∧ hp.1 ≤ 600000 ∧ hp.2.1 ≤ 7302250 :=
  ⟨25, _, Nat.le_of_ble_eq_true rfl, (ix_R.fin 25 (iy_n_ok (iy_run_ok _ _ _) rfl)), Nat.le_of_ble_eq_true rfl, Nat.le_of_ble_eq_true rfl⟩
set_option maxRecDepth 1000000 in
set_option maxHeartbeats 8000000 in
theorem xo_24_k16 (xs : Nat → Int32) : ∃ (N : Nat) (hp : ix_H), N ≤ 2 ^ 15 ∧ ix_R (xTT 6 (va_up xs 1 16)) (ix_run (xTT 6 (va_up xs 1 16)) 14 8) xm_law N (963, xLS, [], xhp0) (some (.int 1), hp) ∧ hp.1 ≤ 600000 ∧ hp.2.1 ≤ 7302250 :=
  ⟨25, _, Nat.le_of_ble_eq_true rfl, (ix_R.fin 25 (iy_n_ok (iy_run_ok _ _ _) rfl)), Nat.le_of_ble_eq_true rfl, Nat.le_of_ble_eq_true rfl⟩
set_option maxRecDepth 1000000 in
set_option maxHeartbeats 8000000 in
theorem xo_24_k17 (xs : Nat → Int32) : ∃ (N : Nat) (hp : ix_H), N ≤ 2 ^ 15 ∧ ix_R (xTT 6 (va_up xs 1 17)) (ix_run (xTT 6 (va_up xs 1 17)) 14 8) xm_law N (963, xLS, [], xhp0) (some (.int 1), hp) ∧ hp.1 ≤ 600000 ∧ hp.2.1 ≤ 7302250 :=
  ⟨25, _, Nat.le_of_ble_eq_true rfl, (ix_R.fin 25 (iy_n_ok (iy_run_ok _ _ _) rfl)), Nat.le_of_ble_eq_true rfl, Nat.le_of_ble_eq_true rfl⟩
set_option maxRecDepth 1000000 in
set_option maxHeartbeats 8000000 in
theorem xo_24_k18 (xs : Nat → Int32) : ∃ (N : Nat) (hp : ix_H), N ≤ 2 ^ 15 ∧ ix_R (xTT 6 (va_up xs 1 18)) (ix_run (xTT 6 (va_up xs 1 18)) 14 8) xm_law N (963, xLS, [], xhp0) (some (.int 1), hp) ∧ hp.1 ≤ 600000 ∧ hp.2.1 ≤ 7302250 :=
  ⟨25, _, Nat.le_of_ble_eq_true rfl, (ix_R.fin 25 (iy_n_ok (iy_run_ok _ _ _) rfl)), Nat.le_of_ble_eq_true rfl, Nat.le_of_ble_eq_true rfl⟩
set_option maxRecDepth 1000000 in
set_option maxHeartbeats 8000000 in
theorem xo_24_k19 (xs : Nat → Int32) : ∃ (N : Nat) (hp : ix_H), N ≤ 2 ^ 15 ∧ ix_R (xTT 6 (va_up xs 1 19)) (ix_run (xTT 6 (va_up xs 1 19)) 14 8) xm_law N (963, xLS, [], xhp0) (some (.int 1), hp) ∧ hp.1 ≤ 600000 ∧ hp.2.1 ≤ 7302250 :=
  ⟨25, _, Nat.le_of_ble_eq_true rfl, (ix_R.fin 25 (iy_n_ok (iy_run_ok _ _ _) rfl)), Nat.le_of_ble_eq_true rfl, Nat.le_of_ble_eq_true rfl⟩
set_option maxRecDepth 1000000 in
set_option maxHeartbeats 8000000 in
theorem xo_24_k20 (xs : Nat → Int32) : ∃ (N : Nat) (hp : ix_H), N ≤ 2 ^ 15 ∧ ix_R (xTT 6 (va_up xs 1 20)) (ix_run (xTT 6 (va_up xs 1 20)) 14 8) xm_law N (963, xLS, [], xhp0) (some (.int 1), hp) ∧ hp.1 ≤ 600000 ∧ hp.2.1 ≤ 7302250 :=
  ⟨25, _, Nat.le_of_ble_eq_true rfl, (ix_R.fin 25 (iy_n_ok (iy_run_ok _ _ _) rfl)), Nat.le_of_ble_eq_true rfl, Nat.le_of_ble_eq_true rfl⟩
set_option maxRecDepth 1000000 in
set_option maxHeartbeats 8000000 in
theorem xo_24_k21 (xs : Nat → Int32) : ∃ (N : Nat) (hp : ix_H), N ≤ 2 ^ 15 ∧ ix_R (xTT 6 (va_up xs 1 21)) (ix_run (xTT 6 (va_up xs 1 21)) 14 8) xm_law N (963, xLS, [], xhp0) (some (.int 1), hp) ∧ hp.1 ≤ 600000 ∧ hp.2.1 ≤ 7302250 :=
  ⟨25, _, Nat.le_of_ble_eq_true rfl, (ix_R.fin 25 (iy_n_ok (iy_run_ok _ _ _) rfl)), Nat.le_of_ble_eq_true rfl, Nat.le_of_ble_eq_true rfl⟩
set_option maxRecDepth 1000000 in
set_option maxHeartbeats 8000000 in
theorem xo_24_k22 (xs : Nat → Int32) : ∃ (N : Nat) (hp : ix_H), N ≤ 2 ^ 15 ∧ ix_R (xTT 6 (va_up xs 1 22)) (ix_run (xTT 6 (va_up xs 1 22)) 14 8) xm_law N (963, xLS, [], xhp0) (some (.int 1), hp) ∧ hp.1 ≤ 600000 ∧ hp.2.1 ≤ 7302250 :=
  ⟨25, _, Nat.le_of_ble_eq_true rfl, (ix_R.fin 25 (iy_n_ok (iy_run_ok _ _ _) rfl)), Nat.le_of_ble_eq_true rfl, Nat.le_of_ble_eq_true rfl⟩
set_option maxRecDepth 1000000 in
set_option maxHeartbeats 8000000 in
theorem xo_24_k23 (xs : Nat → Int32) : ∃ (N : Nat) (hp : ix_H), N ≤ 2 ^ 15 ∧ ix_R (xTT 6 (va_up xs 1 23)) (ix_run (xTT 6 (va_up xs 1 23)) 14 8) xm_law N (963, xLS, [], xhp0) (some (.int 1), hp) ∧ hp.1 ≤ 600000 ∧ hp.2.1 ≤ 7302250 :=
  ⟨25, _, Nat.le_of_ble_eq_true rfl, (ix_R.fin 25 (iy_n_ok (iy_run_ok _ _ _) rfl)), Nat.le_of_ble_eq_true rfl, Nat.le_of_ble_eq_true rfl⟩
set_option maxRecDepth 1000000 in
set_option maxHeartbeats 8000000 in
theorem xo_25_all (xs : Nat → Int32) : ∃ (N : Nat) (hp : ix_H), N ≤ 2 ^ 15 ∧ ix_R (xTT 6 xs) (ix_run (xTT 6 xs) 14 8) xm_law N (986, xLS, [], xhp0) (some (.int 1), hp) ∧ hp.1 ≤ 600000 ∧ hp.2.1 ≤ 7302250 :=
  ⟨15, _, Nat.le_of_ble_eq_true rfl, (ix_R.fin 15 (iy_n_ok (iy_run_ok _ _ _) rfl)), Nat.le_of_ble_eq_true rfl, Nat.le_of_ble_eq_true rfl⟩
set_option maxRecDepth 1000000 in
set_option maxHeartbeats 8000000 in
theorem xo_26_all (xs : Nat → Int32) : ∃ (N : Nat) (hp : ix_H), N ≤ 2 ^ 15 ∧ ix_R (xTT 6 xs) (ix_run (xTT 6 xs) 14 8) xm_law N (999, xLS, [], xhp0) (some (.int 1), hp) ∧ hp.1 ≤ 600000 ∧ hp.2.1 ≤ 7302250 :=
  ⟨15, _, Nat.le_of_ble_eq_true rfl, (ix_R.fin 15 (iy_n_ok (iy_run_ok _ _ _) rfl)), Nat.le_of_ble_eq_true rfl, Nat.le_of_ble_eq_true rfl⟩
set_option maxRecDepth 1000000 in
set_option maxHeartbeats 8000000 in
theorem xo_27_neg (xs : Nat → Int32) (h1 : -2147483648 ≤ (xs 1).toInt ∧ (xs 1).toInt ≤ -1) : ∃ (N : Nat) (hp : ix_H), N ≤ 2 ^ 15 ∧ ix_R (xTT 6 xs) (ix_run (xTT 6 xs) 14 8) xm_law N (1012, xLS, [], xhp0) (some (.int 1), hp) ∧ hp.1 ≤ 600000 ∧ hp.2.1 ≤ 7302250 :=
  ⟨25, _, Nat.le_of_ble_eq_true rfl, (ix_R.step 6 (iy_n_ok (iy_run_ok _ _ _) rfl) (ix_R.step 1 (ix_n_call (Or.inl ⟨_, rfl⟩) rfl (ix_cal_v rfl (Or.inl rfl) rfl rfl rfl ⟨rfl, Nat.le_of_ble_eq_true rfl, Nat.le_of_ble_eq_true rfl⟩ (ix_R.run (N := 4) rfl (Nat.le_of_ble_eq_true rfl) (ix_R.step 1 (iy_n_ok (iy_run_ok _ _ _) rfl) (ix_R.step 1 (ix_n_ift rfl rfl (cbt_lt (x := xs 1) (y := 0) (by have e9 : (0 : Int32).toInt = 0 := rfl; omega))) (ix_R.fin 2 (iy_n_ok (iy_run_ok _ _ _) rfl)))) (Nat.le_of_ble_eq_true rfl)))) (ix_R.step 6 (iy_n_ok (iy_run_ok _ _ _) rfl) (ix_R.step 1 (ix_n_call (Or.inl ⟨_, rfl⟩) rfl (ix_cal_v rfl (Or.inl rfl) rfl rfl rfl ⟨rfl, Nat.le_of_ble_eq_true rfl, Nat.le_of_ble_eq_true rfl⟩ (ix_R.run (N := 5) rfl (Nat.le_of_ble_eq_true rfl) (ix_R.step 1 (iy_n_ok (iy_run_ok _ _ _) rfl) (ix_R.step 1 (ix_n_call (Or.inr (Or.inr ⟨_, rfl⟩)) rfl (ix_cal_s rfl (Or.inl rfl) ⟨Nat.le_of_ble_eq_true rfl, Nat.le_of_ble_eq_true rfl⟩ (ix_R.run (N := 6) rfl (Nat.le_of_ble_eq_true rfl) (ix_R.step 4 (iy_n_ok (iy_run_ok _ _ _) rfl) (ix_R.step 1 (ix_n_call (Or.inr (Or.inr ⟨_, rfl⟩)) rfl (ix_cal_s rfl (Or.inl rfl) ⟨Nat.le_of_ble_eq_true rfl, Nat.le_of_ble_eq_true rfl⟩ (ix_R.run (N := 6) rfl (Nat.le_of_ble_eq_true rfl) (ix_R.step 3 (iy_n_ok (iy_run_ok _ _ _) rfl) (ix_R.step 1 (ix_n_ift rfl rfl (clt_lt (x := (xs 1).toInt64) (y := 0) (by rw [Int32.toInt_toInt64]; have e9 : (0 : Int64).toInt = 0 := rfl; omega))) (ix_R.fin 2 (iy_n_ok (iy_run_ok _ _ _) rfl)))) (Nat.le_of_ble_eq_true rfl)))) (ix_R.fin 1 (iy_n_ok (iy_run_ok _ _ _) rfl)))) (Nat.le_of_ble_eq_true rfl)))) (ix_R.fin 3 (iy_n_ok (iy_run_ok _ _ _) rfl)))) (Nat.le_of_ble_eq_true rfl)))) (ix_R.fin 11 (iy_n_ok (iy_run_ok _ _ _) rfl)))))), Nat.le_of_ble_eq_true rfl, Nat.le_of_ble_eq_true rfl⟩
set_option maxRecDepth 1000000 in
set_option maxHeartbeats 8000000 in
theorem xo_27_big (xs : Nat → Int32) (h1 : 24 ≤ (xs 1).toInt ∧ (xs 1).toInt ≤ 2147483647) : ∃ (N : Nat) (hp : ix_H), N ≤ 2 ^ 15 ∧ ix_R (xTT 6 xs) (ix_run (xTT 6 xs) 14 8) xm_law N (1012, xLS, [], xhp0) (some (.int 1), hp) ∧ hp.1 ≤ 600000 ∧ hp.2.1 ≤ 7302250 :=
  ⟨25, _, Nat.le_of_ble_eq_true rfl, (ix_R.step 6 (iy_n_ok (iy_run_ok _ _ _) rfl) (ix_R.step 1 (ix_n_call (Or.inl ⟨_, rfl⟩) rfl (ix_cal_v rfl (Or.inl rfl) rfl rfl rfl ⟨rfl, Nat.le_of_ble_eq_true rfl, Nat.le_of_ble_eq_true rfl⟩ (ix_R.run (N := 7) rfl (Nat.le_of_ble_eq_true rfl) (ix_R.step 1 (iy_n_ok (iy_run_ok _ _ _) rfl) (ix_R.step 1 (ix_n_iff rfl rfl (cbf_lt (x := xs 1) (y := 0) (by have e9 : (0 : Int32).toInt = 0 := rfl; omega))) (ix_R.step 2 (iy_n_ok (iy_run_ok _ _ _) rfl) (ix_R.step 1 (ix_n_icmpf rfl rfl (cbf_lt (x := xs 1) (y := 24) (by have e9 : (24 : Int32).toInt = 24 := rfl; omega))) (ix_R.fin 2 (iy_n_ok (iy_run_ok _ _ _) rfl)))))) (Nat.le_of_ble_eq_true rfl)))) (ix_R.step 6 (iy_n_ok (iy_run_ok _ _ _) rfl) (ix_R.step 1 (ix_n_call (Or.inl ⟨_, rfl⟩) rfl (ix_cal_v rfl (Or.inl rfl) rfl rfl rfl ⟨rfl, Nat.le_of_ble_eq_true rfl, Nat.le_of_ble_eq_true rfl⟩ (ix_R.run (N := 5) rfl (Nat.le_of_ble_eq_true rfl) (ix_R.step 1 (iy_n_ok (iy_run_ok _ _ _) rfl) (ix_R.step 1 (ix_n_call (Or.inr (Or.inr ⟨_, rfl⟩)) rfl (ix_cal_s rfl (Or.inl rfl) ⟨Nat.le_of_ble_eq_true rfl, Nat.le_of_ble_eq_true rfl⟩ (ix_R.run (N := 6) rfl (Nat.le_of_ble_eq_true rfl) (ix_R.step 4 (iy_n_ok (iy_run_ok _ _ _) rfl) (ix_R.step 1 (ix_n_call (Or.inr (Or.inr ⟨_, rfl⟩)) rfl (ix_cal_s rfl (Or.inl rfl) ⟨Nat.le_of_ble_eq_true rfl, Nat.le_of_ble_eq_true rfl⟩ (ix_R.run (N := 10) rfl (Nat.le_of_ble_eq_true rfl) (ix_R.step 3 (iy_n_ok (iy_run_ok _ _ _) rfl) (ix_R.step 1 (ix_n_iff rfl rfl (clf_lt (x := (xs 1).toInt64) (y := 0) (by rw [Int32.toInt_toInt64]; have e9 : (0 : Int64).toInt = 0 := rfl; omega))) (ix_R.step 3 (iy_n_ok (iy_run_ok _ _ _) rfl) (ix_R.step 1 (ix_n_ift rfl rfl (clt_gt (x := (xs 1).toInt64) (y := 23) (by rw [Int32.toInt_toInt64]; have e9 : (23 : Int64).toInt = 23 := rfl; omega))) (ix_R.fin 2 (iy_n_ok (iy_run_ok _ _ _) rfl)))))) (Nat.le_of_ble_eq_true rfl)))) (ix_R.fin 1 (iy_n_ok (iy_run_ok _ _ _) rfl)))) (Nat.le_of_ble_eq_true rfl)))) (ix_R.fin 3 (iy_n_ok (iy_run_ok _ _ _) rfl)))) (Nat.le_of_ble_eq_true rfl)))) (ix_R.fin 11 (iy_n_ok (iy_run_ok _ _ _) rfl)))))), Nat.le_of_ble_eq_true rfl, Nat.le_of_ble_eq_true rfl⟩
set_option maxRecDepth 1000000 in
set_option maxHeartbeats 8000000 in
theorem xo_27_k0 (xs : Nat → Int32) : ∃ (N : Nat) (hp : ix_H), N ≤ 2 ^ 15 ∧ ix_R (xTT 6 (va_up xs 1 0)) (ix_run (xTT 6 (va_up xs 1 0)) 14 8) xm_law N (1012, xLS, [], xhp0) (some (.int 1), hp) ∧ hp.1 ≤ 600000 ∧ hp.2.1 ≤ 7302250 :=
  ⟨25, _, Nat.le_of_ble_eq_true rfl, (ix_R.fin 25 (iy_n_ok (iy_run_ok _ _ _) rfl)), Nat.le_of_ble_eq_true rfl, Nat.le_of_ble_eq_true rfl⟩
set_option maxRecDepth 1000000 in
set_option maxHeartbeats 8000000 in
theorem xo_27_k1 (xs : Nat → Int32) : ∃ (N : Nat) (hp : ix_H), N ≤ 2 ^ 15 ∧ ix_R (xTT 6 (va_up xs 1 1)) (ix_run (xTT 6 (va_up xs 1 1)) 14 8) xm_law N (1012, xLS, [], xhp0) (some (.int 1), hp) ∧ hp.1 ≤ 600000 ∧ hp.2.1 ≤ 7302250 :=
  ⟨25, _, Nat.le_of_ble_eq_true rfl, (ix_R.fin 25 (iy_n_ok (iy_run_ok _ _ _) rfl)), Nat.le_of_ble_eq_true rfl, Nat.le_of_ble_eq_true rfl⟩
set_option maxRecDepth 1000000 in
set_option maxHeartbeats 8000000 in
theorem xo_27_k2 (xs : Nat → Int32) : ∃ (N : Nat) (hp : ix_H), N ≤ 2 ^ 15 ∧ ix_R (xTT 6 (va_up xs 1 2)) (ix_run (xTT 6 (va_up xs 1 2)) 14 8) xm_law N (1012, xLS, [], xhp0) (some (.int 1), hp) ∧ hp.1 ≤ 600000 ∧ hp.2.1 ≤ 7302250 :=
  ⟨25, _, Nat.le_of_ble_eq_true rfl, (ix_R.fin 25 (iy_n_ok (iy_run_ok _ _ _) rfl)), Nat.le_of_ble_eq_true rfl, Nat.le_of_ble_eq_true rfl⟩
set_option maxRecDepth 1000000 in
set_option maxHeartbeats 8000000 in
theorem xo_27_k3 (xs : Nat → Int32) : ∃ (N : Nat) (hp : ix_H), N ≤ 2 ^ 15 ∧ ix_R (xTT 6 (va_up xs 1 3)) (ix_run (xTT 6 (va_up xs 1 3)) 14 8) xm_law N (1012, xLS, [], xhp0) (some (.int 1), hp) ∧ hp.1 ≤ 600000 ∧ hp.2.1 ≤ 7302250 :=
  ⟨25, _, Nat.le_of_ble_eq_true rfl, (ix_R.fin 25 (iy_n_ok (iy_run_ok _ _ _) rfl)), Nat.le_of_ble_eq_true rfl, Nat.le_of_ble_eq_true rfl⟩
set_option maxRecDepth 1000000 in
set_option maxHeartbeats 8000000 in
theorem xo_27_k4 (xs : Nat → Int32) : ∃ (N : Nat) (hp : ix_H), N ≤ 2 ^ 15 ∧ ix_R (xTT 6 (va_up xs 1 4)) (ix_run (xTT 6 (va_up xs 1 4)) 14 8) xm_law N (1012, xLS, [], xhp0) (some (.int 1), hp) ∧ hp.1 ≤ 600000 ∧ hp.2.1 ≤ 7302250 :=
  ⟨25, _, Nat.le_of_ble_eq_true rfl, (ix_R.fin 25 (iy_n_ok (iy_run_ok _ _ _) rfl)), Nat.le_of_ble_eq_true rfl, Nat.le_of_ble_eq_true rfl⟩
set_option maxRecDepth 1000000 in
set_option maxHeartbeats 8000000 in
theorem xo_27_k5 (xs : Nat → Int32) : ∃ (N : Nat) (hp : ix_H), N ≤ 2 ^ 15 ∧ ix_R (xTT 6 (va_up xs 1 5)) (ix_run (xTT 6 (va_up xs 1 5)) 14 8) xm_law N (1012, xLS, [], xhp0) (some (.int 1), hp) ∧ hp.1 ≤ 600000 ∧ hp.2.1 ≤ 7302250 :=
  ⟨25, _, Nat.le_of_ble_eq_true rfl, (ix_R.fin 25 (iy_n_ok (iy_run_ok _ _ _) rfl)), Nat.le_of_ble_eq_true rfl, Nat.le_of_ble_eq_true rfl⟩
set_option maxRecDepth 1000000 in
set_option maxHeartbeats 8000000 in
theorem xo_27_k6 (xs : Nat → Int32) : ∃ (N : Nat) (hp : ix_H), N ≤ 2 ^ 15 ∧ ix_R (xTT 6 (va_up xs 1 6)) (ix_run (xTT 6 (va_up xs 1 6)) 14 8) xm_law N (1012, xLS, [], xhp0) (some (.int 1), hp) ∧ hp.1 ≤ 600000 ∧ hp.2.1 ≤ 7302250 :=
  ⟨25, _, Nat.le_of_ble_eq_true rfl, (ix_R.fin 25 (iy_n_ok (iy_run_ok _ _ _) rfl)), Nat.le_of_ble_eq_true rfl, Nat.le_of_ble_eq_true rfl⟩
set_option maxRecDepth 1000000 in
set_option maxHeartbeats 8000000 in
theorem xo_27_k7 (xs : Nat → Int32) : ∃ (N : Nat) (hp : ix_H), N ≤ 2 ^ 15 ∧ ix_R (xTT 6 (va_up xs 1 7)) (ix_run (xTT 6 (va_up xs 1 7)) 14 8) xm_law N (1012, xLS, [], xhp0) (some (.int 1), hp) ∧ hp.1 ≤ 600000 ∧ hp.2.1 ≤ 7302250 :=
  ⟨25, _, Nat.le_of_ble_eq_true rfl, (ix_R.fin 25 (iy_n_ok (iy_run_ok _ _ _) rfl)), Nat.le_of_ble_eq_true rfl, Nat.le_of_ble_eq_true rfl⟩
set_option maxRecDepth 1000000 in
set_option maxHeartbeats 8000000 in
theorem xo_27_k8 (xs : Nat → Int32) : ∃ (N : Nat) (hp : ix_H), N ≤ 2 ^ 15 ∧ ix_R (xTT 6 (va_up xs 1 8)) (ix_run (xTT 6 (va_up xs 1 8)) 14 8) xm_law N (1012, xLS, [], xhp0) (some (.int 1), hp) ∧ hp.1 ≤ 600000 ∧ hp.2.1 ≤ 7302250 :=
  ⟨25, _, Nat.le_of_ble_eq_true rfl, (ix_R.fin 25 (iy_n_ok (iy_run_ok _ _ _) rfl)), Nat.le_of_ble_eq_true rfl, Nat.le_of_ble_eq_true rfl⟩
set_option maxRecDepth 1000000 in
set_option maxHeartbeats 8000000 in
theorem xo_27_k9 (xs : Nat → Int32) : ∃ (N : Nat) (hp : ix_H), N ≤ 2 ^ 15 ∧ ix_R (xTT 6 (va_up xs 1 9)) (ix_run (xTT 6 (va_up xs 1 9)) 14 8) xm_law N (1012, xLS, [], xhp0) (some (.int 1), hp) ∧ hp.1 ≤ 600000 ∧ hp.2.1 ≤ 7302250 :=
  ⟨25, _, Nat.le_of_ble_eq_true rfl, (ix_R.fin 25 (iy_n_ok (iy_run_ok _ _ _) rfl)), Nat.le_of_ble_eq_true rfl, Nat.le_of_ble_eq_true rfl⟩
set_option maxRecDepth 1000000 in
set_option maxHeartbeats 8000000 in
theorem xo_27_k10 (xs : Nat → Int32) : ∃ (N : Nat) (hp : ix_H), N ≤ 2 ^ 15 ∧ ix_R (xTT 6 (va_up xs 1 10)) (ix_run (xTT 6 (va_up xs 1 10)) 14 8) xm_law N (1012, xLS, [], xhp0) (some (.int 1), hp) ∧ hp.1 ≤ 600000 ∧ hp.2.1 ≤ 7302250 :=
  ⟨25, _, Nat.le_of_ble_eq_true rfl, (ix_R.fin 25 (iy_n_ok (iy_run_ok _ _ _) rfl)), Nat.le_of_ble_eq_true rfl, Nat.le_of_ble_eq_true rfl⟩
set_option maxRecDepth 1000000 in
set_option maxHeartbeats 8000000 in
theorem xo_27_k11 (xs : Nat → Int32) : ∃ (N : Nat) (hp : ix_H), N ≤ 2 ^ 15 ∧ ix_R (xTT 6 (va_up xs 1 11)) (ix_run (xTT 6 (va_up xs 1 11)) 14 8) xm_law N (1012, xLS, [], xhp0) (some (.int 1), hp) ∧ hp.1 ≤ 600000 ∧ hp.2.1 ≤ 7302250 :=
  ⟨25, _, Nat.le_of_ble_eq_true rfl, (ix_R.fin 25 (iy_n_ok (iy_run_ok _ _ _) rfl)), Nat.le_of_ble_eq_true rfl, Nat.le_of_ble_eq_true rfl⟩
set_option maxRecDepth 1000000 in
set_option maxHeartbeats 8000000 in
theorem xo_27_k12 (xs : Nat → Int32) : ∃ (N : Nat) (hp : ix_H), N ≤ 2 ^ 15 ∧ ix_R (xTT 6 (va_up xs 1 12)) (ix_run (xTT 6 (va_up xs 1 12)) 14 8) xm_law N (1012, xLS, [], xhp0) (some (.int 1), hp) ∧ hp.1 ≤ 600000 ∧ hp.2.1 ≤ 7302250 :=
  ⟨25, _, Nat.le_of_ble_eq_true rfl, (ix_R.fin 25 (iy_n_ok (iy_run_ok _ _ _) rfl)), Nat.le_of_ble_eq_true rfl, Nat.le_of_ble_eq_true rfl⟩
set_option maxRecDepth 1000000 in
set_option maxHeartbeats 8000000 in
theorem xo_27_k13 (xs : Nat → Int32) : ∃ (N : Nat) (hp : ix_H), N ≤ 2 ^ 15 ∧ ix_R (xTT 6 (va_up xs 1 13)) (ix_run (xTT 6 (va_up xs 1 13)) 14 8) xm_law N (1012, xLS, [], xhp0) (some (.int 1), hp) ∧ hp.1 ≤ 600000 ∧ hp.2.1 ≤ 7302250 :=
  ⟨25, _, Nat.le_of_ble_eq_true rfl, (ix_R.fin 25 (iy_n_ok (iy_run_ok _ _ _) rfl)), Nat.le_of_ble_eq_true rfl, Nat.le_of_ble_eq_true rfl⟩
set_option maxRecDepth 1000000 in
set_option maxHeartbeats 8000000 in
theorem xo_27_k14 (xs : Nat → Int32) : ∃ (N : Nat) (hp : ix_H), N ≤ 2 ^ 15 ∧ ix_R (xTT 6 (va_up xs 1 14)) (ix_run (xTT 6 (va_up xs 1 14)) 14 8) xm_law N (1012, xLS, [], xhp0) (some (.int 1), hp) ∧ hp.1 ≤ 600000 ∧ hp.2.1 ≤ 7302250 :=
  ⟨25, _, Nat.le_of_ble_eq_true rfl, (ix_R.fin 25 (iy_n_ok (iy_run_ok _ _ _) rfl)), Nat.le_of_ble_eq_true rfl, Nat.le_of_ble_eq_true rfl⟩
set_option maxRecDepth 1000000 in
set_option maxHeartbeats 8000000 in
theorem xo_27_k15 (xs : Nat → Int32) : ∃ (N : Nat) (hp : ix_H), N ≤ 2 ^ 15 ∧ ix_R (xTT 6 (va_up xs 1 15)) (ix_run (xTT 6 (va_up xs 1 15)) 14 8) xm_law N (1012, xLS, [], xhp0) (some (.int 1), hp) ∧ hp.1 ≤ 600000 ∧ hp.2.1 ≤ 7302250 :=
  ⟨25, _, Nat.le_of_ble_eq_true rfl, (ix_R.fin 25 (iy_n_ok (iy_run_ok _ _ _) rfl)), Nat.le_of_ble_eq_true rfl, Nat.le_of_ble_eq_true rfl⟩
set_option maxRecDepth 1000000 in
set_option maxHeartbeats 8000000 in
theorem xo_27_k16 (xs : Nat → Int32) : ∃ (N : Nat) (hp : ix_H), N ≤ 2 ^ 15 ∧ ix_R (xTT 6 (va_up xs 1 16)) (ix_run (xTT 6 (va_up xs 1 16)) 14 8) xm_law N (1012, xLS, [], xhp0) (some (.int 1), hp) ∧ hp.1 ≤ 600000 ∧ hp.2.1 ≤ 7302250 :=
  ⟨25, _, Nat.le_of_ble_eq_true rfl, (ix_R.fin 25 (iy_n_ok (iy_run_ok _ _ _) rfl)), Nat.le_of_ble_eq_true rfl, Nat.le_of_ble_eq_true rfl⟩
set_option maxRecDepth 1000000 in
set_option maxHeartbeats 8000000 in
theorem xo_27_k17 (xs : Nat → Int32) : ∃ (N : Nat) (hp : ix_H), N ≤ 2 ^ 15 ∧ ix_R (xTT 6 (va_up xs 1 17)) (ix_run (xTT 6 (va_up xs 1 17)) 14 8) xm_law N (1012, xLS, [], xhp0) (some (.int 1), hp) ∧ hp.1 ≤ 600000 ∧ hp.2.1 ≤ 7302250 :=
  ⟨25, _, Nat.le_of_ble_eq_true rfl, (ix_R.fin 25 (iy_n_ok (iy_run_ok _ _ _) rfl)), Nat.le_of_ble_eq_true rfl, Nat.le_of_ble_eq_true rfl⟩
set_option maxRecDepth 1000000 in
set_option maxHeartbeats 8000000 in
theorem xo_27_k18 (xs : Nat → Int32) : ∃ (N : Nat) (hp : ix_H), N ≤ 2 ^ 15 ∧ ix_R (xTT 6 (va_up xs 1 18)) (ix_run (xTT 6 (va_up xs 1 18)) 14 8) xm_law N (1012, xLS, [], xhp0) (some (.int 1), hp) ∧ hp.1 ≤ 600000 ∧ hp.2.1 ≤ 7302250 :=
  ⟨25, _, Nat.le_of_ble_eq_true rfl, (ix_R.fin 25 (iy_n_ok (iy_run_ok _ _ _) rfl)), Nat.le_of_ble_eq_true rfl, Nat.le_of_ble_eq_true rfl⟩
set_option maxRecDepth 1000000 in
set_option maxHeartbeats 8000000 in
theorem xo_27_k19 (xs : Nat → Int32) : ∃ (N : Nat) (hp : ix_H), N ≤ 2 ^ 15 ∧ ix_R (xTT 6 (va_up xs 1 19)) (ix_run (xTT 6 (va_up xs 1 19)) 14 8) xm_law N (1012, xLS, [], xhp0) (some (.int 1), hp) ∧ hp.1 ≤ 600000 ∧ hp.2.1 ≤ 7302250 :=
  ⟨25, _, Nat.le_of_ble_eq_true rfl, (ix_R.fin 25 (iy_n_ok (iy_run_ok _ _ _) rfl)), Nat.le_of_ble_eq_true rfl, Nat.le_of_ble_eq_true rfl⟩
set_option maxRecDepth 1000000 in
set_option maxHeartbeats 8000000 in
theorem xo_27_k20 (xs : Nat → Int32) : ∃ (N : Nat) (hp : ix_H), N ≤ 2 ^ 15 ∧ ix_R (xTT 6 (va_up xs 1 20)) (ix_run (xTT 6 (va_up xs 1 20)) 14 8) xm_law N (1012, xLS, [], xhp0) (some (.int 1), hp) ∧ hp.1 ≤ 600000 ∧ hp.2.1 ≤ 7302250 :=
  ⟨25, _, Nat.le_of_ble_eq_true rfl, (ix_R.fin 25 (iy_n_ok (iy_run_ok _ _ _) rfl)), Nat.le_of_ble_eq_true rfl, Nat.le_of_ble_eq_true rfl⟩
set_option maxRecDepth 1000000 in
set_option maxHeartbeats 8000000 in
theorem xo_27_k21 (xs : Nat → Int32) : ∃ (N : Nat) (hp : ix_H), N ≤ 2 ^ 15 ∧ ix_R (xTT 6 (va_up xs 1 21)) (ix_run (xTT 6 (va_up xs 1 21)) 14 8) xm_law N (1012, xLS, [], xhp0) (some (.int 1), hp) ∧ hp.1 ≤ 600000 ∧ hp.2.1 ≤ 7302250 :=
  ⟨25, _, Nat.le_of_ble_eq_true rfl, (ix_R.fin 25 (iy_n_ok (iy_run_ok _ _ _) rfl)), Nat.le_of_ble_eq_true rfl, Nat.le_of_ble_eq_true rfl⟩
set_option maxRecDepth 1000000 in
set_option maxHeartbeats 8000000 in
theorem xo_27_k22 (xs : Nat → Int32) : ∃ (N : Nat) (hp : ix_H), N ≤ 2 ^ 15 ∧ ix_R (xTT 6 (va_up xs 1 22)) (ix_run (xTT 6 (va_up xs 1 22)) 14 8) xm_law N (1012, xLS, [], xhp0) (some (.int 1), hp) ∧ hp.1 ≤ 600000 ∧ hp.2.1 ≤ 7302250 :=
  ⟨25, _, Nat.le_of_ble_eq_true rfl, (ix_R.fin 25 (iy_n_ok (iy_run_ok _ _ _) rfl)), Nat.le_of_ble_eq_true rfl, Nat.le_of_ble_eq_true rfl⟩
set_option maxRecDepth 1000000 in
set_option maxHeartbeats 8000000 in
theorem xo_27_k23 (xs : Nat → Int32) : ∃ (N : Nat) (hp : ix_H), N ≤ 2 ^ 15 ∧ ix_R (xTT 6 (va_up xs 1 23)) (ix_run (xTT 6 (va_up xs 1 23)) 14 8) xm_law N (1012, xLS, [], xhp0) (some (.int 1), hp) ∧ hp.1 ≤ 600000 ∧ hp.2.1 ≤ 7302250 :=
  ⟨25, _, Nat.le_of_ble_eq_true rfl, (ix_R.fin 25 (iy_n_ok (iy_run_ok _ _ _) rfl)), Nat.le_of_ble_eq_true rfl, Nat.le_of_ble_eq_true rfl⟩
set_option maxRecDepth 1000000 in
set_option maxHeartbeats 8000000 in
theorem xo_28_all (xs : Nat → Int32) : ∃ (N : Nat) (hp : ix_H), N ≤ 2 ^ 15 ∧ ix_R (xTT 6 xs) (ix_run (xTT 6 xs) 14 8) xm_law N (1035, xLS, [], xhp0) (some (.int 1), hp) ∧ hp.1 ≤ 600000 ∧ hp.2.1 ≤ 7302250 :=
  ⟨25, _, Nat.le_of_ble_eq_true rfl, (ix_R.fin 25 (iy_n_ok (iy_run_ok _ _ _) rfl)), Nat.le_of_ble_eq_true rfl, Nat.le_of_ble_eq_true rfl⟩
set_option maxRecDepth 1000000 in
set_option maxHeartbeats 8000000 in
theorem xo_29_neg (xs : Nat → Int32) (h1 : -2147483648 ≤ (xs 1).toInt ∧ (xs 1).toInt ≤ -1) : ∃ (N : Nat) (hp : ix_H), N ≤ 2 ^ 15 ∧ ix_R (xTT 6 xs) (ix_run (xTT 6 xs) 14 8) xm_law N (1058, xLS, [], xhp0) (some (.int 1), hp) ∧ hp.1 ≤ 600000 ∧ hp.2.1 ≤ 7302250 :=
  ⟨26, _, Nat.le_of_ble_eq_true rfl, (ix_R.step 6 (iy_n_ok (iy_run_ok _ _ _) rfl) (ix_R.step 1 (ix_n_call (Or.inl ⟨_, rfl⟩) rfl (ix_cal_v rfl (Or.inl rfl) rfl rfl rfl ⟨rfl, Nat.le_of_ble_eq_true rfl, Nat.le_of_ble_eq_true rfl⟩ (ix_R.run (N := 5) rfl (Nat.le_of_ble_eq_true rfl) (ix_R.step 1 (iy_n_ok (iy_run_ok _ _ _) rfl) (ix_R.step 1 (ix_n_ift rfl rfl (cbt_lt (x := xs 1) (y := 0) (by have e9 : (0 : Int32).toInt = 0 := rfl; omega))) (ix_R.fin 3 (iy_n_ok (iy_run_ok _ _ _) rfl)))) (Nat.le_of_ble_eq_true rfl)))) (ix_R.step 6 (iy_n_ok (iy_run_ok _ _ _) rfl) (ix_R.step 1 (ix_n_call (Or.inl ⟨_, rfl⟩) rfl (ix_cal_v rfl (Or.inl rfl) rfl rfl rfl ⟨rfl, Nat.le_of_ble_eq_true rfl, Nat.le_of_ble_eq_true rfl⟩ (ix_R.run (N := 8) rfl (Nat.le_of_ble_eq_true rfl) (ix_R.step 4 (iy_n_ok (iy_run_ok _ _ _) rfl) (ix_R.step 1 (ix_n_call (Or.inr (Or.inr ⟨_, rfl⟩)) rfl (ix_cal_s rfl (Or.inl rfl) ⟨Nat.le_of_ble_eq_true rfl, Nat.le_of_ble_eq_true rfl⟩ (ix_R.run (N := 6) rfl (Nat.le_of_ble_eq_true rfl) (ix_R.step 3 (iy_n_ok (iy_run_ok _ _ _) rfl) (ix_R.step 1 (ix_n_ift rfl rfl (clt_lt (x := (xs 1).toInt64) (y := 0) (by rw [Int32.toInt_toInt64]; have e9 : (0 : Int64).toInt = 0 := rfl; omega))) (ix_R.fin 2 (iy_n_ok (iy_run_ok _ _ _) rfl)))) (Nat.le_of_ble_eq_true rfl)))) (ix_R.fin 3 (iy_n_ok (iy_run_ok _ _ _) rfl)))) (Nat.le_of_ble_eq_true rfl)))) (ix_R.fin 12 (iy_n_ok (iy_run_ok _ _ _) rfl)))))), Nat.le_of_ble_eq_true rfl, Nat.le_of_ble_eq_true rfl⟩
set_option maxRecDepth 1000000 in
set_option maxHeartbeats 8000000 in
theorem xo_29_big (xs : Nat → Int32) (h1 : 8 ≤ (xs 1).toInt ∧ (xs 1).toInt ≤ 2147483647) : ∃ (N : Nat) (hp : ix_H), N ≤ 2 ^ 15 ∧ ix_R (xTT 6 xs) (ix_run (xTT 6 xs) 14 8) xm_law N (1058, xLS, [], xhp0) (some (.int 1), hp) ∧ hp.1 ≤ 600000 ∧ hp.2.1 ≤ 7302250 :=
  ⟨26, _, Nat.le_of_ble_eq_true rfl, (ix_R.step 6 (iy_n_ok (iy_run_ok _ _ _) rfl) (ix_R.step 1 (ix_n_call (Or.inl ⟨_, rfl⟩) rfl (ix_cal_v rfl (Or.inl rfl) rfl rfl rfl ⟨rfl, Nat.le_of_ble_eq_true rfl, Nat.le_of_ble_eq_true rfl⟩ (ix_R.run (N := 8) rfl (Nat.le_of_ble_eq_true rfl) (ix_R.step 1 (iy_n_ok (iy_run_ok _ _ _) rfl) (ix_R.step 1 (ix_n_iff rfl rfl (cbf_lt (x := xs 1) (y := 0) (by have e9 : (0 : Int32).toInt = 0 := rfl; omega))) (ix_R.step 2 (iy_n_ok (iy_run_ok _ _ _) rfl) (ix_R.step 1 (ix_n_icmpf rfl rfl (cbf_lt (x := xs 1) (y := 8) (by have e9 : (8 : Int32).toInt = 8 := rfl; omega))) (ix_R.fin 3 (iy_n_ok (iy_run_ok _ _ _) rfl)))))) (Nat.le_of_ble_eq_true rfl)))) (ix_R.step 6 (iy_n_ok (iy_run_ok _ _ _) rfl) (ix_R.step 1 (ix_n_call (Or.inl ⟨_, rfl⟩) rfl (ix_cal_v rfl (Or.inl rfl) rfl rfl rfl ⟨rfl, Nat.le_of_ble_eq_true rfl, Nat.le_of_ble_eq_true rfl⟩ (ix_R.run (N := 8) rfl (Nat.le_of_ble_eq_true rfl) (ix_R.step 4 (iy_n_ok (iy_run_ok _ _ _) rfl) (ix_R.step 1 (ix_n_call (Or.inr (Or.inr ⟨_, rfl⟩)) rfl (ix_cal_s rfl (Or.inl rfl) ⟨Nat.le_of_ble_eq_true rfl, Nat.le_of_ble_eq_true rfl⟩ (ix_R.run (N := 10) rfl (Nat.le_of_ble_eq_true rfl) (ix_R.step 3 (iy_n_ok (iy_run_ok _ _ _) rfl) (ix_R.step 1 (ix_n_iff rfl rfl (clf_lt (x := (xs 1).toInt64) (y := 0) (by rw [Int32.toInt_toInt64]; have e9 : (0 : Int64).toInt = 0 := rfl; omega))) (ix_R.step 3 (iy_n_ok (iy_run_ok _ _ _) rfl) (ix_R.step 1 (ix_n_ift rfl rfl (clt_gt (x := (xs 1).toInt64) (y := 7) (by rw [Int32.toInt_toInt64]; have e9 : (7 : Int64).toInt = 7 := rfl; omega))) (ix_R.fin 2 (iy_n_ok (iy_run_ok _ _ _) rfl)))))) (Nat.le_of_ble_eq_true rfl)))) (ix_R.fin 3 (iy_n_ok (iy_run_ok _ _ _) rfl)))) (Nat.le_of_ble_eq_true rfl)))) (ix_R.fin 12 (iy_n_ok (iy_run_ok _ _ _) rfl)))))), Nat.le_of_ble_eq_true rfl, Nat.le_of_ble_eq_true rfl⟩
set_option maxRecDepth 1000000 in
set_option maxHeartbeats 8000000 in
theorem xo_29_k0 (xs : Nat → Int32) : ∃ (N : Nat) (hp : ix_H), N ≤ 2 ^ 15 ∧ ix_R (xTT 6 (va_up xs 1 0)) (ix_run (xTT 6 (va_up xs 1 0)) 14 8) xm_law N (1058, xLS, [], xhp0) (some (.int 1), hp) ∧ hp.1 ≤ 600000 ∧ hp.2.1 ≤ 7302250 :=
  ⟨26, _, Nat.le_of_ble_eq_true rfl, (ix_R.fin 26 (iy_n_ok (iy_run_ok _ _ _) rfl)), Nat.le_of_ble_eq_true rfl, Nat.le_of_ble_eq_true rfl⟩
