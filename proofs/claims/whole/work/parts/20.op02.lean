set_option maxRecDepth 1000000 in
set_option maxHeartbeats 8000000 in
theorem xo_11_k0 (xs : Nat → Int32) : ∃ (N : Nat) (hp : ix_H), N ≤ 2 ^ 15 ∧ ix_R (xTT 6 (va_up xs 1 0)) (ix_run (xTT 6 (va_up xs 1 0)) 14 8) xm_law N (572, xLS, [], xhp0) (some (.int 1), hp) ∧ hp.1 ≤ 600000 ∧ hp.2.1 ≤ 7302250 :=
  ⟨35, _, Nat.le_of_ble_eq_true rfl, (ix_R.fin 35 (iy_n_ok (iy_run_ok _ _ _) rfl)), Nat.le_of_ble_eq_true rfl, Nat.le_of_ble_eq_true rfl⟩
set_option maxRecDepth 1000000 in
set_option maxHeartbeats 8000000 in
theorem xo_11_k1 (xs : Nat → Int32) : ∃ (N : Nat) (hp : ix_H), N ≤ 2 ^ 15 ∧ ix_R (xTT 6 (va_up xs 1 1)) (ix_run (xTT 6 (va_up xs 1 1)) 14 8) xm_law N (572, xLS, [], xhp0) (some (.int 1), hp) ∧ hp.1 ≤ 600000 ∧ hp.2.1 ≤ 7302250 :=
  ⟨35, _, Nat.le_of_ble_eq_true rfl, (ix_R.fin 35 (iy_n_ok (iy_run_ok _ _ _) rfl)), Nat.le_of_ble_eq_true rfl, Nat.le_of_ble_eq_true rfl⟩
set_option maxRecDepth 1000000 in
set_option maxHeartbeats 8000000 in
theorem xo_11_k2 (xs : Nat → Int32) : ∃ (N : Nat) (hp : ix_H), N ≤ 2 ^ 15 ∧ ix_R (xTT 6 (va_up xs 1 2)) (ix_run (xTT 6 (va_up xs 1 2)) 14 8) xm_law N (572, xLS, [], xhp0) (some (.int 1), hp) ∧ hp.1 ≤ 600000 ∧ hp.2.1 ≤ 7302250 :=
  ⟨35, _, Nat.le_of_ble_eq_true rfl, (ix_R.fin 35 (iy_n_ok (iy_run_ok _ _ _) rfl)), Nat.le_of_ble_eq_true rfl, Nat.le_of_ble_eq_true rfl⟩
set_option maxRecDepth 1000000 in
set_option maxHeartbeats 8000000 in
theorem xo_11_k3 (xs : Nat → Int32) : ∃ (N : Nat) (hp : ix_H), N ≤ 2 ^ 15 ∧ ix_R (xTT 6 (va_up xs 1 3)) (ix_run (xTT 6 (va_up xs 1 3)) 14 8) xm_law N (572, xLS, [], xhp0) (some (.int 1), hp) ∧ hp.1 ≤ 600000 ∧ hp.2.1 ≤ 7302250 :=
  ⟨35, _, Nat.le_of_ble_eq_true rfl, (ix_R.fin 35 (iy_n_ok (iy_run_ok _ _ _) rfl)), Nat.le_of_ble_eq_true rfl, Nat.le_of_ble_eq_true rfl⟩
set_option maxRecDepth 1000000 in
set_option maxHeartbeats 8000000 in
theorem xo_11_k4 (xs : Nat → Int32) : ∃ (N : Nat) (hp : ix_H), N ≤ 2 ^ 15 ∧ ix_R (xTT 6 (va_up xs 1 4)) (ix_run (xTT 6 (va_up xs 1 4)) 14 8) xm_law N (572, xLS, [], xhp0) (some (.int 1), hp) ∧ hp.1 ≤ 600000 ∧ hp.2.1 ≤ 7302250 :=
  ⟨35, _, Nat.le_of_ble_eq_true rfl, (ix_R.fin 35 (iy_n_ok (iy_run_ok _ _ _) rfl)), Nat.le_of_ble_eq_true rfl, Nat.le_of_ble_eq_true rfl⟩
set_option maxRecDepth 1000000 in
set_option maxHeartbeats 8000000 in
theorem xo_11_k5 (xs : Nat → Int32) : ∃ (N : Nat) (hp : ix_H), N ≤ 2 ^ 15 ∧ ix_R (xTT 6 (va_up xs 1 5)) (ix_run (xTT 6 (va_up xs 1 5)) 14 8) xm_law N (572, xLS, [], xhp0) (some (.int 1), hp) ∧ hp.1 ≤ 600000 ∧ hp.2.1 ≤ 7302250 :=
  ⟨35, _, Nat.le_of_ble_eq_true rfl, (ix_R.fin 35 (iy_n_ok (iy_run_ok _ _ _) rfl)), Nat.le_of_ble_eq_true rfl, Nat.le_of_ble_eq_true rfl⟩
set_option maxRecDepth 1000000 in
set_option maxHeartbeats 8000000 in
theorem xo_11_k6 (xs : Nat → Int32) : ∃ (N : Nat) (hp : ix_H), N ≤ 2 ^ 15 ∧ ix_R (xTT 6 (va_up xs 1 6)) (ix_run (xTT 6 (va_up xs 1 6)) 14 8) xm_law N (572, xLS, [], xhp0) (some (.int 1), hp) ∧ hp.1 ≤ 600000 ∧ hp.2.1 ≤ 7302250 :=
  ⟨35, _, Nat.le_of_ble_eq_true rfl, (ix_R.fin 35 (iy_n_ok (iy_run_ok _ _ _) rfl)), Nat.le_of_ble_eq_true rfl, Nat.le_of_ble_eq_true rfl⟩
set_option maxRecDepth 1000000 in
set_option maxHeartbeats 8000000 in
theorem xo_11_k7 (xs : Nat → Int32) : ∃ (N : Nat) (hp : ix_H), N ≤ 2 ^ 15 ∧ ix_R (xTT 6 (va_up xs 1 7)) (ix_run (xTT 6 (va_up xs 1 7)) 14 8) xm_law N (572, xLS, [], xhp0) (some (.int 1), hp) ∧ hp.1 ≤ 600000 ∧ hp.2.1 ≤ 7302250 :=
  ⟨35, _, Nat.le_of_ble_eq_true rfl, (ix_R.fin 35 (iy_n_ok (iy_run_ok _ _ _) rfl)), Nat.le_of_ble_eq_true rfl, Nat.le_of_ble_eq_true rfl⟩
set_option maxRecDepth 1000000 in
set_option maxHeartbeats 8000000 in
theorem xo_11_k8 (xs : Nat → Int32) : ∃ (N : Nat) (hp : ix_H), N ≤ 2 ^ 15 ∧ ix_R (xTT 6 (va_up xs 1 8)) (ix_run (xTT 6 (va_up xs 1 8)) 14 8) xm_law N (572, xLS, [], xhp0) (some (.int 1), hp) ∧ hp.1 ≤ 600000 ∧ hp.2.1 ≤ 7302250 :=
  ⟨35, _, Nat.le_of_ble_eq_true rfl, (ix_R.fin 35 (iy_n_ok (iy_run_ok _ _ _) rfl)), Nat.le_of_ble_eq_true rfl, Nat.le_of_ble_eq_true rfl⟩
set_option maxRecDepth 1000000 in
set_option maxHeartbeats 8000000 in
theorem xo_11_k9 (xs : Nat → Int32) : ∃ (N : Nat) (hp : ix_H), N ≤ 2 ^ 15 ∧ ix_R (xTT 6 (va_up xs 1 9)) (ix_run (xTT 6 (va_up xs 1 9)) 14 8) xm_law N (572, xLS, [], xhp0) (some (.int 1), hp) ∧ hp.1 ≤ 600000 ∧ hp.2.1 ≤ 7302250 :=
  ⟨35, _, Nat.le_of_ble_eq_true rfl, (ix_R.fin 35 (iy_n_ok (iy_run_ok _ _ _) rfl)), Nat.le_of_ble_eq_true rfl, Nat.le_of_ble_eq_true rfl⟩
set_option maxRecDepth 1000000 in
set_option maxHeartbeats 8000000 in
theorem xo_11_k10 (xs : Nat → Int32) : ∃ (N : Nat) (hp : ix_H), N ≤ 2 ^ 15 ∧ ix_R (xTT 6 (va_up xs 1 10)) (ix_run (xTT 6 (va_up xs 1 10)) 14 8) xm_law N (572, xLS, [], xhp0) (some (.int 1), hp) ∧ hp.1 ≤ 600000 ∧ hp.2.1 ≤ 7302250 :=
  ⟨35, _, Nat.le_of_ble_eq_true rfl, (ix_R.fin 35 (iy_n_ok (iy_run_ok _ _ _) rfl)), Nat.le_of_ble_eq_true rfl, Nat.le_of_ble_eq_true rfl⟩
set_option maxRecDepth 1000000 in
set_option maxHeartbeats 8000000 in
theorem xo_11_k11 (xs : Nat → Int32) : ∃ (N : Nat) (hp : ix_H), N ≤ 2 ^ 15 ∧ ix_R (xTT 6 (va_up xs 1 11)) (ix_run (xTT 6 (va_up xs 1 11)) 14 8) xm_law N (572, xLS, [], xhp0) (some (.int 1), hp) ∧ hp.1 ≤ 600000 ∧ hp.2.1 ≤ 7302250 :=
  ⟨35, _, Nat.le_of_ble_eq_true rfl, (ix_R.fin 35 (iy_n_ok (iy_run_ok _ _ _) rfl)), Nat.le_of_ble_eq_true rfl, Nat.le_of_ble_eq_true rfl⟩
set_option maxRecDepth 1000000 in
set_option maxHeartbeats 8000000 in
theorem xo_11_k12 (xs : Nat → Int32) : ∃ (N : Nat) (hp : ix_H), N ≤ 2 ^ 15 ∧ ix_R (xTT 6 (va_up xs 1 12)) (ix_run (xTT 6 (va_up xs 1 12)) 14 8) xm_law N (572, xLS, [], xhp0) (some (.int 1), hp) ∧ hp.1 ≤ 600000 ∧ hp.2.1 ≤ 7302250 :=
  ⟨35, _, Nat.le_of_ble_eq_true rfl, (ix_R.fin 35 (iy_n_ok (iy_run_ok _ _ _) rfl)), Nat.le_of_ble_eq_true rfl, Nat.le_of_ble_eq_true rfl⟩
set_option maxRecDepth 1000000 in
set_option maxHeartbeats 8000000 in
theorem xo_11_k13 (xs : Nat → Int32) : ∃ (N : Nat) (hp : ix_H), N ≤ 2 ^ 15 ∧ ix_R (xTT 6 (va_up xs 1 13)) (ix_run (xTT 6 (va_up xs 1 13)) 14 8) xm_law N (572, xLS, [], xhp0) (some (.int 1), hp) ∧ hp.1 ≤ 600000 ∧ hp.2.1 ≤ 7302250 :=
  ⟨35, _, Nat.le_of_ble_eq_true rfl, (ix_R.fin 35 (iy_n_ok (iy_run_ok _ _ _) rfl)), Nat.le_of_ble_eq_true rfl, Nat.le_of_ble_eq_true rfl⟩
set_option maxRecDepth 1000000 in
set_option maxHeartbeats 8000000 in
theorem xo_11_k14 (xs : Nat → Int32) : ∃ (N : Nat) (hp : ix_H), N ≤ 2 ^ 15 ∧ ix_R (xTT 6 (va_up xs 1 14)) (ix_run (xTT 6 (va_up xs 1 14)) 14 8) xm_law N (572, xLS, [], xhp0) (some (.int 1), hp) ∧ hp.1 ≤ 600000 ∧ hp.2.1 ≤ 7302250 :=
  ⟨35, _, Nat.le_of_ble_eq_true rfl, (ix_R.fin 35 (iy_n_ok (iy_run_ok _ _ _) rfl)), Nat.le_of_ble_eq_true rfl, Nat.le_of_ble_eq_true rfl⟩
set_option maxRecDepth 1000000 in
set_option maxHeartbeats 8000000 in
theorem xo_11_k15 (xs : Nat → Int32) : ∃ (N : Nat) (hp : ix_H), N ≤ 2 ^ 15 ∧ ix_R (xTT 6 (va_up xs 1 15)) (ix_run (xTT 6 (va_up xs 1 15)) 14 8) xm_law N (572, xLS, [], xhp0) (some (.int 1), hp) ∧ hp.1 ≤ 600000 ∧ hp.2.1 ≤ 7302250 :=
  ⟨35, _, Nat.le_of_ble_eq_true rfl, (ix_R.fin 35 (iy_n_ok (iy_run_ok _ _ _) rfl)), Nat.le_of_ble_eq_true rfl, Nat.le_of_ble_eq_true rfl⟩
set_option maxRecDepth 1000000 in
set_option maxHeartbeats 8000000 in
theorem xo_11_k16 (xs : Nat → Int32) : ∃ (N : Nat) (hp : ix_H), N ≤ 2 ^ 15 ∧ ix_R (xTT 6 (va_up xs 1 16)) (ix_run (xTT 6 (va_up xs 1 16)) 14 8) xm_law N (572, xLS, [], xhp0) (some (.int 1), hp) ∧ hp.1 ≤ 600000 ∧ hp.2.1 ≤ 7302250 :=
  ⟨35, _, Nat.le_of_ble_eq_true rfl, (ix_R.fin 35 (iy_n_ok (iy_run_ok _ _ _) rfl)), Nat.le_of_ble_eq_true rfl, Nat.le_of_ble_eq_true rfl⟩
set_option maxRecDepth 1000000 in
set_option maxHeartbeats 8000000 in
theorem xo_11_k17 (xs : Nat → Int32) : ∃ (N : Nat) (hp : ix_H), N ≤ 2 ^ 15 ∧ ix_R (xTT 6 (va_up xs 1 17)) (ix_run (xTT 6 (va_up xs 1 17)) 14 8) xm_law N (572, xLS, [], xhp0) (some (.int 1), hp) ∧ hp.1 ≤ 600000 ∧ hp.2.1 ≤ 7302250 :=
  ⟨35, _, Nat.le_of_ble_eq_true rfl, (ix_R.fin 35 (iy_n_ok (iy_run_ok _ _ _) rfl)), Nat.le_of_ble_eq_true rfl, Nat.le_of_ble_eq_true rfl⟩
set_option maxRecDepth 1000000 in
set_option maxHeartbeats 8000000 in
theorem xo_11_k18 (xs : Nat → Int32) : ∃ (N : Nat) (hp : ix_H), N ≤ 2 ^ 15 ∧ ix_R (xTT 6 (va_up xs 1 18)) (ix_run (xTT 6 (va_up xs 1 18)) 14 8) xm_law N (572, xLS, [], xhp0) (some (.int 1), hp) ∧ hp.1 ≤ 600000 ∧ hp.2.1 ≤ 7302250 :=
  ⟨35, _, Nat.le_of_ble_eq_true rfl, (ix_R.fin 35 (iy_n_ok (iy_run_ok _ _ _) rfl)), Nat.le_of_ble_eq_true rfl, Nat.le_of_ble_eq_true rfl⟩
set_option maxRecDepth 1000000 in
set_option maxHeartbeats 8000000 in
theorem xo_11_k19 (xs : Nat → Int32) : ∃ (N : Nat) (hp : ix_H), N ≤ 2 ^ 15 ∧ ix_R (xTT 6 (va_up xs 1 19)) (ix_run (xTT 6 (va_up xs 1 19)) 14 8) xm_law N (572, xLS, [], xhp0) (some (.int 1), hp) ∧ hp.1 ≤ 600000 ∧ hp.2.1 ≤ 7302250 :=
  ⟨35, _, Nat.le_of_ble_eq_true rfl, (ix_R.fin 35 (iy_n_ok (iy_run_ok _ _ _) rfl)), Nat.le_of_ble_eq_true rfl, Nat.le_of_ble_eq_true rfl⟩
set_option maxRecDepth 1000000 in
set_option maxHeartbeats 8000000 in
theorem xo_11_k20 (xs : Nat → Int32) : ∃ (N : Nat) (hp : ix_H), N ≤ 2 ^ 15 ∧ ix_R (xTT 6 (va_up xs 1 20)) (ix_run (xTT 6 (va_up xs 1 20)) 14 8) xm_law N (572, xLS, [], xhp0) (some (.int 1), hp) ∧ hp.1 ≤ 600000 ∧ hp.2.1 ≤ 7302250 :=
  ⟨35, _, Nat.le_of_ble_eq_true rfl, (ix_R.fin 35 (iy_n_ok (iy_run_ok _ _ _) rfl)), Nat.le_of_ble_eq_true rfl, Nat.le_of_ble_eq_true rfl⟩
set_option maxRecDepth 1000000 in
set_option maxHeartbeats 8000000 in
theorem xo_11_k21 (xs : Nat → Int32) : ∃ (N : Nat) (hp : ix_H), N ≤ 2 ^ 15 ∧ ix_R (xTT 6 (va_up xs 1 21)) (ix_run (xTT 6 (va_up xs 1 21)) 14 8) xm_law N (572, xLS, [], xhp0) (some (.int 1), hp) ∧ hp.1 ≤ 600000 ∧ hp.2.1 ≤ 7302250 :=
  ⟨35, _, Nat.le_of_ble_eq_true rfl, (ix_R.fin 35 (iy_n_ok (iy_run_ok _ _ _) rfl)), Nat.le_of_ble_eq_true rfl, Nat.le_of_ble_eq_true rfl⟩
set_option maxRecDepth 1000000 in
set_option maxHeartbeats 8000000 in
theorem xo_11_k22 (xs : Nat → Int32) : ∃ (N : Nat) (hp : ix_H), N ≤ 2 ^ 15 ∧ ix_R (xTT 6 (va_up xs 1 22)) (ix_run (xTT 6 (va_up xs 1 22)) 14 8) xm_law N (572, xLS, [], xhp0) (some (.int 1), hp) ∧ hp.1 ≤ 600000 ∧ hp.2.1 ≤ 7302250 :=
  ⟨35, _, Nat.le_of_ble_eq_true rfl, (ix_R.fin 35 (iy_n_ok (iy_run_ok _ _ _) rfl)), Nat.le_of_ble_eq_true rfl, Nat.le_of_ble_eq_true rfl⟩
set_option maxRecDepth 1000000 in
set_option maxHeartbeats 8000000 in
theorem xo_11_k23 (xs : Nat → Int32) : ∃ (N : Nat) (hp : ix_H), N ≤ 2 ^ 15 ∧ ix_R (xTT 6 (va_up xs 1 23)) (ix_run (xTT 6 (va_up xs 1 23)) 14 8) xm_law N (572, xLS, [], xhp0) (some (.int 1), hp) ∧ hp.1 ≤ 600000 ∧ hp.2.1 ≤ 7302250 :=
  ⟨35, _, Nat.le_of_ble_eq_true rfl, (ix_R.fin 35 (iy_n_ok (iy_run_ok _ _ _) rfl)), Nat.le_of_ble_eq_true rfl, Nat.le_of_ble_eq_true rfl⟩
set_option maxRecDepth 1000000 in
set_option maxHeartbeats 8000000 in
theorem xo_12_neg (xs : Nat → Int32) (h1 : -2147483648 ≤ (xs 1).toInt ∧ (xs 1).toInt ≤ -1) : ∃ (N : Nat) (hp : ix_H), N ≤ 2 ^ 15 ∧ ix_R (xTT 6 xs) (ix_run (xTT 6 xs) 14 8) xm_law N (605, xLS, [], xhp0) (some (.int 1), hp) ∧ hp.1 ≤ 600000 ∧ hp.2.1 ≤ 7302250 :=
  ⟨25, _, Nat.le_of_ble_eq_true rfl, (ix_R.step 6 (iy_n_ok (iy_run_ok _ _ _) rfl) (ix_R.step 1 (ix_n_call (Or.inl ⟨_, rfl⟩) rfl (ix_cal_v rfl (Or.inl rfl) rfl rfl rfl ⟨rfl, Nat.le_of_ble_eq_true rfl, Nat.le_of_ble_eq_true rfl⟩ (ix_R.run (N := 6) rfl (Nat.le_of_ble_eq_true rfl) (ix_R.step 2 (iy_n_ok (iy_run_ok _ _ _) rfl) (ix_R.step 1 (ix_n_call (Or.inl ⟨_, rfl⟩) rfl (ix_cal_v rfl (Or.inl rfl) rfl rfl rfl ⟨rfl, Nat.le_of_ble_eq_true rfl, Nat.le_of_ble_eq_true rfl⟩ (ix_R.run (N := 4) rfl (Nat.le_of_ble_eq_true rfl) (ix_R.step 1 (iy_n_ok (iy_run_ok _ _ _) rfl) (ix_R.step 1 (ix_n_ift rfl rfl (cbt_lt (x := xs 1) (y := 0) (by have e9 : (0 : Int32).toInt = 0 := rfl; omega))) (ix_R.fin 2 (iy_n_ok (iy_run_ok _ _ _) rfl)))) (Nat.le_of_ble_eq_true rfl)))) (ix_R.fin 3 (iy_n_ok (iy_run_ok _ _ _) rfl)))) (Nat.le_of_ble_eq_true rfl)))) (ix_R.step 6 (iy_n_ok (iy_run_ok _ _ _) rfl) (ix_R.step 1 (ix_n_call (Or.inl ⟨_, rfl⟩) rfl (ix_cal_v rfl (Or.inl rfl) rfl rfl rfl ⟨rfl, Nat.le_of_ble_eq_true rfl, Nat.le_of_ble_eq_true rfl⟩ (ix_R.run (N := 6) rfl (Nat.le_of_ble_eq_true rfl) (ix_R.step 2 (iy_n_ok (iy_run_ok _ _ _) rfl) (ix_R.step 1 (ix_n_call (Or.inl ⟨_, rfl⟩) rfl (ix_cal_v rfl (Or.inl rfl) rfl rfl rfl ⟨rfl, Nat.le_of_ble_eq_true rfl, Nat.le_of_ble_eq_true rfl⟩ (ix_R.run (N := 5) rfl (Nat.le_of_ble_eq_true rfl) (ix_R.step 1 (iy_n_ok (iy_run_ok _ _ _) rfl) (ix_R.step 1 (ix_n_call (Or.inr (Or.inr ⟨_, rfl⟩)) rfl (ix_cal_s rfl (Or.inl rfl) ⟨Nat.le_of_ble_eq_true rfl, Nat.le_of_ble_eq_true rfl⟩ (ix_R.run (N := 6) rfl (Nat.le_of_ble_eq_true rfl) (ix_R.step 4 (iy_n_ok (iy_run_ok _ _ _) rfl) (ix_R.step 1 (ix_n_call (Or.inr (Or.inr ⟨_, rfl⟩)) rfl (ix_cal_s rfl (Or.inl rfl) ⟨Nat.le_of_ble_eq_true rfl, Nat.le_of_ble_eq_true rfl⟩ (ix_R.run (N := 6) rfl (Nat.le_of_ble_eq_true rfl) (ix_R.step 3 (iy_n_ok (iy_run_ok _ _ _) rfl) (ix_R.step 1 (ix_n_ift rfl rfl (clt_lt (x := (xs 1).toInt64) (y := 0) (by rw [Int32.toInt_toInt64]; have e9 : (0 : Int64).toInt = 0 := rfl; omega))) (ix_R.fin 2 (iy_n_ok (iy_run_ok _ _ _) rfl)))) (Nat.le_of_ble_eq_true rfl)))) (ix_R.fin 1 (iy_n_ok (iy_run_ok _ _ _) rfl)))) (Nat.le_of_ble_eq_true rfl)))) (ix_R.fin 3 (iy_n_ok (iy_run_ok _ _ _) rfl)))) (Nat.le_of_ble_eq_true rfl)))) (ix_R.fin 3 (iy_n_ok (iy_run_ok _ _ _) rfl)))) (Nat.le_of_ble_eq_true rfl)))) (ix_R.fin 11 (iy_n_ok (iy_run_ok _ _ _) rfl)))))), Nat.le_of_ble_eq_true rfl, Nat.le_of_ble_eq_true rfl⟩
set_option maxRecDepth 1000000 in
set_option maxHeartbeats 8000000 in
theorem xo_12_big (xs : Nat → Int32) (h1 : 24 ≤ (xs 1).toInt ∧ (xs 1).toInt ≤ 2147483647) : ∃ (N : Nat) (hp : ix_H), N ≤ 2 ^ 15 ∧ ix_R (xTT 6 xs) (ix_run (xTT 6 xs) 14 8) xm_law N (605, xLS, [], xhp0) (some (.int 1), hp) ∧ hp.1 ≤ 600000 ∧ hp.2.1 ≤ 7302250 :=
  ⟨25, _, Nat.le_of_ble_eq_true rfl, (ix_R.step 6 (iy_n_ok (iy_run_ok _ _ _) rfl) (ix_R.step 1 (ix_n_call (Or.inl ⟨_, rfl⟩) rfl (ix_cal_v rfl (Or.inl rfl) rfl rfl rfl ⟨rfl, Nat.le_of_ble_eq_true rfl, Nat.le_of_ble_eq_true rfl⟩ (ix_R.run (N := 6) rfl (Nat.le_of_ble_eq_true rfl) (ix_R.step 2 (iy_n_ok (iy_run_ok _ _ _) rfl) (ix_R.step 1 (ix_n_call (Or.inl ⟨_, rfl⟩) rfl (ix_cal_v rfl (Or.inl rfl) rfl rfl rfl ⟨rfl, Nat.le_of_ble_eq_true rfl, Nat.le_of_ble_eq_true rfl⟩ (ix_R.run (N := 7) rfl (Nat.le_of_ble_eq_true rfl) (ix_R.step 1 (iy_n_ok (iy_run_ok _ _ _) rfl) (ix_R.step 1 (ix_n_iff rfl rfl (cbf_lt (x := xs 1) (y := 0) (by have e9 : (0 : Int32).toInt = 0 := rfl; omega))) (ix_R.step 2 (iy_n_ok (iy_run_ok _ _ _) rfl) (ix_R.step 1 (ix_n_icmpt rfl rfl (cbt_ge (x := xs 1) (y := 24) (by have e9 : (24 : Int32).toInt = 24 := rfl; omega))) (ix_R.fin 2 (iy_n_ok (iy_run_ok _ _ _) rfl)))))) (Nat.le_of_ble_eq_true rfl)))) (ix_R.fin 3 (iy_n_ok (iy_run_ok _ _ _) rfl)))) (Nat.le_of_ble_eq_true rfl)))) (ix_R.step 6 (iy_n_ok (iy_run_ok _ _ _) rfl) (ix_R.step 1 (ix_n_call (Or.inl ⟨_, rfl⟩) rfl (ix_cal_v rfl (Or.inl rfl) rfl rfl rfl ⟨rfl, Nat.le_of_ble_eq_true rfl, Nat.le_of_ble_eq_true rfl⟩ (ix_R.run (N := 6) rfl (Nat.le_of_ble_eq_true rfl) (ix_R.step 2 (iy_n_ok (iy_run_ok _ _ _) rfl) (ix_R.step 1 (ix_n_call (Or.inl ⟨_, rfl⟩) rfl (ix_cal_v rfl (Or.inl rfl) rfl rfl rfl ⟨rfl, Nat.le_of_ble_eq_true rfl, Nat.le_of_ble_eq_true rfl⟩ (ix_R.run (N := 5) rfl (Nat.le_of_ble_eq_true rfl) (ix_R.step 1 (iy_n_ok (iy_run_ok _ _ _) rfl) (ix_R.step 1 (ix_n_call (Or.inr (Or.inr ⟨_, rfl⟩)) rfl (ix_cal_s rfl (Or.inl rfl) ⟨Nat.le_of_ble_eq_true rfl, Nat.le_of_ble_eq_true rfl⟩ (ix_R.run (N := 6) rfl (Nat.le_of_ble_eq_true rfl) (ix_R.step 4 (iy_n_ok (iy_run_ok _ _ _) rfl) (ix_R.step 1 (ix_n_call (Or.inr (Or.inr ⟨_, rfl⟩)) rfl (ix_cal_s rfl (Or.inl rfl) ⟨Nat.le_of_ble_eq_true rfl, Nat.le_of_ble_eq_true rfl⟩ (ix_R.run (N := 10) rfl (Nat.le_of_ble_eq_true rfl) (ix_R.step 3 (iy_n_ok (iy_run_ok _ _ _) rfl) (ix_R.step 1 (ix_n_iff rfl rfl (clf_lt (x := (xs 1).toInt64) (y := 0) (by rw [Int32.toInt_toInt64]; have e9 : (0 : Int64).toInt = 0 := rfl; omega))) (ix_R.step 3 (iy_n_ok (iy_run_ok _ _ _) rfl) (ix_R.step 1 (ix_n_ift rfl rfl (clt_gt (x := (xs 1).toInt64) (y := 23) (by rw [Int32.toInt_toInt64]; have e9 : (23 : Int64).toInt = 23 := rfl; omega))) (ix_R.fin 2 (iy_n_ok (iy_run_ok _ _ _) rfl)))))) (Nat.le_of_ble_eq_true rfl)))) (ix_R.fin 1 (iy_n_ok (iy_run_ok _ _ _) rfl)))) (Nat.le_of_ble_eq_true rfl)))) (ix_R.fin 3 (iy_n_ok (iy_run_ok _ _ _) rfl)))) (Nat.le_of_ble_eq_true rfl)))) (ix_R.fin 3 (iy_n_ok (iy_run_ok _ _ _) rfl)))) (Nat.le_of_ble_eq_true rfl)))) (ix_R.fin 11 (iy_n_ok (iy_run_ok _ _ _) rfl)))))), Nat.le_of_ble_eq_true rfl, Nat.le_of_ble_eq_true rfl⟩
set_option maxRecDepth 1000000 in
set_option maxHeartbeats 8000000 in
theorem xo_12_k0 (xs : Nat → Int32) : ∃ (N : Nat) (hp : ix_H), N ≤ 2 ^ 15 ∧ ix_R (xTT 6 (va_up xs 1 0)) (ix_run (xTT 6 (va_up xs 1 0)) 14 8) xm_law N (605, xLS, [], xhp0) (some (.int 1), hp) ∧ hp.1 ≤ 600000 ∧ hp.2.1 ≤ 7302250 :=
  ⟨25, _, Nat.le_of_ble_eq_true rfl, (ix_R.fin 25 (iy_n_ok (iy_run_ok _ _ _) rfl)), Nat.le_of_ble_eq_true rfl, Nat.le_of_ble_eq_true rfl⟩
set_option maxRecDepth 1000000 in
set_option maxHeartbeats 8000000 in
theorem xo_12_k1 (xs : Nat → Int32) : ∃ (N : Nat) (hp : ix_H), N ≤ 2 ^ 15 ∧ ix_R (xTT 6 (va_up xs 1 1)) (ix_run (xTT 6 (va_up xs 1 1)) 14 8) xm_law N (605, xLS, [], xhp0) (some (.int 1), hp) ∧ hp.1 ≤ 600000 ∧ hp.2.1 ≤ 7302250 :=
  ⟨25, _, Nat.le_of_ble_eq_true rfl, (ix_R.fin 25 (iy_n_ok (iy_run_ok _ _ _) rfl)), Nat.le_of_ble_eq_true rfl, Nat.le_of_ble_eq_true rfl⟩
set_option maxRecDepth 1000000 in
set_option maxHeartbeats 8000000 in
theorem xo_12_k2 (xs : Nat → Int32) : ∃ (N : Nat) (hp : ix_H), N ≤ 2 ^ 15 ∧ ix_R (xTT 6 (va_up xs 1 2)) (ix_run (xTT 6 (va_up xs 1 2)) 14 8) xm_law N (605, xLS, [], xhp0) (some (.int 1), hp) ∧ hp.1 ≤ 600000 ∧ hp.2.1 ≤ 7302250 :=
  ⟨25, _, Nat.le_of_ble_eq_true rfl, (ix_R.fin 25 (iy_n_ok (iy_run_ok _ _ _) rfl)), Nat.le_of_ble_eq_true rfl, Nat.le_of_ble_eq_true rfl⟩
set_option maxRecDepth 1000000 in
set_option maxHeartbeats 8000000 in
theorem xo_12_k3 (xs : Nat → Int32) : ∃ (N : Nat) (hp : ix_H), N ≤ 2 ^ 15 ∧ ix_R (xTT 6 (va_up xs 1 3)) (ix_run (xTT 6 (va_up xs 1 3)) 14 8) xm_law N (605, xLS, [], xhp0) (some (.int 1), hp) ∧ hp.1 ≤ 600000 ∧ hp.2.1 ≤ 7302250 :=
  ⟨25, _, Nat.le_of_ble_eq_true rfl, (ix_R.fin 25 (iy_n_ok (iy_run_ok _ _ _) rfl)), Nat.le_of_ble_eq_true rfl, Nat.le_of_ble_eq_true rfl⟩
set_option maxRecDepth 1000000 in
set_option maxHeartbeats 8000000 in
theorem xo_12_k4 (xs : Nat → Int32) : ∃ (N : Nat) (hp : ix_H), N ≤ 2 ^ 15 ∧ ix_R (xTT 6 (va_up xs 1 4)) (ix_run (xTT 6 (va_up xs 1 4)) 14 8) xm_law N (605, xLS, [], xhp0) (some (.int 1), hp) ∧ hp.1 ≤ 600000 ∧ hp.2.1 ≤ 7302250 :=
  ⟨25, _, Nat.le_of_ble_eq_true rfl, (ix_R.fin 25 (iy_n_ok (iy_run_ok _ _ _) rfl)), Nat.le_of_ble_eq_true rfl, Nat.le_of_ble_eq_true rfl⟩
set_option maxRecDepth 1000000 in
set_option maxHeartbeats 8000000 in
theorem xo_12_k5 (xs : Nat → Int32) : ∃ (N : Nat) (hp : ix_H), N ≤ 2 ^ 15 ∧ ix_R (xTT 6 (va_up xs 1 5)) (ix_run (xTT 6 (va_up xs 1 5)) 14 8) xm_law N (605, xLS, [], xhp0) (some (.int 1), hp) ∧ hp.1 ≤ 600000 ∧ hp.2.1 ≤ 7302250 :=
  ⟨25, _, Nat.le_of_ble_eq_true rfl, (ix_R.fin 25 (iy_n_ok (iy_run_ok _ _ _) rfl)), Nat.le_of_ble_eq_true rfl, Nat.le_of_ble_eq_true rfl⟩
set_option maxRecDepth 1000000 in
set_option maxHeartbeats 8000000 in
theorem xo_12_k6 (xs : Nat → Int32) : ∃ (N : Nat) (hp : ix_H), N ≤ 2 ^ 15 ∧ ix_R (xTT 6 (va_up xs 1 6)) (ix_run (xTT 6 (va_up xs 1 6)) 14 8) xm_law N (605, xLS, [], xhp0) (some (.int 1), hp) ∧ hp.1 ≤ 600000 ∧ hp.2.1 ≤ 7302250 :=
  ⟨25, _, Nat.le_of_ble_eq_true rfl, (ix_R.fin 25 (iy_n_ok (iy_run_ok _ _ _) rfl)), Nat.le_of_ble_eq_true rfl, Nat.le_of_ble_eq_true rfl⟩
set_option maxRecDepth 1000000 in
set_option maxHeartbeats 8000000 in
theorem xo_12_k7 (xs : Nat → Int32) : ∃ (N : Nat) (hp : ix_H), N ≤ 2 ^ 15 ∧ ix_R (xTT 6 (va_up xs 1 7)) (ix_run (xTT 6 (va_up xs 1 7)) 14 8) xm_law N (605, xLS, [], xhp0) (some (.int 1), hp) ∧ hp.1 ≤ 600000 ∧ hp.2.1 ≤ 7302250 :=
  ⟨25, _, Nat.le_of_ble_eq_true rfl, (ix_R.fin 25 (iy_n_ok (iy_run_ok _ _ _) rfl)), Nat.le_of_ble_eq_true rfl, Nat.le_of_ble_eq_true rfl⟩
set_option maxRecDepth 1000000 in
set_option maxHeartbeats 8000000 in
theorem xo_12_k8 (xs : Nat → Int32) : ∃ (N : Nat) (hp : ix_H), N ≤ 2 ^ 15 ∧ ix_R (xTT 6 (va_up xs 1 8)) (ix_run (xTT 6 (va_up xs 1 8)) 14 8) xm_law N (605, xLS, [], xhp0) (some (.int 1), hp) ∧ hp.1 ≤ 600000 ∧ hp.2.1 ≤ 7302250 :=
  ⟨25, _, Nat.le_of_ble_eq_true rfl, (ix_R.fin 25 (iy_n_ok (iy_run_ok _ _ _) rfl)), Nat.le_of_ble_eq_true rfl, Nat.le_of_ble_eq_true rfl⟩
set_option maxRecDepth 1000000 in
set_option maxHeartbeats 8000000 in
theorem xo_12_k9 (xs : Nat → Int32) : ∃ (N : Nat) (hp : ix_H), N ≤ 2 ^ 15 ∧ ix_R (xTT 6 (va_up xs 1 9)) (ix_run (xTT 6 (va_up xs 1 9)) 14 8) xm_law N (605, xLS, [], xhp0) (some (.int 1), hp) ∧ hp.1 ≤ 600000 ∧ hp.2.1 ≤ 7302250 :=
  ⟨25, _, Nat.le_of_ble_eq_true rfl, (ix_R.fin 25 (iy_n_ok (iy_run_ok _ _ _) rfl)), Nat.le_of_ble_eq_true rfl, Nat.le_of_ble_eq_true rfl⟩
set_option maxRecDepth 1000000 in
set_option maxHeartbeats 8000000 in
theorem xo_12_k10 (xs : Nat → Int32) : ∃ (N : Nat) (hp : ix_H), N ≤ 2 ^ 15 ∧ ix_R (xTT 6 (va_up xs 1 10)) (ix_run (xTT 6 (va_up xs 1 10)) 14 8) xm_law N (605, xLS, [], xhp0) (some (.int 1), hp) ∧ hp.1 ≤ 600000 ∧ hp.2.1 ≤ 7302250 :=
  ⟨25, _, Nat.le_of_ble_eq_true rfl, (ix_R.fin 25 (iy_n_ok (iy_run_ok _ _ _) rfl)), Nat.le_of_ble_eq_true rfl, Nat.le_of_ble_eq_true rfl⟩
set_option maxRecDepth 1000000 in
set_option maxHeartbeats 8000000 in
theorem xo_12_k11 (xs : Nat → Int32) : ∃ (N : Nat) (hp : ix_H), N ≤ 2 ^ 15 ∧ ix_R (xTT 6 (va_up xs 1 11)) (ix_run (xTT 6 (va_up xs 1 11)) 14 8) xm_law N (605, xLS, [], xhp0) (some (.int 1), hp) ∧ hp.1 ≤ 600000 ∧ hp.2.1 ≤ 7302250 :=
  ⟨25, _, Nat.le_of_ble_eq_true rfl, (ix_R.fin 25 (iy_n_ok (iy_run_ok _ _ _) rfl)), Nat.le_of_ble_eq_true rfl, Nat.le_of_ble_eq_true rfl⟩
set_option maxRecDepth 1000000 in
set_option maxHeartbeats 8000000 in
theorem xo_12_k12 (xs : Nat → Int32) : ∃ (N : Nat) (hp : ix_H), N ≤ 2 ^ 15 ∧ ix_R (xTT 6 (va_up xs 1 12)) (ix_run (xTT 6 (va_up xs 1 12)) 14 8) xm_law N (605, xLS, [], xhp0) (some (.int 1), hp) ∧ hp.1 ≤ 600000 ∧ hp.2.1 ≤ 7302250 :=
  ⟨25, _, Nat.le_of_ble_eq_true rfl, (ix_R.fin 25 (iy_n_ok (iy_run_ok _ _ _) rfl)), Nat.le_of_ble_eq_true rfl, Nat.le_of_ble_eq_true rfl⟩
set_option maxRecDepth 1000000 in
set_option maxHeartbeats 8000000 in
theorem xo_12_k13 (xs : Nat → Int32) : ∃ (N : Nat) (hp : ix_H), N ≤ 2 ^ 15 ∧ ix_R (xTT 6 (va_up xs 1 13)) (ix_run (xTT 6 (va_up xs 1 13)) 14 8) xm_law N (605, xLS, [], xhp0) (some (.int 1), hp) ∧ hp.1 ≤ 600000 ∧ hp.2.1 ≤ 7302250 :=
  ⟨25, _, Nat.le_of_ble_eq_true rfl, (ix_R.fin 25 (iy_n_ok (iy_run_ok _ _ _) rfl)), Nat.le_of_ble_eq_true rfl, Nat.le_of_ble_eq_true rfl⟩
set_option maxRecDepth 1000000 in
set_option maxHeartbeats 8000000 in
theorem xo_12_k14 (xs : Nat → Int32) : ∃ (N : Nat) (hp : ix_H), N ≤ 2 ^ 15 ∧ ix_R (xTT 6 (va_up xs 1 14)) (ix_run (xTT 6 (va_up xs 1 14)) 14 8) xm_law N (605, xLS, [], xhp0) (some (.int 1), hp) ∧ hp.1 ≤ 600000 ∧ hp.2.1 ≤ 7302250 :=
  ⟨25, _, Nat.le_of_ble_eq_true rfl, (ix_R.fin 25 (iy_n_ok (iy_run_ok _ _ _) rfl)), Nat.le_of_ble_eq_true rfl, Nat.le_of_ble_eq_true rfl⟩
set_option maxRecDepth 1000000 in
set_option maxHeartbeats 8000000 in
theorem xo_12_k15 (xs : Nat → Int32) : ∃ (N : Nat) (hp : ix_H), N ≤ 2 ^ 15 ∧ ix_R (xTT 6 (va_up xs 1 15)) (ix_run (xTT 6 (va_up xs 1 15)) 14 8) xm_law N (605, xLS, [], xhp0) (some (.int 1), hp) ∧ hp.1 ≤ 600000 ∧ hp.2.1 ≤ 7302250 :=
  ⟨25, _, Nat.le_of_ble_eq_true rfl, (ix_R.fin 25 (iy_n_ok (iy_run_ok _ _ _) rfl)), Nat.le_of_ble_eq_true rfl, Nat.le_of_ble_eq_true rfl⟩
set_option maxRecDepth 1000000 in
set_option maxHeartbeats 8000000 in
theorem xo_12_k16 (xs : Nat → Int32) : ∃ (N : Nat) (hp : ix_H), N ≤ 2 ^ 15 ∧ ix_R (xTT 6 (va_up xs 1 16)) (ix_run (xTT 6 (va_up xs 1 16)) 14 8) xm_law N (605, xLS, [], xhp0) (some (.int 1), hp) ∧ hp.1 ≤ 600000 ∧ hp.2.1 ≤ 7302250 :=
  ⟨25, _, Nat.le_of_ble_eq_true rfl, (ix_R.fin 25 (iy_n_ok (iy_run_ok _ _ _) rfl)), Nat.le_of_ble_eq_true rfl, Nat.le_of_ble_eq_true rfl⟩
set_option maxRecDepth 1000000 in
set_option maxHeartbeats 8000000 in
theorem xo_12_k17 (xs : Nat → Int32) : ∃ (N : Nat) (hp : ix_H), N ≤ 2 ^ 15 ∧ ix_R (xTT 6 (va_up xs 1 17)) (ix_run (xTT 6 (va_up xs 1 17)) 14 8) xm_law N (605, xLS, [], xhp0) (some (.int 1), hp) ∧ hp.1 ≤ 600000 ∧ hp.2.1 ≤ 7302250 :=
  ⟨25, _, Nat.le_of_ble_eq_true rfl, (ix_R.fin 25 (iy_n_ok (iy_run_ok _ _ _) rfl)), Nat.le_of_ble_eq_true rfl, Nat.le_of_ble_eq_true rfl⟩
set_option maxRecDepth 1000000 in
set_option maxHeartbeats 8000000 in
theorem xo_12_k18 (xs : Nat → Int32) : ∃ (N : Nat) (hp : ix_H), N ≤ 2 ^ 15 ∧ ix_R (xTT 6 (va_up xs 1 18)) (ix_run (xTT 6 (va_up xs 1 18)) 14 8) xm_law N (605, xLS, [], xhp0) (some (.int 1), hp) ∧ hp.1 ≤ 600000 ∧ hp.2.1 ≤ 7302250 :=
  ⟨25, _, Nat.le_of_ble_eq_true rfl, (ix_R.fin 25 (iy_n_ok (iy_run_ok _ _ _) rfl)), Nat.le_of_ble_eq_true rfl, Nat.le_of_ble_eq_true rfl⟩
set_option maxRecDepth 1000000 in
set_option maxHeartbeats 8000000 in
theorem xo_12_k19 (xs : Nat → Int32) : ∃ (N : Nat) (hp : ix_H), N ≤ 2 ^ 15 ∧ ix_R (xTT 6 (va_up xs 1 19)) (ix_run (xTT 6 (va_up xs 1 19)) 14 8) xm_law N (605, xLS, [], xhp0) (some (.int 1), hp) ∧ hp.1 ≤ 600000 ∧ hp.2.1 ≤ 7302250 :=
  ⟨25, _, Nat.le_of_ble_eq_true rfl, (ix_R.fin 25 (iy_n_ok (iy_run_ok _ _ _) rfl)), Nat.le_of_ble_eq_true rfl, Nat.le_of_ble_eq_true rfl⟩
set_option maxRecDepth 1000000 in
set_option maxHeartbeats 8000000 in
theorem xo_12_k20 (xs : Nat → Int32) : ∃ (N : Nat) (hp : ix_H), N ≤ 2 ^ 15 ∧ ix_R (xTT 6 (va_up xs 1 20)) (ix_run (xTT 6 (va_up xs 1 20)) 14 8) xm_law N (605, xLS, [], xhp0) (some (.int 1), hp) ∧ hp.1 ≤ 600000 ∧ hp.2.1 ≤ 7302250 :=
  ⟨25, _, Nat.le_of_ble_eq_true rfl, (ix_R.fin 25 (iy_n_ok (iy_run_ok _ _ _) rfl)), Nat.le_of_ble_eq_true rfl, Nat.le_of_ble_eq_true rfl⟩
set_option maxRecDepth 1000000 in
set_option maxHeartbeats 8000000 in
theorem xo_12_k21 (xs : Nat → Int32) : ∃ (N : Nat) (hp : ix_H), N ≤ 2 ^ 15 ∧ ix_R (xTT 6 (va_up xs 1 21)) (ix_run (xTT 6 (va_up xs 1 21)) 14 8) xm_law N (605, xLS, [], xhp0) (some (.int 1), hp) ∧ hp.1 ≤ 600000 ∧ hp.2.1 ≤ 7302250 :=
  ⟨25, _, Nat.le_of_ble_eq_true rfl, (ix_R.fin 25 (iy_n_ok (iy_run_ok _ _ _) rfl)), Nat.le_of_ble_eq_true rfl, Nat.le_of_ble_eq_true rfl⟩
set_option maxRecDepth 1000000 in
set_option maxHeartbeats 8000000 in
theorem xo_12_k22 (xs : Nat → Int32) : ∃ (N : Nat) (hp : ix_H), N ≤ 2 ^ 15 ∧ ix_R (xTT 6 (va_up xs 1 22)) (ix_run (xTT 6 (va_up xs 1 22)) 14 8) xm_law N (605, xLS, [], xhp0) (some (.int 1), hp) ∧ hp.1 ≤ 600000 ∧ hp.2.1 ≤ 7302250 :=
  ⟨25, _, Nat.le_of_ble_eq_true rfl, (ix_R.fin 25 (iy_n_ok (iy_run_ok _ _ _) rfl)), Nat.le_of_ble_eq_true rfl, Nat.le_of_ble_eq_true rfl⟩
set_option maxRecDepth 1000000 in
set_option maxHeartbeats 8000000 in
theorem xo_12_k23 (xs : Nat → Int32) : ∃ (N : Nat) (hp : ix_H), N ≤ 2 ^ 15 ∧ ix_R (xTT 6 (va_up xs 1 23)) (ix_run (xTT 6 (va_up xs 1 23)) 14 8) xm_law N (605, xLS, [], xhp0) (some (.int 1), hp) ∧ hp.1 ≤ 600000 ∧ hp.2.1 ≤ 7302250 :=
  ⟨25, _, Nat.le_of_ble_eq_true rfl, (ix_R.fin 25 (iy_n_ok (iy_run_ok _ _ _) rfl)), Nat.le_of_ble_eq_true rfl, Nat.le_of_ble_eq_true rfl⟩
set_option maxRecDepth 1000000 in
set_option maxHeartbeats 8000000 in
theorem xo_13_neg (xs : Nat → Int32) (h1 : -2147483648 ≤ (xs 1).toInt ∧ (xs 1).toInt ≤ -1) : ∃ (N : Nat) (hp : ix_H), N ≤ 2 ^ 15 ∧ ix_R (xTT 6 xs) (ix_run (xTT 6 xs) 14 8) xm_law N (628, xLS, [], xhp0) (some (.int 1), hp) ∧ hp.1 ≤ 600000 ∧ hp.2.1 ≤ 7302250 :=
  ⟨45, _, Nat.le_of_ble_eq_true rfl, (ix_R.step 16 (iy_n_ok (iy_run_ok _ _ _) rfl) (ix_R.step 1 (ix_n_call (Or.inl ⟨_, rfl⟩) rfl (ix_cal_v rfl (Or.inl rfl) rfl rfl rfl ⟨rfl, Nat.le_of_ble_eq_true rfl, Nat.le_of_ble_eq_true rfl⟩ (ix_R.run (N := 6) rfl (Nat.le_of_ble_eq_true rfl) (ix_R.step 2 (iy_n_ok (iy_run_ok _ _ _) rfl) (ix_R.step 1 (ix_n_call (Or.inl ⟨_, rfl⟩) rfl (ix_cal_v rfl (Or.inl rfl) rfl rfl rfl ⟨rfl, Nat.le_of_ble_eq_true rfl, Nat.le_of_ble_eq_true rfl⟩ (ix_R.run (N := 4) rfl (Nat.le_of_ble_eq_true rfl) (ix_R.step 1 (iy_n_ok (iy_run_ok _ _ _) rfl) (ix_R.step 1 (ix_n_ift rfl rfl (cbt_lt (x := xs 1) (y := 0) (by have e9 : (0 : Int32).toInt = 0 := rfl; omega))) (ix_R.fin 2 (iy_n_ok (iy_run_ok _ _ _) rfl)))) (Nat.le_of_ble_eq_true rfl)))) (ix_R.fin 3 (iy_n_ok (iy_run_ok _ _ _) rfl)))) (Nat.le_of_ble_eq_true rfl)))) (ix_R.step 16 (iy_n_ok (iy_run_ok _ _ _) rfl) (ix_R.step 1 (ix_n_call (Or.inl ⟨_, rfl⟩) rfl (ix_cal_v rfl (Or.inl rfl) rfl rfl rfl ⟨rfl, Nat.le_of_ble_eq_true rfl, Nat.le_of_ble_eq_true rfl⟩ (ix_R.run (N := 6) rfl (Nat.le_of_ble_eq_true rfl) (ix_R.step 2 (iy_n_ok (iy_run_ok _ _ _) rfl) (ix_R.step 1 (ix_n_call (Or.inl ⟨_, rfl⟩) rfl (ix_cal_v rfl (Or.inl rfl) rfl rfl rfl ⟨rfl, Nat.le_of_ble_eq_true rfl, Nat.le_of_ble_eq_true rfl⟩ (ix_R.run (N := 5) rfl (Nat.le_of_ble_eq_true rfl) (ix_R.step 1 (iy_n_ok (iy_run_ok _ _ _) rfl) (ix_R.step 1 (ix_n_call (Or.inr (Or.inr ⟨_, rfl⟩)) rfl (ix_cal_s rfl (Or.inl rfl) ⟨Nat.le_of_ble_eq_true rfl, Nat.le_of_ble_eq_true rfl⟩ (ix_R.run (N := 6) rfl (Nat.le_of_ble_eq_true rfl) (ix_R.step 4 (iy_n_ok (iy_run_ok _ _ _) rfl) (ix_R.step 1 (ix_n_call (Or.inr (Or.inr ⟨_, rfl⟩)) rfl (ix_cal_s rfl (Or.inl rfl) ⟨Nat.le_of_ble_eq_true rfl, Nat.le_of_ble_eq_true rfl⟩ (ix_R.run (N := 6) rfl (Nat.le_of_ble_eq_true rfl) (ix_R.step 3 (iy_n_ok (iy_run_ok _ _ _) rfl) (ix_R.step 1 (ix_n_ift rfl rfl (clt_lt (x := (xs 1).toInt64) (y := 0) (by rw [Int32.toInt_toInt64]; have e9 : (0 : Int64).toInt = 0 := rfl; omega))) (ix_R.fin 2 (iy_n_ok (iy_run_ok _ _ _) rfl)))) (Nat.le_of_ble_eq_true rfl)))) (ix_R.fin 1 (iy_n_ok (iy_run_ok _ _ _) rfl)))) (Nat.le_of_ble_eq_true rfl)))) (ix_R.fin 3 (iy_n_ok (iy_run_ok _ _ _) rfl)))) (Nat.le_of_ble_eq_true rfl)))) (ix_R.fin 3 (iy_n_ok (iy_run_ok _ _ _) rfl)))) (Nat.le_of_ble_eq_true rfl)))) (ix_R.fin 11 (iy_n_ok (iy_run_ok _ _ _) rfl)))))), Nat.le_of_ble_eq_true rfl, Nat.le_of_ble_eq_true rfl⟩
set_option maxRecDepth 1000000 in
set_option maxHeartbeats 8000000 in
theorem xo_13_big (xs : Nat → Int32) (h1 : 24 ≤ (xs 1).toInt ∧ (xs 1).toInt ≤ 2147483647) : ∃ (N : Nat) (hp : ix_H), N ≤ 2 ^ 15 ∧ ix_R (xTT 6 xs) (ix_run (xTT 6 xs) 14 8) xm_law N (628, xLS, [], xhp0) (some (.int 1), hp) ∧ hp.1 ≤ 600000 ∧ hp.2.1 ≤ 7302250 :=
  ⟨45, _, Nat.le_of_ble_eq_true rfl, (ix_R.step 16 (iy_n_ok (iy_run_ok _ _ _) rfl) (ix_R.step 1 (ix_n_call (Or.inl ⟨_, rfl⟩) rfl (ix_cal_v rfl (Or.inl rfl) rfl rfl rfl ⟨rfl, Nat.le_of_ble_eq_true rfl, Nat.le_of_ble_eq_true rfl⟩ (ix_R.run (N := 6) rfl (Nat.le_of_ble_eq_true rfl) (ix_R.step 2 (iy_n_ok (iy_run_ok _ _ _) rfl) (ix_R.step 1 (ix_n_call (Or.inl ⟨_, rfl⟩) rfl (ix_cal_v rfl (Or.inl rfl) rfl rfl rfl ⟨rfl, Nat.le_of_ble_eq_true rfl, Nat.le_of_ble_eq_true rfl⟩ (ix_R.run (N := 7) rfl (Nat.le_of_ble_eq_true rfl) (ix_R.step 1 (iy_n_ok (iy_run_ok _ _ _) rfl) (ix_R.step 1 (ix_n_iff rfl rfl (cbf_lt (x := xs 1) (y := 0) (by have e9 : (0 : Int32).toInt = 0 := rfl; omega))) (ix_R.step 2 (iy_n_ok (iy_run_ok _ _ _) rfl) (ix_R.step 1 (ix_n_icmpt rfl rfl (cbt_ge (x := xs 1) (y := 24) (by have e9 : (24 : Int32).toInt = 24 := rfl; omega))) (ix_R.fin 2 (iy_n_ok (iy_run_ok _ _ _) rfl)))))) (Nat.le_of_ble_eq_true rfl)))) (ix_R.fin 3 (iy_n_ok (iy_run_ok _ _ _) rfl)))) (Nat.le_of_ble_eq_true rfl)))) (ix_R.step 16 (iy_n_ok (iy_run_ok _ _ _) rfl) (ix_R.step 1 (ix_n_call (Or.inl ⟨_, rfl⟩) rfl (ix_cal_v rfl (Or.inl rfl) rfl rfl rfl ⟨rfl, Nat.le_of_ble_eq_true rfl, Nat.le_of_ble_eq_true rfl⟩ (ix_R.run (N := 6) rfl (Nat.le_of_ble_eq_true rfl) (ix_R.step 2 (iy_n_ok (iy_run_ok _ _ _) rfl) (ix_R.step 1 (ix_n_call (Or.inl ⟨_, rfl⟩) rfl (ix_cal_v rfl (Or.inl rfl) rfl rfl rfl ⟨rfl, Nat.le_of_ble_eq_true rfl, Nat.le_of_ble_eq_true rfl⟩ (ix_R.run (N := 5) rfl (Nat.le_of_ble_eq_true rfl) (ix_R.step 1 (iy_n_ok (iy_run_ok _ _ _) rfl) (ix_R.step 1 (ix_n_call (Or.inr (Or.inr ⟨_, rfl⟩)) rfl (ix_cal_s rfl (Or.inl rfl) ⟨Nat.le_of_ble_eq_true rfl, Nat.le_of_ble_eq_true rfl⟩ (ix_R.run (N := 6) rfl (Nat.le_of_ble_eq_true rfl) (ix_R.step 4 (iy_n_ok (iy_run_ok _ _ _) rfl) (ix_R.step 1 (ix_n_call (Or.inr (Or.inr ⟨_, rfl⟩)) rfl (ix_cal_s rfl (Or.inl rfl) ⟨Nat.le_of_ble_eq_true rfl, Nat.le_of_ble_eq_true rfl⟩ (ix_R.run (N := 10) rfl (Nat.le_of_ble_eq_true rfl) (ix_R.step 3 (iy_n_ok (iy_run_ok _ _ _) rfl) (ix_R.step 1 (ix_n_iff rfl rfl (clf_lt (x := (xs 1).toInt64) (y := 0) (by rw [Int32.toInt_toInt64]; have e9 : (0 : Int64).toInt = 0 := rfl; omega))) (ix_R.step 3 (iy_n_ok (iy_run_ok _ _ _) rfl) (ix_R.step 1 (ix_n_ift rfl rfl (clt_gt (x := (xs 1).toInt64) (y := 23) (by rw [Int32.toInt_toInt64]; have e9 : (23 : Int64).toInt = 23 := rfl; omega))) (ix_R.fin 2 (iy_n_ok (iy_run_ok _ _ _) rfl)))))) (Nat.le_of_ble_eq_true rfl)))) (ix_R.fin 1 (iy_n_ok (iy_run_ok _ _ _) rfl)))) (Nat.le_of_ble_eq_true rfl)))) (ix_R.fin 3 (iy_n_ok (iy_run_ok _ _ _) rfl)))) (Nat.le_of_ble_eq_true rfl)))) (ix_R.fin 3 (iy_n_ok (iy_run_ok _ _ _) rfl)))) (Nat.le_of_ble_eq_true rfl)))) (ix_R.fin 11 (iy_n_ok (iy_run_ok _ _ _) rfl)))))), Nat.le_of_ble_eq_true rfl, Nat.le_of_ble_eq_true rfl⟩
set_option maxRecDepth 1000000 in
set_option maxHeartbeats 8000000 in
theorem xo_13_k0 (xs : Nat → Int32) : ∃ (N : Nat) (hp : ix_H), N ≤ 2 ^ 15 ∧ ix_R (xTT 6 (va_up xs 1 0)) (ix_run (xTT 6 (va_up xs 1 0)) 14 8) xm_law N (628, xLS, [], xhp0) (some (.int 1), hp) ∧ hp.1 ≤ 600000 ∧ hp.2.1 ≤ 7302250 :=
  ⟨45, _, Nat.le_of_ble_eq_true rfl, (ix_R.fin 45 (iy_n_ok (iy_run_ok _ _ _) rfl)), Nat.le_of_ble_eq_true rfl, Nat.le_of_ble_eq_true rfl⟩
set_option maxRecDepth 1000000 in
set_option maxHeartbeats 8000000 in
theorem xo_13_k1 (xs : Nat → Int32) : ∃ (N : Nat) (hp : ix_H), N ≤ 2 ^ 15 ∧ ix_R (xTT 6 (va_up xs 1 1)) (ix_run (xTT 6 (va_up xs 1 1)) 14 8) xm_law N (628, xLS, [], xhp0) (some (.int 1), hp) ∧ hp.1 ≤ 600000 ∧ hp.2.1 ≤ 7302250 :=
  ⟨45, _, Nat.le_of_ble_eq_true rfl, (ix_R.fin 45 (iy_n_ok (iy_run_ok _ _ _) rfl)), Nat.le_of_ble_eq_true rfl, Nat.le_of_ble_eq_true rfl⟩
set_option maxRecDepth 1000000 in
set_option maxHeartbeats 8000000 in
theorem xo_13_k2 (xs : Nat → Int32) : ∃ (N : Nat) (hp : ix_H), N ≤ 2 ^ 15 ∧ ix_R (xTT 6 (va_up xs 1 2)) (ix_run (xTT 6 (va_up xs 1 2)) 14 8) xm_law N (628, xLS, [], xhp0) (some (.int 1), hp) ∧ hp.1 ≤ 600000 ∧ hp.2.1 ≤ 7302250 :=
  ⟨45, _, Nat.le_of_ble_eq_true rfl, (ix_R.fin 45 (iy_n_ok (iy_run_ok _ _ _) rfl)), Nat.le_of_ble_eq_true rfl, Nat.le_of_ble_eq_true rfl⟩
set_option maxRecDepth 1000000 in
set_option maxHeartbeats 8000000 in
theorem xo_13_k3 (xs : Nat → Int32) : ∃ (N : Nat) (hp : ix_H), N ≤ 2 ^ 15 ∧ ix_R (xTT 6 (va_up xs 1 3)) (ix_run (xTT 6 (va_up xs 1 3)) 14 8) xm_law N (628, xLS, [], xhp0) (some (.int 1), hp) ∧ hp.1 ≤ 600000 ∧ hp.2.1 ≤ 7302250 :=
  ⟨45, _, Nat.le_of_ble_eq_true rfl, (ix_R.fin 45 (iy_n_ok (iy_run_ok _ _ _) rfl)), Nat.le_of_ble_eq_true rfl, Nat.le_of_ble_eq_true rfl⟩
set_option maxRecDepth 1000000 in
set_option maxHeartbeats 8000000 in
theorem xo_13_k4 (xs : Nat → Int32) : ∃ (N : Nat) (hp : ix_H), N ≤ 2 ^ 15 ∧ ix_R (xTT 6 (va_up xs 1 4)) (ix_run (xTT 6 (va_up xs 1 4)) 14 8) xm_law N (628, xLS, [], xhp0) (some (.int 1), hp) ∧ hp.1 ≤ 600000 ∧ hp.2.1 ≤ 7302250 :=
  ⟨45, _, Nat.le_of_ble_eq_true rfl, (ix_R.fin 45 (iy_n_ok (iy_run_ok _ _ _) rfl)), Nat.le_of_ble_eq_true rfl, Nat.le_of_ble_eq_true rfl⟩
set_option maxRecDepth 1000000 in
set_option maxHeartbeats 8000000 in
theorem xo_13_k5 (xs : Nat → Int32) : ∃ (N : Nat) (hp : ix_H), N ≤ 2 ^ 15 ∧ ix_R (xTT 6 (va_up xs 1 5)) (ix_run (xTT 6 (va_up xs 1 5)) 14 8) xm_law N (628, xLS, [], xhp0) (some (.int 1), hp) ∧ hp.1 ≤ 600000 ∧ hp.2.1 ≤ 7302250 :=
  ⟨45, _, Nat.le_of_ble_eq_true rfl, (ix_R.fin 45 (iy_n_ok (iy_run_ok _ _ _) rfl)), Nat.le_of_ble_eq_true rfl, Nat.le_of_ble_eq_true rfl⟩
set_option maxRecDepth 1000000 in
set_option maxHeartbeats 8000000 in
theorem xo_13_k6 (xs : Nat → Int32) : ∃ (N : Nat) (hp : ix_H), N ≤ 2 ^ 15 ∧ ix_R (xTT 6 (va_up xs 1 6)) (ix_run (xTT 6 (va_up xs 1 6)) 14 8) xm_law N (628, xLS, [], xhp0) (some (.int 1), hp) ∧ hp.1 ≤ 600000 ∧ hp.2.1 ≤ 7302250 :=
  ⟨45, _, Nat.le_of_ble_eq_true rfl, (ix_R.fin 45 (iy_n_ok (iy_run_ok _ _ _) rfl)), Nat.le_of_ble_eq_true rfl, Nat.le_of_ble_eq_true rfl⟩
set_option maxRecDepth 1000000 in
set_option maxHeartbeats 8000000 in
theorem xo_13_k7 (xs : Nat → Int32) : ∃ (N : Nat) (hp : ix_H), N ≤ 2 ^ 15 ∧ ix_R (xTT 6 (va_up xs 1 7)) (ix_run (xTT 6 (va_up xs 1 7)) 14 8) xm_law N (628, xLS, [], xhp0) (some (.int 1), hp) ∧ hp.1 ≤ 600000 ∧ hp.2.1 ≤ 7302250 :=
  ⟨45, _, Nat.le_of_ble_eq_true rfl, (ix_R.fin 45 (iy_n_ok (iy_run_ok _ _ _) rfl)), Nat.le_of_ble_eq_true rfl, Nat.le_of_ble_eq_true rfl⟩
set_option maxRecDepth 1000000 in
set_option maxHeartbeats 8000000 in
theorem xo_13_k8 (xs : Nat → Int32) : ∃ (N : Nat) (hp : ix_H), N ≤ 2 ^ 15 ∧ ix_R (xTT 6 (va_up xs 1 8)) (ix_run (xTT 6 (va_up xs 1 8)) 14 8) xm_law N (628, xLS, [], xhp0) (some (.int 1), hp) ∧ hp.1 ≤ 600000 ∧ hp.2.1 ≤ 7302250 :=
  ⟨45, _, Nat.le_of_ble_eq_true rfl, (ix_R.fin 45 (iy_n_ok (iy_run_ok _ _ _) rfl)), Nat.le_of_ble_eq_true rfl, Nat.le_of_ble_eq_true rfl⟩
set_option maxRecDepth 1000000 in
set_option maxHeartbeats 8000000 in
theorem xo_13_k9 (xs : Nat → Int32) : ∃ (N : Nat) (hp : ix_H), N ≤ 2 ^ 15 ∧ ix_R (xTT 6 (va_up xs 1 9)) (ix_run (xTT 6 (va_up xs 1 9)) 14 8) xm_law N (628, xLS, [], xhp0) (some (.int 1), hp) ∧ hp.1 ≤ 600000 ∧ hp.2.1 ≤ 7302250 :=
  ⟨45, _, Nat.le_of_ble_eq_true rfl, (ix_R.fin 45 (iy_n_ok (iy_run_ok _ _ _) rfl)), Nat.le_of_ble_eq_true rfl, Nat.le_of_ble_eq_true rfl⟩
set_option maxRecDepth 1000000 in
set_option maxHeartbeats 8000000 in
theorem xo_13_k10 (xs : Nat → Int32) : ∃ (N : Nat) (hp : ix_H), N ≤ 2 ^ 15 ∧ ix_R (xTT 6 (va_up xs 1 10)) (ix_run (xTT 6 (va_up xs 1 10)) 14 8) xm_law N (628, xLS, [], xhp0) (some (.int 1), hp) ∧ hp.1 ≤ 600000 ∧ hp.2.1 ≤ 7302250 :=
  ⟨45, _, Nat.le_of_ble_eq_true rfl, (ix_R.fin 45 (iy_n_ok (iy_run_ok _ _ _) rfl)), Nat.le_of_ble_eq_true rfl, Nat.le_of_ble_eq_true rfl⟩
set_option maxRecDepth 1000000 in
set_option maxHeartbeats 8000000 in
theorem xo_13_k11 (xs : Nat → Int32) : ∃ (N : Nat) (hp : ix_H), N ≤ 2 ^ 15 ∧ ix_R (xTT 6 (va_up xs 1 11)) (ix_run (xTT 6 (va_up xs 1 11)) 14 8) xm_law N (628, xLS, [], xhp0) (some (.int 1), hp) ∧ hp.1 ≤ 600000 ∧ hp.2.1 ≤ 7302250 :=
  ⟨45, _, Nat.le_of_ble_eq_true rfl, (ix_R.fin 45 (iy_n_ok (iy_run_ok _ _ _) rfl)), Nat.le_of_ble_eq_true rfl, Nat.le_of_ble_eq_true rfl⟩
set_option maxRecDepth 1000000 in
set_option maxHeartbeats 8000000 in
theorem xo_13_k12 (xs : Nat → Int32) : ∃ (N : Nat) (hp : ix_H), N ≤ 2 ^ 15 ∧ ix_R (xTT 6 (va_up xs 1 12)) (ix_run (xTT 6 (va_up xs 1 12)) 14 8) xm_law N (628, xLS, [], xhp0) (some (.int 1), hp) ∧ hp.1 ≤ 600000 ∧ hp.2.1 ≤ 7302250 :=
  ⟨45, _, Nat.le_of_ble_eq_true rfl, (ix_R.fin 45 (iy_n_ok (iy_run_ok _ _ _) rfl)), Nat.le_of_ble_eq_true rfl, Nat.le_of_ble_eq_true rfl⟩
set_option maxRecDepth 1000000 in
set_option maxHeartbeats 8000000 in
theorem xo_13_k13 (xs : Nat → Int32) : ∃ (N : Nat) (hp : ix_H), N ≤ 2 ^ 15 ∧ ix_R (xTT 6 (va_up xs 1 13)) (ix_run (xTT 6 (va_up xs 1 13)) 14 8) xm_law N (628, xLS, [], xhp0) (some (.int 1), hp) ∧ hp.1 ≤ 600000 ∧ hp.2.1 ≤ 7302250 :=
  ⟨45, _, Nat.le_of_ble_eq_true rfl, (ix_R.fin 45 (iy_n_ok (iy_run_ok _ _ _) rfl)), Nat.le_of_ble_eq_true rfl, Nat.le_of_ble_eq_true rfl⟩
set_option maxRecDepth 1000000 in
set_option maxHeartbeats 8000000 in
theorem xo_13_k14 (xs : Nat → Int32) : ∃ (N : Nat) (hp : ix_H), N ≤ 2 ^ 15 ∧ ix_R (xTT 6 (va_up xs 1 14)) (ix_run (xTT 6 (va_up xs 1 14)) 14 8) xm_law N (628, xLS, [], xhp0) (some (.int 1), hp) ∧ hp.1 ≤ 600000 ∧ hp.2.1 ≤ 7302250 :=
  ⟨45, _, Nat.le_of_ble_eq_true rfl, (ix_R.fin 45 (iy_n_ok (iy_run_ok _ _ _) rfl)), Nat.le_of_ble_eq_true rfl, Nat.le_of_ble_eq_true rfl⟩
set_option maxRecDepth 1000000 in
set_option maxHeartbeats 8000000 in
theorem xo_13_k15 (xs : Nat → Int32) : ∃ (N : Nat) (hp : ix_H), N ≤ 2 ^ 15 ∧ ix_R (xTT 6 (va_up xs 1 15)) (ix_run (xTT 6 (va_up xs 1 15)) 14 8) xm_law N (628, xLS, [], xhp0) (some (.int 1), hp) ∧ hp.1 ≤ 600000 ∧ hp.2.1 ≤ 7302250 :=
  ⟨45, _, Nat.le_of_ble_eq_true rfl, (ix_R.fin 45 (iy_n_ok (iy_run_ok _ _ _) rfl)), Nat.le_of_ble_eq_true rfl, Nat.le_of_ble_eq_true rfl⟩
set_option maxRecDepth 1000000 in
set_option maxHeartbeats 8000000 in
theorem xo_13_k16 (xs : Nat → Int32) : ∃ (N : Nat) (hp : ix_H), N ≤ 2 ^ 15 ∧ ix_R (xTT 6 (va_up xs 1 16)) (ix_run (xTT 6 (va_up xs 1 16)) 14 8) xm_law N (628, xLS, [], xhp0) (some (.int 1), hp) ∧ hp.1 ≤ 600000 ∧ hp.2.1 ≤ 7302250 :=
  ⟨45, _, Nat.le_of_ble_eq_true rfl, (ix_R.fin 45 (iy_n_ok (iy_run_ok _ _ _) rfl)), Nat.le_of_ble_eq_true rfl, Nat.le_of_ble_eq_true rfl⟩
set_option maxRecDepth 1000000 in
set_option maxHeartbeats 8000000 in
theorem xo_13_k17 (xs : Nat → Int32) : ∃ (N : Nat) (hp : ix_H), N ≤ 2 ^ 15 ∧ ix_R (xTT 6 (va_up xs 1 17)) (ix_run (xTT 6 (va_up xs 1 17)) 14 8) xm_law N (628, xLS, [], xhp0) (some (.int 1), hp) ∧ hp.1 ≤ 600000 ∧ hp.2.1 ≤ 7302250 :=
  ⟨45, _, Nat.le_of_ble_eq_true rfl, (ix_R.fin 45 (iy_n_ok (iy_run_ok _ _ _) rfl)), Nat.le_of_ble_eq_true rfl, Nat.le_of_ble_eq_true rfl⟩
set_option maxRecDepth 1000000 in
set_option maxHeartbeats 8000000 in
theorem xo_13_k18 (xs : Nat → Int32) : ∃ (N : Nat) (hp : ix_H), N ≤ 2 ^ 15 ∧ ix_R (xTT 6 (va_up xs 1 18)) (ix_run (xTT 6 (va_up xs 1 18)) 14 8) xm_law N (628, xLS, [], xhp0) (some (.int 1), hp) ∧ hp.1 ≤ 600000 ∧ hp.2.1 ≤ 7302250 :=
  ⟨45, _, Nat.le_of_ble_eq_true rfl, (ix_R.fin 45 (iy_n_ok (iy_run_ok _ _ _) rfl)), Nat.le_of_ble_eq_true rfl, Nat.le_of_ble_eq_true rfl⟩
set_option maxRecDepth 1000000 in
set_option maxHeartbeats 8000000 in
theorem xo_13_k19 (xs : Nat → Int32) : ∃ (N : Nat) (hp : ix_H), N ≤ 2 ^ 15 ∧ ix_R (xTT 6 (va_up xs 1 19)) (ix_run (xTT 6 (va_up xs 1 19)) 14 8) xm_law N (628, xLS, [], xhp0) (some (.int 1), hp) ∧ hp.1 ≤ 600000 ∧ hp.2.1 ≤ 7302250 :=
  ⟨45, _, Nat.le_of_ble_eq_true rfl, (ix_R.fin 45 (iy_n_ok (iy_run_ok _ _ _) rfl)), Nat.le_of_ble_eq_true rfl, Nat.le_of_ble_eq_true rfl⟩
set_option maxRecDepth 1000000 in
set_option maxHeartbeats 8000000 in
theorem xo_13_k20 (xs : Nat → Int32) : ∃ (N : Nat) (hp : ix_H), N ≤ 2 ^ 15 ∧ ix_R (xTT 6 (va_up xs 1 20)) (ix_run (xTT 6 (va_up xs 1 20)) 14 8) xm_law N (628, xLS, [], xhp0) (some (.int 1), hp) ∧ hp.1 ≤ 600000 ∧ hp.2.1 ≤ 7302250 :=
  ⟨45, _, Nat.le_of_ble_eq_true rfl, (ix_R.fin 45 (iy_n_ok (iy_run_ok _ _ _) rfl)), Nat.le_of_ble_eq_true rfl, Nat.le_of_ble_eq_true rfl⟩
set_option maxRecDepth 1000000 in
set_option maxHeartbeats 8000000 in
theorem xo_13_k21 (xs : Nat → Int32) : ∃ (N : Nat) (hp : ix_H), N ≤ 2 ^ 15 ∧ ix_R (xTT 6 (va_up xs 1 21)) (ix_run (xTT 6 (va_up xs 1 21)) 14 8) xm_law N (628, xLS, [], xhp0) (some (.int 1), hp) ∧ hp.1 ≤ 600000 ∧ hp.2.1 ≤ 7302250 :=
  ⟨45, _, Nat.le_of_ble_eq_true rfl, (ix_R.fin 45 (iy_n_ok (iy_run_ok _ _ _) rfl)), Nat.le_of_ble_eq_true rfl, Nat.le_of_ble_eq_true rfl⟩
set_option maxRecDepth 1000000 in
set_option maxHeartbeats 8000000 in
theorem xo_13_k22 (xs : Nat → Int32) : ∃ (N : Nat) (hp : ix_H), N ≤ 2 ^ 15 ∧ ix_R (xTT 6 (va_up xs 1 22)) (ix_run (xTT 6 (va_up xs 1 22)) 14 8) xm_law N (628, xLS, [], xhp0) (some (.int 1), hp) ∧ hp.1 ≤ 600000 ∧ hp.2.1 ≤ 7302250 :=
  ⟨45, _, Nat.le_of_ble_eq_true rfl, (ix_R.fin 45 (iy_n_ok (iy_run_ok _ _ _) rfl)), Nat.le_of_ble_eq_true rfl, Nat.le_of_ble_eq_true rfl⟩
set_option maxRecDepth 1000000 in
set_option maxHeartbeats 8000000 in
theorem xo_13_k23 (xs : Nat → Int32) : ∃ (N : Nat) (hp : ix_H), N ≤ 2 ^ 15 ∧ ix_R (xTT 6 (va_up xs 1 23)) (ix_run (xTT 6 (va_up xs 1 23)) 14 8) xm_law N (628, xLS, [], xhp0) (some (.int 1), hp) ∧ hp.1 ≤ 600000 ∧ hp.2.1 ≤ 7302250 :=
  ⟨45, _, Nat.le_of_ble_eq_true rfl, (ix_R.fin 45 (iy_n_ok (iy_run_ok _ _ _) rfl)), Nat.le_of_ble_eq_true rfl, Nat.le_of_ble_eq_true rfl⟩
set_option maxRecDepth 1000000 in
set_option maxHeartbeats 8000000 in
theorem xo_14_neg (xs : Nat → Int32) (h1 : -2147483648 ≤ (xs 1).toInt ∧ (xs 1).toInt ≤ -1) : ∃ (N : Nat) (hp : ix_H), N ≤ 2 ^ 15 ∧ ix_R (xTT 6 xs) (ix_run (xTT 6 xs) 14 8) xm_law N (671, xLS, [], xhp0) (some (.int 1), hp) ∧ hp.1 ≤ 600000 ∧ hp.2.1 ≤ 7302250 :=
  ⟨26, _, Nat.le_of_ble_eq_true rfl, (ix_R.step 6 (iy_n_ok (iy_run_ok _ _ _) rfl) (ix_R.step 1 (ix_n_call (Or.inl ⟨_, rfl⟩) rfl (ix_cal_v rfl (Or.inl rfl) rfl rfl rfl ⟨rfl, Nat.le_of_ble_eq_true rfl, Nat.le_of_ble_eq_true rfl⟩ (ix_R.run (N := 6) rfl (Nat.le_of_ble_eq_true rfl) (ix_R.step 2 (iy_n_ok (iy_run_ok _ _ _) rfl) (ix_R.step 1 (ix_n_call (Or.inl ⟨_, rfl⟩) rfl (ix_cal_v rfl (Or.inl rfl) rfl rfl rfl ⟨rfl, Nat.le_of_ble_eq_true rfl, Nat.le_of_ble_eq_true rfl⟩ (ix_R.run (N := 4) rfl (Nat.le_of_ble_eq_true rfl) (ix_R.step 1 (iy_n_ok (iy_run_ok _ _ _) rfl) (ix_R.step 1 (ix_n_ift rfl rfl (cbt_lt (x := xs 1) (y := 0) (by have e9 : (0 : Int32).toInt = 0 := rfl; omega))) (ix_R.fin 2 (iy_n_ok (iy_run_ok _ _ _) rfl)))) (Nat.le_of_ble_eq_true rfl)))) (ix_R.fin 3 (iy_n_ok (iy_run_ok _ _ _) rfl)))) (Nat.le_of_ble_eq_true rfl)))) (ix_R.step 6 (iy_n_ok (iy_run_ok _ _ _) rfl) (ix_R.step 1 (ix_n_call (Or.inl ⟨_, rfl⟩) rfl (ix_cal_v rfl (Or.inl rfl) rfl rfl rfl ⟨rfl, Nat.le_of_ble_eq_true rfl, Nat.le_of_ble_eq_true rfl⟩ (ix_R.run (N := 6) rfl (Nat.le_of_ble_eq_true rfl) (ix_R.step 2 (iy_n_ok (iy_run_ok _ _ _) rfl) (ix_R.step 1 (ix_n_call (Or.inl ⟨_, rfl⟩) rfl (ix_cal_v rfl (Or.inl rfl) rfl rfl rfl ⟨rfl, Nat.le_of_ble_eq_true rfl, Nat.le_of_ble_eq_true rfl⟩ (ix_R.run (N := 5) rfl (Nat.le_of_ble_eq_true rfl) (ix_R.step 1 (iy_n_ok (iy_run_ok _ _ _) rfl) (ix_R.step 1 (ix_n_call (Or.inr (Or.inr ⟨_, rfl⟩)) rfl (ix_cal_s rfl (Or.inl rfl) ⟨Nat.le_of_ble_eq_true rfl, Nat.le_of_ble_eq_true rfl⟩ (ix_R.run (N := 6) rfl (Nat.le_of_ble_eq_true rfl) (ix_R.step 4 (iy_n_ok (iy_run_ok _ _ _) rfl) (ix_R.step 1 (ix_n_call (Or.inr (Or.inr ⟨_, rfl⟩)) rfl (ix_cal_s rfl (Or.inl rfl) ⟨Nat.le_of_ble_eq_true rfl, Nat.le_of_ble_eq_true rfl⟩ (ix_R.run (N := 6) rfl (Nat.le_of_ble_eq_true rfl) (ix_R.step 3 (iy_n_ok (iy_run_ok _ _ _) rfl) (ix_R.step 1 (ix_n_ift rfl rfl (clt_lt (x := (xs 1).toInt64) (y := 0) (by rw [Int32.toInt_toInt64]; have e9 : (0 : Int64).toInt = 0 := rfl; omega))) (ix_R.fin 2 (iy_n_ok (iy_run_ok _ _ _) rfl)))) (Nat.le_of_ble_eq_true rfl)))) (ix_R.fin 1 (iy_n_ok (iy_run_ok _ _ _) rfl)))) (Nat.le_of_ble_eq_true rfl)))) (ix_R.fin 3 (iy_n_ok (iy_run_ok _ _ _) rfl)))) (Nat.le_of_ble_eq_true rfl)))) (ix_R.fin 3 (iy_n_ok (iy_run_ok _ _ _) rfl)))) (Nat.le_of_ble_eq_true rfl)))) (ix_R.fin 12 (iy_n_ok (iy_run_ok _ _ _) rfl)))))), Nat.le_of_ble_eq_true rfl, Nat.le_of_ble_eq_true rfl⟩
set_option maxRecDepth 1000000 in
set_option maxHeartbeats 8000000 in
theorem xo_14_big (xs : Nat → Int32) (h1 : 24 ≤ (xs 1).toInt ∧ (xs 1).toInt ≤ 2147483647) : ∃ (N : Nat) (hp : ix_H), N ≤ 2 ^ 15 ∧ ix_R (xTT 6 xs) (ix_run (xTT 6 xs) 14 8) xm_law N (671, xLS, [], xhp0) (some (.int 1), hp) ∧ hp.1 ≤ 600000 ∧ hp.2.1 ≤ 7302250 :=
  ⟨26, _, Nat.le_of_ble_eq_true rfl, (ix_R.step 6 (iy_n_ok (iy_run_ok _ _ _) rfl) (ix_R.step 1 (ix_n_call (Or.inl ⟨_, rfl⟩) rfl (ix_cal_v rfl (Or.inl rfl) rfl rfl rfl ⟨rfl, Nat.le_of_ble_eq_true rfl, Nat.le_of_ble_eq_true rfl⟩ (ix_R.run (N := 6) rfl (Nat.le_of_ble_eq_true rfl) (ix_R.step 2 (iy_n_ok (iy_run_ok _ _ _) rfl) (ix_R.step 1 (ix_n_call (Or.inl ⟨_, rfl⟩) rfl (ix_cal_v rfl (Or.inl rfl) rfl rfl rfl ⟨rfl, Nat.le_of_ble_eq_true rfl, Nat.le_of_ble_eq_true rfl⟩ (ix_R.run (N := 7) rfl (Nat.le_of_ble_eq_true rfl) (ix_R.step 1 (iy_n_ok (iy_run_ok _ _ _) rfl) (ix_R.step 1 (ix_n_iff rfl rfl (cbf_lt (x := xs 1) (y := 0) (by have e9 : (0 : Int32).toInt = 0 := rfl; omega))) (ix_R.step 2 (iy_n_ok (iy_run_ok _ _ _) rfl) (ix_R.step 1 (ix_n_icmpt rfl rfl (cbt_ge (x := xs 1) (y := 24) (by have e9 : (24 : Int32).toInt = 24 := rfl; omega))) (ix_R.fin 2 (iy_n_ok (iy_run_ok _ _ _) rfl)))))) (Nat.le_of_ble_eq_true rfl)))) (ix_R.fin 3 (iy_n_ok (iy_run_ok _ _ _) rfl)))) (Nat.le_of_ble_eq_true rfl)))) (ix_R.step 6 (iy_n_ok (iy_run_ok _ _ _) rfl) (ix_R.step 1 (ix_n_call (Or.inl ⟨_, rfl⟩) rfl (ix_cal_v rfl (Or.inl rfl) rfl rfl rfl ⟨rfl, Nat.le_of_ble_eq_true rfl, Nat.le_of_ble_eq_true rfl⟩ (ix_R.run (N := 6) rfl (Nat.le_of_ble_eq_true rfl) (ix_R.step 2 (iy_n_ok (iy_run_ok _ _ _) rfl) (ix_R.step 1 (ix_n_call (Or.inl ⟨_, rfl⟩) rfl (ix_cal_v rfl (Or.inl rfl) rfl rfl rfl ⟨rfl, Nat.le_of_ble_eq_true rfl, Nat.le_of_ble_eq_true rfl⟩ (ix_R.run (N := 5) rfl (Nat.le_of_ble_eq_true rfl) (ix_R.step 1 (iy_n_ok (iy_run_ok _ _ _) rfl) (ix_R.step 1 (ix_n_call (Or.inr (Or.inr ⟨_, rfl⟩)) rfl (ix_cal_s rfl (Or.inl rfl) ⟨Nat.le_of_ble_eq_true rfl, Nat.le_of_ble_eq_true rfl⟩ (ix_R.run (N := 6) rfl (Nat.le_of_ble_eq_true rfl) (ix_R.step 4 (iy_n_ok (iy_run_ok _ _ _) rfl) (ix_R.step 1 (ix_n_call (Or.inr (Or.inr ⟨_, rfl⟩)) rfl (ix_cal_s rfl (Or.inl rfl) ⟨Nat.le_of_ble_eq_true rfl, Nat.le_of_ble_eq_true rfl⟩ (ix_R.run (N := 10) rfl (Nat.le_of_ble_eq_true rfl) (ix_R.step 3 (iy_n_ok (iy_run_ok _ _ _) rfl) (ix_R.step 1 (ix_n_iff rfl rfl (clf_lt (x := (xs 1).toInt64) (y := 0) (by rw [Int32.toInt_toInt64]; have e9 : (0 : Int64).toInt = 0 := rfl; omega))) (ix_R.step 3 (iy_n_ok (iy_run_ok _ _ _) rfl) (ix_R.step 1 (ix_n_ift rfl rfl (clt_gt (x := (xs 1).toInt64) (y := 23) (by rw [Int32.toInt_toInt64]; have e9 : (23 : Int64).toInt = 23 := rfl; omega))) (ix_R.fin 2 (iy_n_ok (iy_run_ok _ _ _) rfl)))))) (Nat.le_of_ble_eq_true rfl)))) (ix_R.fin 1 (iy_n_ok (iy_run_ok _ _ _) rfl)))) (Nat.le_of_ble_eq_true rfl)))) (ix_R.fin 3 (iy_n_ok (iy_run_ok _ _ _) rfl)))) (Nat.le_of_ble_eq_true rfl)))) (ix_R.fin 3 (iy_n_ok (iy_run_ok _ _ _) rfl)))) (Nat.le_of_ble_eq_true rfl)))) (ix_R.fin 12 (iy_n_ok (iy_run_ok _ _ _) rfl)))))), Nat.le_of_ble_eq_true rfl, Nat.le_of_ble_eq_true rfl⟩
set_option maxRecDepth 1000000 in
set_option maxHeartbeats 8000000 in
theorem xo_14_k0 (xs : Nat → Int32) : ∃ (N : Nat) (hp : ix_H), N ≤ 2 ^ 15 ∧ ix_R (xTT 6 (va_up xs 1 0)) (ix_run (xTT 6 (va_up xs 1 0)) 14 8) xm_law N (671, xLS, [], xhp0) (some (.int 1), hp) ∧ hp.1 ≤ 600000 ∧ hp.2.1 ≤ 7302250 :=
  ⟨26, _, Nat.le_of_ble_eq_true rfl, (ix_R.fin 26 (iy_n_ok (iy_run_ok _ _ _) rfl)), Nat.le_of_ble_eq_true rfl, Nat.le_of_ble_eq_true rfl⟩
set_option maxRecDepth 1000000 in
set_option maxHeartbeats 8000000 in
theorem xo_14_k1 (xs : Nat → Int32) : ∃ (N : Nat) (hp : ix_H), N ≤ 2 ^ 15 ∧ ix_R (xTT 6 (va_up xs 1 1)) (ix_run (xTT 6 (va_up xs 1 1)) 14 8) xm_law N (671, xLS, [], xhp0) (some (.int 1), hp) ∧ hp.1 ≤ 600000 ∧ hp.2.1 ≤ 7302250 :=
  ⟨26, _, Nat.le_of_ble_eq_true rfl, (ix_R.fin 26 (iy_n_ok (iy_run_ok _ _ _) rfl)), Nat.le_of_ble_eq_true rfl, Nat.le_of_ble_eq_true rfl⟩
set_option maxRecDepth 1000000 in
set_option maxHeartbeats 8000000 in
theorem xo_14_k2 (xs : Nat → Int32) : ∃ (N : Nat) (hp : ix_H), N ≤ 2 ^ 15 ∧ ix_R (xTT 6 (va_up xs 1 2)) (ix_run (xTT 6 (va_up xs 1 2)) 14 8) xm_law N (671, xLS, [], xhp0) (some (.int 1), hp) ∧ hp.1 ≤ 600000 ∧ hp.2.1 ≤ 7302250 :=
  ⟨26, _, Nat.le_of_ble_eq_true rfl, (ix_R.fin 26 (iy_n_ok (iy_run_ok _ _ _) rfl)), Nat.le_of_ble_eq_true rfl, Nat.le_of_ble_eq_true rfl⟩
set_option maxRecDepth 1000000 in
set_option maxHeartbeats 8000000 in
theorem xo_14_k3 (xs : Nat → Int32) : ∃ (N : Nat) (hp : ix_H), N ≤ 2 ^ 15 ∧ ix_R (xTT 6 (va_up xs 1 3)) (ix_run (xTT 6 (va_up xs 1 3)) 14 8) xm_law N (671, xLS, [], xhp0) (some (.int 1), hp) ∧ hp.1 ≤ 600000 ∧ hp.2.1 ≤ 7302250 :=
  ⟨26, _, Nat.le_of_ble_eq_true rfl, (ix_R.fin 26 (iy_n_ok (iy_run_ok _ _ _) rfl)), Nat.le_of_ble_eq_true rfl, Nat.le_of_ble_eq_true rfl⟩
set_option maxRecDepth 1000000 in
set_option maxHeartbeats 8000000 in
theorem xo_14_k4 (xs : Nat → Int32) : ∃ (N : Nat) (hp : ix_H), N ≤ 2 ^ 15 ∧ ix_R (xTT 6 (va_up xs 1 4)) (ix_run (xTT 6 (va_up xs 1 4)) 14 8) xm_law N (671, xLS, [], xhp0) (some (.int 1), hp) ∧ hp.1 ≤ 600000 ∧ hp.2.1 ≤ 7302250 :=
  ⟨26, _, Nat.le_of_ble_eq_true rfl, (ix_R.fin 26 (iy_n_ok (iy_run_ok _ _ _) rfl)), Nat.le_of_ble_eq_true rfl, Nat.le_of_ble_eq_true rfl⟩
set_option maxRecDepth 1000000 in
set_option maxHeartbeats 8000000 in
theorem xo_14_k5 (xs : Nat → Int32) : ∃ (N : Nat) (hp : ix_H), N ≤ 2 ^ 15 ∧ ix_R (xTT 6 (va_up xs 1 5)) (ix_run (xTT 6 (va_up xs 1 5)) 14 8) xm_law N (671, xLS, [], xhp0) (some (.int 1), hp) ∧ hp.1 ≤ 600000 ∧ hp.2.1 ≤ 7302250 :=
  ⟨26, _, Nat.le_of_ble_eq_true rfl, (ix_R.fin 26 (iy_n_ok (iy_run_ok _ _ _) rfl)), Nat.le_of_ble_eq_true rfl, Nat.le_of_ble_eq_true rfl⟩
set_option maxRecDepth 1000000 in
set_option maxHeartbeats 8000000 in
theorem xo_14_k6 (xs : Nat → Int32) : ∃ (N : Nat) (hp : ix_H), N ≤ 2 ^ 15 ∧ ix_R (xTT 6 (va_up xs 1 6)) (ix_run (xTT 6 (va_up xs 1 6)) 14 8) xm_law N (671, xLS, [], xhp0) (some (.int 1), hp) ∧ hp.1 ≤ 600000 ∧ hp.2.1 ≤ 7302250 :=
  ⟨26, _, Nat.le_of_ble_eq_true rfl, (ix_R.fin 26 (iy_n_ok (iy_run_ok _ _ _) rfl)), Nat.le_of_ble_eq_true rfl, Nat.le_of_ble_eq_true rfl⟩
set_option maxRecDepth 1000000 in
set_option maxHeartbeats 8000000 in
theorem xo_14_k7 (xs : Nat → Int32) : ∃ (N : Nat) (hp : ix_H), N ≤ 2 ^ 15 ∧ ix_R (xTT 6 (va_up xs 1 7)) (ix_run (xTT 6 (va_up xs 1 7)) 14 8) xm_law N (671, xLS, [], xhp0) (some (.int 1), hp) ∧ hp.1 ≤ 600000 ∧ hp.2.1 ≤ 7302250 :=
  ⟨26, _, Nat.le_of_ble_eq_true rfl, (ix_R.fin 26 (iy_n_ok (iy_run_ok _ _ _) rfl)), Nat.le_of_ble_eq_true rfl, Nat.le_of_ble_eq_true rfl⟩
set_option maxRecDepth 1000000 in
set_option maxHeartbeats 8000000 in
theorem xo_14_k8 (xs : Nat → Int32) : ∃ (N : Nat) (hp : ix_H), N ≤ 2 ^ 15 ∧ ix_R (xTT 6 (va_up xs 1 8)) (ix_run (xTT 6 (va_up xs 1 8)) 14 8) xm_law N (671, xLS, [], xhp0) (some (.int 1), hp) ∧ hp.1 ≤ 600000 ∧ hp.2.1 ≤ 7302250 :=
  ⟨26, _, Nat.le_of_ble_eq_true rfl, (ix_R.fin 26 (iy_n_ok (iy_run_ok _ _ _) rfl)), Nat.le_of_ble_eq_true rfl, Nat.le_of_ble_eq_true rfl⟩
set_option maxRecDepth 1000000 in
set_option maxHeartbeats 8000000 in
theorem xo_14_k9 (xs : Nat → Int32) : ∃ (N : Nat) (hp : ix_H), N ≤ 2 ^ 15 ∧ ix_R (xTT 6 (va_up xs 1 9)) (ix_run (xTT 6 (va_up xs 1 9)) 14 8) xm_law N (671, xLS, [], xhp0) (some (.int 1), hp) ∧ hp.1 ≤ 600000 ∧ hp.2.1 ≤ 7302250 :=
  ⟨26, _, Nat.le_of_ble_eq_true rfl, (ix_R.fin 26 (iy_n_ok (iy_run_ok _ _ _) rfl)), Nat.le_of_ble_eq_true rfl, Nat.le_of_ble_eq_true rfl⟩
set_option maxRecDepth 1000000 in
set_option maxHeartbeats 8000000 in
theorem xo_14_k10 (xs : Nat → Int32) : ∃ (N : Nat) (hp : ix_H), N ≤ 2 ^ 15 ∧ ix_R (xTT 6 (va_up xs 1 10)) (ix_run (xTT 6 (va_up xs 1 10)) 14 8) xm_law N (671, xLS, [], xhp0) (some (.int 1), hp) ∧ hp.1 ≤ 600000 ∧ hp.2.1 ≤ 7302250 :=
  ⟨26, _, Nat.le_of_ble_eq_true rfl, (ix_R.fin 26 (iy_n_ok (iy_run_ok _ _ _) rfl)), Nat.le_of_ble_eq_true rfl, Nat.le_of_ble_eq_true rfl⟩
set_option maxRecDepth 1000000 in
set_option maxHeartbeats 8000000 in
theorem xo_14_k11 (xs : Nat → Int32) : ∃ (N : Nat) (hp : ix_H), N ≤ 2 ^ 15 ∧ ix_R (xTT 6 (va_up xs 1 11)) (ix_run (xTT 6 (va_up xs 1 11)) 14 8) xm_law N (671, xLS, [], xhp0) (some (.int 1), hp) ∧ hp.1 ≤ 600000 ∧ hp.2.1 ≤ 7302250 :=
  ⟨26, _, Nat.le_of_ble_eq_true rfl, (ix_R.fin 26 (iy_n_ok (iy_run_ok _ _ _) rfl)), Nat.le_of_ble_eq_true rfl, Nat.le_of_ble_eq_true rfl⟩
set_option maxRecDepth 1000000 in
set_option maxHeartbeats 8000000 in
theorem xo_14_k12 (xs : Nat → Int32) : ∃ (N : Nat) (hp : ix_H), N ≤ 2 ^ 15 ∧ ix_R (xTT 6 (va_up xs 1 12)) (ix_run (xTT 6 (va_up xs 1 12)) 14 8) xm_law N (671, xLS, [], xhp0) (some (.int 1), hp) ∧ hp.1 ≤ 600000 ∧ hp.2.1 ≤ 7302250 :=
  ⟨26, _, Nat.le_of_ble_eq_true rfl, (ix_R.fin 26 (iy_n_ok (iy_run_ok _ _ _) rfl)), Nat.le_of_ble_eq_true rfl, Nat.le_of_ble_eq_true rfl⟩
set_option maxRecDepth 1000000 in
set_option maxHeartbeats 8000000 in
theorem xo_14_k13 (xs : Nat → Int32) : ∃ (N : Nat) (hp : ix_H), N ≤ 2 ^ 15 ∧ ix_R (xTT 6 (va_up xs 1 13)) (ix_run (xTT 6 (va_up xs 1 13)) 14 8) xm_law N (671, xLS, [], xhp0) (some (.int 1), hp) ∧ hp.1 ≤ 600000 ∧ hp.2.1 ≤ 7302250 :=
  ⟨26, _, Nat.le_of_ble_eq_true rfl, (ix_R.fin 26 (iy_n_ok (iy_run_ok _ _ _) rfl)), Nat.le_of_ble_eq_true rfl, Nat.le_of_ble_eq_true rfl⟩
set_option maxRecDepth 1000000 in
set_option maxHeartbeats 8000000 in
theorem xo_14_k14 (xs : Nat → Int32) : ∃ (N : Nat) (hp : ix_H), N ≤ 2 ^ 15 ∧ ix_R (xTT 6 (va_up xs 1 14)) (ix_run (xTT 6 (va_up xs 1 14)) 14 8) xm_law N (671, xLS, [], xhp0) (some (.int 1), hp) ∧ hp.1 ≤ 600000 ∧ hp.2.1 ≤ 7302250 :=
  ⟨26, _, Nat.le_of_ble_eq_true rfl, (ix_R.fin 26 (iy_n_ok (iy_run_ok _ _ _) rfl)), Nat.le_of_ble_eq_true rfl, Nat.le_of_ble_eq_true rfl⟩
set_option maxRecDepth 1000000 in
set_option maxHeartbeats 8000000 in
theorem xo_14_k15 (xs : Nat → Int32) : ∃ (N : Nat) (hp : ix_H), N ≤ 2 ^ 15 ∧ ix_R (xTT 6 (va_up xs 1 15)) (ix_run (xTT 6 (va_up xs 1 15)) 14 8) xm_law N (671, xLS, [], xhp0) (some (.int 1), hp) ∧ hp.1 ≤ 600000 ∧ hp.2.1 ≤ 7302250 :=
  ⟨26, _, Nat.le_of_ble_eq_true rfl, (ix_R.fin 26 (iy_n_ok (iy_run_ok _ _ _) rfl)), Nat.le_of_ble_eq_true rfl, Nat.le_of_ble_eq_true rfl⟩
set_option maxRecDepth 1000000 in
set_option maxHeartbeats 8000000 in
theorem xo_14_k16 (xs : Nat → Int32) : ∃ (N : Nat) (hp : ix_H), N ≤ 2 ^ 15 ∧ ix_R (xTT 6 (va_up xs 1 16)) (ix_run (xTT 6 (va_up xs 1 16)) 14 8) xm_law N (671, xLS, [], xhp0) (some (.int 1), hp) ∧ hp.1 ≤ 600000 ∧ hp.2.1 ≤ 7302250 :=
  ⟨26, _, Nat.le_of_ble_eq_true rfl, (ix_R.fin 26 (iy_n_ok (iy_run_ok _ _ _) rfl)), Nat.le_of_ble_eq_true rfl, Nat.le_of_ble_eq_true rfl⟩
set_option maxRecDepth 1000000 in
set_option maxHeartbeats 8000000 in
theorem xo_14_k17 (xs : Nat → Int32) : ∃ (N : Nat) (hp : ix_H), N ≤ 2 ^ 15 ∧ ix_R (xTT 6 (va_up xs 1 17)) (ix_run (xTT 6 (va_up xs 1 17)) 14 8) xm_law N (671, xLS, [], xhp0) (some (.int 1), hp) ∧ hp.1 ≤ 600000 ∧ hp.2.1 ≤ 7302250 :=
  ⟨26, _, Nat.le_of_ble_eq_true rfl, (ix_R.fin 26 (iy_n_ok (iy_run_ok _ _ _) rfl)), Nat.le_of_ble_eq_true rfl, Nat.le_of_ble_eq_true rfl⟩
set_option maxRecDepth 1000000 in
set_option maxHeartbeats 8000000 in
theorem xo_14_k18 (xs : Nat → Int32) : ∃ (N : Nat) (hp : ix_H), N ≤ 2 ^ 15 ∧ ix_R (xTT 6 (va_up xs 1 18)) (ix_run (xTT 6 (va_up xs 1 18)) 14 8) xm_law N (671, xLS, [], xhp0) (some (.int 1), hp) ∧ hp.1 ≤ 600000 ∧ hp.2.1 ≤ 7302250 :=
  ⟨26, _, Nat.le_of_ble_eq_true rfl, (ix_R.fin 26 (iy_n_ok (iy_run_ok _ _ _) rfl)), Nat.le_of_ble_eq_true rfl, Nat.le_of_ble_eq_true rfl⟩
set_option maxRecDepth 1000000 in
set_option maxHeartbeats 8000000 in
theorem xo_14_k19 (xs : Nat → Int32) : ∃ (N : Nat) (hp : ix_H), N ≤ 2 ^ 15 ∧ ix_R (xTT 6 (va_up xs 1 19)) (ix_run (xTT 6 (va_up xs 1 19)) 14 8) xm_law N (671, xLS, [], xhp0) (some (.int 1), hp) ∧ hp.1 ≤ 600000 ∧ hp.2.1 ≤ 7302250 :=
  ⟨26, _, Nat.le_of_ble_eq_true rfl, (ix_R.fin 26 (iy_n_ok (iy_run_ok _ _ _) rfl)), Nat.le_of_ble_eq_true rfl, Nat.le_of_ble_eq_true rfl⟩
set_option maxRecDepth 1000000 in
set_option maxHeartbeats 8000000 in
theorem xo_14_k20 (xs : Nat → Int32) : ∃ (N : Nat) (hp : ix_H), N ≤ 2 ^ 15 ∧ ix_R (xTT 6 (va_up xs 1 20)) (ix_run (xTT 6 (va_up xs 1 20)) 14 8) xm_law N (671, xLS, [], xhp0) (some (.int 1), hp) ∧ hp.1 ≤ 600000 ∧ hp.2.1 ≤ 7302250 :=
  ⟨26, _, Nat.le_of_ble_eq_true rfl, (ix_R.fin 26 (iy_n_ok (iy_run_ok _ _ _) rfl)), Nat.le_of_ble_eq_true rfl, Nat.le_of_ble_eq_true rfl⟩
set_option maxRecDepth 1000000 in
set_option maxHeartbeats 8000000 in
theorem xo_14_k21 (xs : Nat → Int32) : ∃ (N : Nat) (hp : ix_H), N ≤ 2 ^ 15 ∧ ix_R (xTT 6 (va_up xs 1 21)) (ix_run (xTT 6 (va_up xs 1 21)) 14 8) xm_law N (671, xLS, [], xhp0) (some (.int 1), hp) ∧ hp.1 ≤ 600000 ∧ hp.2.1 ≤ 7302250 :=
  ⟨26, _, Nat.le_of_ble_eq_true rfl, (ix_R.fin 26 (iy_n_ok (iy_run_ok _ _ _) rfl)), Nat.le_of_ble_eq_true rfl, Nat.le_of_ble_eq_true rfl⟩
set_option maxRecDepth 1000000 in
set_option maxHeartbeats 8000000 in
theorem xo_14_k22 (xs : Nat → Int32) : ∃ (N : Nat) (hp : ix_H), N ≤ 2 ^ 15 ∧ ix_R (xTT 6 (va_up xs 1 22)) (ix_run (xTT 6 (va_up xs 1 22)) 14 8) xm_law N (671, xLS, [], xhp0) (some (.int 1), hp) ∧ hp.1 ≤ 600000 ∧ hp.2.1 ≤ 7302250 :=
  ⟨26, _, Nat.le_of_ble_eq_true rfl, (ix_R.fin 26 (iy_n_ok (iy_run_ok _ _ _) rfl)), Nat.le_of_ble_eq_true rfl, Nat.le_of_ble_eq_true rfl⟩
set_option maxRecDepth 1000000 in
set_option maxHeartbeats 8000000 in
theorem xo_14_k23 (xs : Nat → Int32) : ∃ (N : Nat) (hp : ix_H), N ≤ 2 ^ 15 ∧ ix_R (xTT 6 (va_up xs 1 23)) (ix_run (xTT 6 (va_up xs 1 23)) 14 8) xm_law N (671, xLS, [], xhp0) (some (.int 1), hp) ∧ hp.1 ≤ 600000 ∧ hp.2.1 ≤ 7302250 :=
  ⟨26, _, Nat.le_of_ble_eq_true rfl, (ix_R.fin 26 (iy_n_ok (iy_run_ok _ _ _) rfl)), Nat.le_of_ble_eq_true rfl, Nat.le_of_ble_eq_true rfl⟩
set_option maxRecDepth 1000000 in
set_option maxHeartbeats 8000000 in
theorem xo_15_neg (xs : Nat → Int32) (h1 : -2147483648 ≤ (xs 1).toInt ∧ (xs 1).toInt ≤ -1) : ∃ (N : Nat) (hp : ix_H), N ≤ 2 ^ 15 ∧ ix_R (xTT 6 xs) (ix_run (xTT 6 xs) 14 8) xm_law N (695, xLS, [], xhp0) (some (.int 1), hp) ∧ hp.1 ≤ 600000 ∧ hp.2.1 ≤ 7302250 :=
  ⟨25, _, Nat.le_of_ble_eq_true rfl, (ix_R.step 6 (iy_n_ok (iy_run_ok _ _ _) rfl) (ix_R.step 1 (ix_n_call (Or.inl ⟨_, rfl⟩) rfl (ix_cal_v rfl (Or.inl rfl) rfl rfl rfl ⟨rfl, Nat.le_of_ble_eq_true rfl, Nat.le_of_ble_eq_true rfl⟩ (ix_R.run (N := 6) rfl (Nat.le_of_ble_eq_true rfl) (ix_R.step 2 (iy_n_ok (iy_run_ok _ _ _) rfl) (ix_R.step 1 (ix_n_call (Or.inl ⟨_, rfl⟩) rfl (ix_cal_v rfl (Or.inl rfl) rfl rfl rfl ⟨rfl, Nat.le_of_ble_eq_true rfl, Nat.le_of_ble_eq_true rfl⟩ (ix_R.run (N := 4) rfl (Nat.le_of_ble_eq_true rfl) (ix_R.step 1 (iy_n_ok (iy_run_ok _ _ _) rfl) (ix_R.step 1 (ix_n_ift rfl rfl (cbt_lt (x := xs 1) (y := 0) (by have e9 : (0 : Int32).toInt = 0 := rfl; omega))) (ix_R.fin 2 (iy_n_ok (iy_run_ok _ _ _) rfl)))) (Nat.le_of_ble_eq_true rfl)))) (ix_R.fin 3 (iy_n_ok (iy_run_ok _ _ _) rfl)))) (Nat.le_of_ble_eq_true rfl)))) (ix_R.step 6 (iy_n_ok (iy_run_ok _ _ _) rfl) (ix_R.step 1 (ix_n_call (Or.inl ⟨_, rfl⟩) rfl (ix_cal_v rfl (Or.inl rfl) rfl rfl rfl ⟨rfl, Nat.le_of_ble_eq_true rfl, Nat.le_of_ble_eq_true rfl⟩ (ix_R.run (N := 6) rfl (Nat.le_of_ble_eq_true rfl) (ix_R.step 2 (iy_n_ok (iy_run_ok _ _ _) rfl) (ix_R.step 1 (ix_n_call (Or.inl ⟨_, rfl⟩) rfl (ix_cal_v rfl (Or.inl rfl) rfl rfl rfl ⟨rfl, Nat.le_of_ble_eq_true rfl, Nat.le_of_ble_eq_true rfl⟩ (ix_R.run (N := 5) rfl (Nat.le_of_ble_eq_true rfl) (ix_R.step 1 (iy_n_ok (iy_run_ok _ _ _) rfl) (ix_R.step 1 (ix_n_call (Or.inr (Or.inr ⟨_, rfl⟩)) rfl (ix_cal_s rfl (Or.inl rfl) ⟨Nat.le_of_ble_eq_true rfl, Nat.le_of_ble_eq_true rfl⟩ (ix_R.run (N := 6) rfl (Nat.le_of_ble_eq_true rfl) (ix_R.step 4 (iy_n_ok (iy_run_ok _ _ _) rfl) (ix_R.step 1 (ix_n_call (Or.inr (Or.inr ⟨_, rfl⟩)) rfl (ix_cal_s rfl (Or.inl rfl) ⟨Nat.le_of_ble_eq_true rfl, Nat.le_of_ble_eq_true rfl⟩ (ix_R.run (N := 6) rfl (Nat.le_of_ble_eq_true rfl) (ix_R.step 3 (iy_n_ok (iy_run_ok _ _ _) rfl) (ix_R.step 1 (ix_n_ift rfl rfl (clt_lt (x := (xs 1).toInt64) (y := 0) (by rw [Int32.toInt_toInt64]; have e9 : (0 : Int64).toInt = 0 := rfl; omega))) (ix_R.fin 2 (iy_n_ok (iy_run_ok _ _ _) rfl)))) (Nat.le_of_ble_eq_true rfl)))) (ix_R.fin 1 (iy_n_ok (iy_run_ok _ _ _) rfl)))) (Nat.le_of_ble_eq_true rfl)))) (ix_R.fin 3 (iy_n_ok (iy_run_ok _ _ _) rfl)))) (Nat.le_of_ble_eq_true rfl)))) (ix_R.fin 3 (iy_n_ok (iy_run_ok _ _ _) rfl)))) (Nat.le_of_ble_eq_true rfl)))) (ix_R.fin 11 (iy_n_ok (iy_run_ok _ _ _) rfl)))))), Nat.le_of_ble_eq_true rfl, Nat.le_of_ble_eq_true rfl⟩
set_option maxRecDepth 1000000 in
set_option maxHeartbeats 8000000 in
theorem xo_15_big (xs : Nat → Int32) (h1 : 24 ≤ (xs 1).toInt ∧ (xs 1).toInt ≤ 2147483647) : ∃ (N : Nat) (hp : ix_H), N ≤ 2 ^ 15 ∧ ix_R (xTT 6 xs) (ix_run (xTT 6 xs) 14 8) xm_law N (695, xLS, [], xhp0) (some (.int 1), hp) ∧ hp.1 ≤ 600000 ∧ hp.2.1 ≤ 7302250 :=
  ⟨25, _, Nat.le_of_ble_eq_true rfl, (ix_R.step 6 (iy_n_ok (iy_run_ok _ _ _) rfl) (ix_R.step 1 (ix_n_call (Or.inl ⟨_, rfl⟩) rfl (ix_cal_v rfl (Or.inl rfl) rfl rfl rfl ⟨rfl, Nat.le_of_ble_eq_true rfl, Nat.le_of_ble_eq_true rfl⟩ (ix_R.run (N := 6) rfl (Nat.le_of_ble_eq_true rfl) (ix_R.step 2 (iy_n_ok (iy_run_ok _ _ _) rfl) (ix_R.step 1 (ix_n_call (Or.inl ⟨_, rfl⟩) rfl (ix_cal_v rfl (Or.inl rfl) rfl rfl rfl ⟨rfl, Nat.le_of_ble_eq_true rfl, Nat.le_of_ble_eq_true rfl⟩ (ix_R.run (N := 7) rfl (Nat.le_of_ble_eq_true rfl) (ix_R.step 1 (iy_n_ok (iy_run_ok _ _ _) rfl) (ix_R.step 1 (ix_n_iff rfl rfl (cbf_lt (x := xs 1) (y := 0) (by have e9 : (0 : Int32).toInt = 0 := rfl; omega))) (ix_R.step 2 (iy_n_ok (iy_run_ok _ _ _) rfl) (ix_R.step 1 (ix_n_icmpt rfl rfl (cbt_ge (x := xs 1) (y := 24) (by have e9 : (24 : Int32).toInt = 24 := rfl; omega))) (ix_R.fin 2 (iy_n_ok (iy_run_ok _ _ _) rfl)))))) (Nat.le_of_ble_eq_true rfl)))) (ix_R.fin 3 (iy_n_ok (iy_run_ok _ _ _) rfl)))) (Nat.le_of_ble_eq_true rfl)))) (ix_R.step 6 (iy_n_ok (iy_run_ok _ _ _) rfl) (ix_R.step 1 (ix_n_call (Or.inl ⟨_, rfl⟩) rfl (ix_cal_v rfl (Or.inl rfl) rfl rfl rfl ⟨rfl, Nat.le_of_ble_eq_true rfl, Nat.le_of_ble_eq_true rfl⟩ (ix_R.run (N := 6) rfl (Nat.le_of_ble_eq_true rfl) (ix_R.step 2 (iy_n_ok (iy_run_ok _ _ _) rfl) (ix_R.step 1 (ix_n_call (Or.inl ⟨_, rfl⟩) rfl (ix_cal_v rfl (Or.inl rfl) rfl rfl rfl ⟨rfl, Nat.le_of_ble_eq_true rfl, Nat.le_of_ble_eq_true rfl⟩ (ix_R.run (N := 5) rfl (Nat.le_of_ble_eq_true rfl) (ix_R.step 1 (iy_n_ok (iy_run_ok _ _ _) rfl) (ix_R.step 1 (ix_n_call (Or.inr (Or.inr ⟨_, rfl⟩)) rfl (ix_cal_s rfl (Or.inl rfl) ⟨Nat.le_of_ble_eq_true rfl, Nat.le_of_ble_eq_true rfl⟩ (ix_R.run (N := 6) rfl (Nat.le_of_ble_eq_true rfl) (ix_R.step 4 (iy_n_ok (iy_run_ok _ _ _) rfl) (ix_R.step 1 (ix_n_call (Or.inr (Or.inr ⟨_, rfl⟩)) rfl (ix_cal_s rfl (Or.inl rfl) ⟨Nat.le_of_ble_eq_true rfl, Nat.le_of_ble_eq_true rfl⟩ (ix_R.run (N := 10) rfl (Nat.le_of_ble_eq_true rfl) (ix_R.step 3 (iy_n_ok (iy_run_ok _ _ _) rfl) (ix_R.step 1 (ix_n_iff rfl rfl (clf_lt (x := (xs 1).toInt64) (y := 0) (by rw [Int32.toInt_toInt64]; have e9 : (0 : Int64).toInt = 0 := rfl; omega))) (ix_R.step 3 (iy_n_ok (iy_run_ok _ _ _) rfl) (ix_R.step 1 (ix_n_ift rfl rfl (clt_gt (x := (xs 1).toInt64) (y := 23) (by rw [Int32.toInt_toInt64]; have e9 : (23 : Int64).toInt = 23 := rfl; omega))) (ix_R.fin 2 (iy_n_ok (iy_run_ok _ _ _) rfl)))))) (Nat.le_of_ble_eq_true rfl)))) (ix_R.fin 1 (iy_n_ok (iy_run_ok _ _ _) rfl)))) (Nat.le_of_ble_eq_true rfl)))) (ix_R.fin 3 (iy_n_ok (iy_run_ok _ _ _) rfl)))) (Nat.le_of_ble_eq_true rfl)))) (ix_R.fin 3 (iy_n_ok (iy_run_ok _ _ _) rfl)))) (Nat.le_of_ble_eq_true rfl)))) (ix_R.fin 11 (iy_n_ok (iy_run_ok _ _ _) rfl)))))), Nat.le_of_ble_eq_true rfl, Nat.le_of_ble_eq_true rfl⟩
set_option maxRecDepth 1000000 in
set_option maxHeartbeats 8000000 in
theorem xo_15_k0 (xs : Nat → Int32) : ∃ (N : Nat) (hp : ix_H), N ≤ 2 ^ 15 ∧ ix_R (xTT 6 (va_up xs 1 0)) (ix_run (xTT 6 (va_up xs 1 0)) 14 8) xm_law N (695, xLS, [], xhp0) (some (.int 1), hp) ∧ hp.1 ≤ 600000 ∧ hp.2.1 ≤ 7302250 :=
  ⟨25, _, Nat.le_of_ble_eq_true rfl, (ix_R.fin 25 (iy_n_ok (iy_run_ok _ _ _) rfl)), Nat.le_of_ble_eq_true rfl, Nat.le_of_ble_eq_true rfl⟩
set_option maxRecDepth 1000000 in
set_option maxHeartbeats 8000000 in
theorem xo_15_k1 (xs : Nat → Int32) : ∃ (N : Nat) (hp : ix_H), N ≤ 2 ^ 15 ∧ ix_R (xTT 6 (va_up xs 1 1)) (ix_run (xTT 6 (va_up xs 1 1)) 14 8) xm_law N (695, xLS, [], xhp0) (some (.int 1), hp) ∧ hp.1 ≤ 600000 ∧ hp.2.1 ≤ 7302250 :=
  ⟨25, _, Nat.le_of_ble_eq_true rfl, (ix_R.fin 25 (iy_n_ok (iy_run_ok _ _ _) rfl)), Nat.le_of_ble_eq_true rfl, Nat.le_of_ble_eq_true rfl⟩
set_option maxRecDepth 1000000 in
set_option maxHeartbeats 8000000 in
theorem xo_15_k2 (xs : Nat → Int32) : ∃ (N : Nat) (hp : ix_H), N ≤ 2 ^ 15 ∧ ix_R (xTT 6 (va_up xs 1 2)) (ix_run (xTT 6 (va_up xs 1 2)) 14 8) xm_law N (695, xLS, [], xhp0) (some (.int 1), hp) ∧ hp.1 ≤ 600000 ∧ hp.2.1 ≤ 7302250 :=
  ⟨25, _, Nat.le_of_ble_eq_true rfl, (ix_R.fin 25 (iy_n_ok (iy_run_ok _ _ _) rfl)), Nat.le_of_ble_eq_true rfl, Nat.le_of_ble_eq_true rfl⟩
set_option maxRecDepth 1000000 in
set_option maxHeartbeats 8000000 in
theorem xo_15_k3 (xs : Nat → Int32) : ∃ (N : Nat) (hp : ix_H), N ≤ 2 ^ 15 ∧ ix_R (xTT 6 (va_up xs 1 3)) (ix_run (xTT 6 (va_up xs 1 3)) 14 8) xm_law N (695, xLS, [], xhp0) (some (.int 1), hp) ∧ hp.1 ≤ 600000 ∧ hp.2.1 ≤ 7302250 :=
  ⟨25, _, Nat.le_of_ble_eq_true rfl, (ix_R.fin 25 (iy_n_ok (iy_run_ok _ _ _) rfl)), Nat.le_of_ble_eq_true rfl, Nat.le_of_ble_eq_true rfl⟩
set_option maxRecDepth 1000000 in
set_option maxHeartbeats 8000000 in
theorem xo_15_k4 (xs : Nat → Int32) : ∃ (N : Nat) (hp : ix_H), N ≤ 2 ^ 15 ∧ ix_R (xTT 6 (va_up xs 1 4)) (ix_run (xTT 6 (va_up xs 1 4)) 14 8) xm_law N (695, xLS, [], xhp0) (some (.int 1), hp) ∧ hp.1 ≤ 600000 ∧ hp.2.1 ≤ 7302250 :=
  ⟨25, _, Nat.le_of_ble_eq_true rfl, (ix_R.fin 25 (iy_n_ok (iy_run_ok _ _ _) rfl)), Nat.le_of_ble_eq_true rfl, Nat.le_of_ble_eq_true rfl⟩
set_option maxRecDepth 1000000 in
set_option maxHeartbeats 8000000 in
theorem xo_15_k5 (xs : Nat → Int32) : ∃ (N : Nat) (hp : ix_H), N ≤ 2 ^ 15 ∧ ix_R (xTT 6 (va_up xs 1 5)) (ix_run (xTT 6 (va_up xs 1 5)) 14 8) xm_law N (695, xLS, [], xhp0) (some (.int 1), hp) ∧ hp.1 ≤ 600000 ∧ hp.2.1 ≤ 7302250 :=
  ⟨25, _, Nat.le_of_ble_eq_true rfl, (ix_R.fin 25 (iy_n_ok (iy_run_ok _ _ _) rfl)), Nat.le_of_ble_eq_true rfl, Nat.le_of_ble_eq_true rfl⟩
