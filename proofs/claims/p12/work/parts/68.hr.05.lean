theorem r_byKind_x {A : Nat → Option (Nat × (Nat → Int32))} {Q : Option Value → jm → Prop} {M : jm} (hI_M : RI M) (hH_M : RH M) (hS_M : RF M) {w : Int} (h_w : (-2147483648) ≤ w ∧ w ≤ 2147483647) (q : ∀ (r : Int), 0 ≤ r ∧ r ≤ 11 → r = byK w → Q (some (.int (Int32.ofInt r))) M) : jc A 1 263 [.int (Int32.ofInt (w))] M Q := by
  refine jc_of (m := xm_263) rfl (Nat.le_of_ble_eq_true rfl) rfl ?_
  refine jr.iload_n rfl rfl ?_
  refine jr.iconst rfl ?_
  refine jr.icmp_ne rfl rfl (by omega) (by omega) (fun h2 => ?_) (fun h2 => ?_)
  · refine jr.iload_n rfl rfl ?_
    refine jr.bipush rfl (by decide) ?_
    refine jr.icmp_ne rfl rfl (by omega) (by omega) (fun h12 => ?_) (fun h12 => ?_)
    · refine jr.iload_n rfl rfl ?_
      refine jr.bipush rfl (by decide) ?_
      refine jr.icmp_ne rfl rfl (by omega) (by omega) (fun h22 => ?_) (fun h22 => ?_)
      · refine jr.bipush rfl (by decide) ?_
        exact jr.ireturn rfl rfl rfl (q _ (by omega) (by unfold byK; (repeat' split) <;> omega))
      · refine jr.iconst rfl ?_
        refine jr.goto rfl rfl ?_
        exact jr.ireturn rfl rfl rfl (q _ (by omega) (by unfold byK; (repeat' split) <;> omega))
    · refine jr.iconst rfl ?_
      refine jr.goto rfl rfl ?_
      exact jr.ireturn rfl rfl rfl (q _ (by omega) (by unfold byK; (repeat' split) <;> omega))
  · refine jr.iconst rfl ?_
    refine jr.goto rfl rfl ?_
    exact jr.ireturn rfl rfl rfl (q _ (by omega) (by unfold byK; (repeat' split) <;> omega))
theorem r_byNext_x {A : Nat → Option (Nat × (Nat → Int32))} {Q : Option Value → jm → Prop} {M : jm} (hI_M : RI M) (hH_M : RH M) (hS_M : RF M) {w : Int} (h_w : (-2147483648) ≤ w ∧ w ≤ 2147483647) {b : Int} (h_b : 0 ≤ b ∧ b ≤ 1) (q : ∀ (r : Int), 0 ≤ r ∧ r ≤ 11 → r = byN w b → Q (some (.int (Int32.ofInt r))) M) : jc A 1 264 [.int (Int32.ofInt (w)), .int (Int32.ofInt (b))] M Q := by
  refine jc_of (m := xm_264) rfl (Nat.le_of_ble_eq_true rfl) rfl ?_
  refine jr.iload_n rfl rfl ?_
  rcases (show w = 1 ∨ w = 4 ∨ w = 6 ∨ w = 17 ∨ w = 41 ∨ w = 47 ∨ (w ≠ 1 ∧ w ≠ 4 ∧ w ≠ 6 ∧ w ≠ 17 ∧ w ≠ 41 ∧ w ≠ 47) by omega) with h1 | h1 | h1 | h1 | h1 | h1 | h1
  · refine jr.lsw_k 1 rfl h1 rfl ?_
    refine jr.bipush rfl (by decide) ?_
    exact jr.ireturn rfl rfl rfl (q _ (by omega) (byN_k.1 h1).symm)
  · refine jr.lsw_k 4 rfl h1 rfl ?_
    refine jr.iconst rfl ?_
    exact jr.ireturn rfl rfl rfl (q _ (by omega) (byN_k.2.2.2.2.1 h1).symm)
  · refine jr.lsw_k 6 rfl h1 rfl ?_
    refine jr.bipush rfl (by decide) ?_
    exact jr.ireturn rfl rfl rfl (q _ (by omega) (byN_k.2.1 h1).symm)
  · refine jr.lsw_k 17 rfl h1 rfl ?_
    refine jr.bipush rfl (by decide) ?_
    exact jr.ireturn rfl rfl rfl (q _ (by omega) (byN_k.2.2.1 h1).symm)
  · refine jr.lsw_k 41 rfl h1 rfl ?_
    refine jr.iconst rfl ?_
    exact jr.ireturn rfl rfl rfl (q _ (by omega) (byN_k.2.2.2.2.2 h1).symm)
  · refine jr.lsw_k 47 rfl h1 rfl ?_
    refine jr.bipush rfl (by decide) ?_
    exact jr.ireturn rfl rfl rfl (q _ (by omega) (byN_k.2.2.2.1 h1).symm)
  · refine jr.lsw_d rfl (by omega) rfl (fun q hq => by simp only [List.mem_cons, List.not_mem_nil, or_false] at hq; rcases hq with rfl | rfl | rfl | rfl | rfl | rfl <;> (simp only; omega)) rfl ?_
    refine jr.iload_n rfl rfl ?_
    refine jr.if_ne rfl rfl (by omega) (fun h77 => ?_) (fun h77 => ?_)
    · have sx77 : (1 : Int) ≤ b := by omega
      clear h77
      refine jr.iload_n rfl rfl ?_
      refine jr.if_ne rfl rfl (by omega) (fun h86 => ?_) (fun h86 => ?_)
      · refine jr.iload_n rfl rfl ?_
        refine jr.bipush rfl (by decide) ?_
        refine jr.icmp_ne rfl rfl (by omega) (by omega) (fun h96 => ?_) (fun h96 => ?_)
        · refine jr.iload_n rfl rfl ?_
          refine jr.bipush rfl (by decide) ?_
          refine jr.icmp_ne rfl rfl (by omega) (by omega) (fun h106 => ?_) (fun h106 => ?_)
          · refine jr.bipush rfl (by decide) ?_
            exact jr.ireturn rfl rfl rfl (q _ (by omega) ((byN_e h1.1 h1.2.2.1 h1.2.2.2.1 h1.2.2.2.2.2 h1.2.1 h1.2.2.2.2.1).2.2.2.2 (by omega) (by omega) (by omega)).symm)
          · refine jr.bipush rfl (by decide) ?_
            refine jr.goto rfl rfl ?_
            exact jr.ireturn rfl rfl rfl (q _ (by omega) ((byN_e h1.1 h1.2.2.1 h1.2.2.2.1 h1.2.2.2.2.2 h1.2.1 h1.2.2.2.2.1).2.2.2.1 (by omega) (by omega)).symm)
        · refine jr.iconst rfl ?_
          refine jr.goto rfl rfl ?_
          exact jr.ireturn rfl rfl rfl (q _ (by omega) ((byN_e h1.1 h1.2.2.1 h1.2.2.2.1 h1.2.2.2.2.2 h1.2.1 h1.2.2.2.2.1).2.2.1 (by omega) (by omega)).symm)
      · refine jr.iconst rfl ?_
        refine jr.goto rfl rfl ?_
        exact jr.ireturn rfl rfl rfl (q _ (by omega) ((byN_e h1.1 h1.2.2.1 h1.2.2.2.1 h1.2.2.2.2.2 h1.2.1 h1.2.2.2.2.1).2.1 (by omega) (by omega)).symm)
    · refine jr.bipush rfl (by decide) ?_
      refine jr.goto rfl rfl ?_
      exact jr.ireturn rfl rfl rfl (q _ (by omega) ((byN_e h1.1 h1.2.2.1 h1.2.2.2.1 h1.2.2.2.2.2 h1.2.1 h1.2.2.2.2.1).1 (by omega)).symm)
theorem msF (f : Int → Int) (n k a : Int) : hsF f n 0 3 k a = if (k = 2 ∨ k = 3) ∧ n < a + 1 then 1 else if (k = 2 ∧ hb f n a / 16 ≠ 4) ∨ (k = 3 ∧ hb f n a / 16 ≠ 6) then 3 else if n < a + hls k then 1 else if (k = 2 ∨ k = 8) ∧ hsZ f n k a < 20 then 4 else if n < a + hsZ f n k a then 1 else if (k = 2 ∧ tw f (a + 2) ≠ n - a) ∨ (k = 3 ∧ tw f (a + 2) ≠ n - a - 24) ∨ (k = 9 ∧ tw f (a + 4) ≠ n - a) then 5 else 0 := by
  unfold hsF
  rw [if_neg (show ¬ (12 : Int) ≤ 0 by decide), if_neg (show ¬ ((k = 4 ∧ (3 : Int) ≠ 3) ∨ ((k = 6 ∨ k = 5) ∧ (3 : Int) ≠ 3 ∧ (3 : Int) ≠ 4 ∧ (3 : Int) ≠ 5)) by omega)]
theorem msW (f : Int → Int) (n k a : Int) : hsW f n 0 3 k a = if (k = 2 ∨ k = 3) ∧ n < a + 1 then n else if (k = 2 ∧ hb f n a / 16 ≠ 4) ∨ (k = 3 ∧ hb f n a / 16 ≠ 6) then a else if n < a + hls k then n else if (k = 2 ∨ k = 8) ∧ hsZ f n k a < 20 then (if k = 2 then a else a + 12) else if n < a + hsZ f n k a then n else (if k = 9 then a + 4 else a + 2) := by
  unfold hsW
  rw [if_neg (show ¬ (12 : Int) ≤ 0 by decide), if_neg (show ¬ ((k = 4 ∧ (3 : Int) ≠ 3) ∨ ((k = 6 ∨ k = 5) ∧ (3 : Int) ≠ 3 ∧ (3 : Int) ≠ 4 ∧ (3 : Int) ≠ 5)) by omega)]
