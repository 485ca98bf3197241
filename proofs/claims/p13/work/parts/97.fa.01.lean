section
theorem c_Flow_figure_x {A : Nat → Option (Nat × (Nat → Int32))} {Q : Option Value → jm → Prop} {M : jm} (hC_M : CI M) {t : Nat} (k_t : kd t = 1) {x : Int} (h_x : (-2147483648) ≤ x ∧ x ≤ 2147483647) {y : Int} (h_y : (-2147483648) ≤ y ∧ y ≤ 2147483647) (q : ∀ (r : Int), (-2147483648) ≤ r ∧ r ≤ 2147483647 → (r = fgF M t x y) → Q (some (.int (Int32.ofInt r))) M) : jc A 1 62 [.ref (t), .int (Int32.ofInt (x)), .int (Int32.ofInt (y))] M Q := by
  refine jc_of (m := xm_62) rfl (Nat.le_of_ble_eq_true rfl) rfl ?_
  refine jr.iload_n rfl rfl ?_
  rcases (show x = 0 ∨ x = 1 ∨ x = 2 ∨ x = 3 ∨ x = 4 ∨ x = 5 ∨ x = 6 ∨ x = 7 ∨ x = 8 ∨ x = 9 ∨ x = 10 ∨ (x ≠ 0 ∧ x ≠ 1 ∧ x ≠ 2 ∧ x ≠ 3 ∧ x ≠ 4 ∧ x ≠ 5 ∧ x ≠ 6 ∧ x ≠ 7 ∧ x ≠ 8 ∧ x ≠ 9 ∧ x ≠ 10) by omega) with h1 | h1 | h1 | h1 | h1 | h1 | h1 | h1 | h1 | h1 | h1 | h1
  · refine jr.tsw_k 0 rfl h1 rfl ?_
    refine jr.aload_n rfl rfl ?_
    obtain ⟨v1, e1⟩ : ∃ z_, M t 2 = z_ := ⟨_, rfl⟩
    have b1 : (-2147483648) ≤ v1 ∧ v1 ≤ 2147483647 := by rw [← e1]; exact (CI.r hC_M k_t (by decide) 2)
    refine jr.getf (i := 2) (x := v1) (v := .int (Int32.ofInt (v1))) rfl rfl (Nat.lt_trans (kx_1 k_t).1 (by decide)) (kx_1 k_t).2 (by decide) rfl rfl e1 rfl ?_
    exact jr.ireturn rfl rfl rfl (q _ (by omega) (by unfold fgF; rw [if_pos (by omega)]; omega))
  · refine jr.tsw_k 1 rfl h1 rfl ?_
    refine jr.aload_n rfl rfl ?_
    obtain ⟨v2, e2⟩ : ∃ z_, M t 5 = z_ := ⟨_, rfl⟩
    have b2 : (-2147483648) ≤ v2 ∧ v2 ≤ 2147483647 := by rw [← e2]; exact (CI.r hC_M k_t (by decide) 5)
    refine jr.getf (i := 5) (x := v2) (v := .int (Int32.ofInt (v2))) rfl rfl (Nat.lt_trans (kx_1 k_t).1 (by decide)) (kx_1 k_t).2 (by decide) rfl rfl e2 rfl ?_
    exact jr.ireturn rfl rfl rfl (q _ (by omega) (by unfold fgF; rw [if_neg (by omega), if_pos (by omega)]; omega))
  · refine jr.tsw_k 2 rfl h1 rfl ?_
    refine jr.aload_n rfl rfl ?_
    have k3 := kf_1_4 k_t
    refine jr.getf (i := 4) (v := .ref (t + 2)) rfl rfl (Nat.lt_trans (kx_1 k_t).1 (by decide)) (kx_1 k_t).2 (by decide) rfl rfl rfl (jval_ref rfl k3.1) ?_
    refine jr.iconst rfl ?_
    obtain ⟨v4, e4⟩ : ∃ z_, M ((t + 2)) 0 = z_ := ⟨_, rfl⟩
    have b4 : (-2147483648) ≤ v4 ∧ v4 ≤ 2147483647 := by rw [← e4]; exact (CI.r hC_M k3.2 (by decide) 0)
    refine jr.iald (i := 0) (x := v4) rfl (Nat.lt_trans (kx_7 k3.2).1 (by decide)) (kx_7 k3.2).2 (by decide) (by omega) (by omega) e4 ?_
    exact jr.ireturn rfl rfl rfl (q _ (by omega) (by unfold fgF; rw [if_neg (by omega), if_neg (by omega), if_pos (by omega)]; omega))
  · refine jr.tsw_k 3 rfl h1 rfl ?_
    refine jr.aload_n rfl rfl ?_
    have k5 := kf_1_4 k_t
    refine jr.getf (i := 4) (v := .ref (t + 2)) rfl rfl (Nat.lt_trans (kx_1 k_t).1 (by decide)) (kx_1 k_t).2 (by decide) rfl rfl rfl (jval_ref rfl k5.1) ?_
    refine jr.iconst rfl ?_
    obtain ⟨v6, e6⟩ : ∃ z_, M ((t + 2)) 1 = z_ := ⟨_, rfl⟩
    have b6 : (-2147483648) ≤ v6 ∧ v6 ≤ 2147483647 := by rw [← e6]; exact (CI.r hC_M k5.2 (by decide) 1)
    refine jr.iald (i := 1) (x := v6) rfl (Nat.lt_trans (kx_7 k5.2).1 (by decide)) (kx_7 k5.2).2 (by decide) (by omega) (by omega) e6 ?_
    exact jr.ireturn rfl rfl rfl (q _ (by omega) (by unfold fgF; rw [if_neg (by omega), if_neg (by omega), if_neg (by omega), if_pos (by omega)]; omega))
  · refine jr.tsw_k 4 rfl h1 rfl ?_
    refine jr.aload_n rfl rfl ?_
    obtain ⟨v7, e7⟩ : ∃ z_, M t 6 = z_ := ⟨_, rfl⟩
    have b7 : (-2147483648) ≤ v7 ∧ v7 ≤ 2147483647 := by rw [← e7]; exact (CI.r hC_M k_t (by decide) 6)
    refine jr.getf (i := 6) (x := v7) (v := .int (Int32.ofInt (v7))) rfl rfl (Nat.lt_trans (kx_1 k_t).1 (by decide)) (kx_1 k_t).2 (by decide) rfl rfl e7 rfl ?_
    refine jr.iload_n rfl rfl ?_
    refine jr.isub rfl ?_
    refine jr.iw (j_w (v7 - y)) (j_w_eq _) ?_
    have b8 : -2147483648 ≤ j_w (v7 - y) ∧ j_w (v7 - y) ≤ 2147483647 := jb_any _
    exact jr.ireturn rfl rfl rfl (q _ (by omega) (by unfold fgF; rw [if_neg (by omega), if_neg (by omega), if_neg (by omega), if_neg (by omega), if_pos (by omega)]; rw [e7]))
  · refine jr.tsw_k 5 rfl h1 rfl ?_
    refine jr.aload_n rfl rfl ?_
    have k9 := kf_1_7 k_t
    refine jr.getf (i := 7) (v := .ref (t + 3)) rfl rfl (Nat.lt_trans (kx_1 k_t).1 (by decide)) (kx_1 k_t).2 (by decide) rfl rfl rfl (jval_ref rfl k9.1) ?_
    refine jr.iconst rfl ?_
    obtain ⟨v10, e10⟩ : ∃ z_, M ((t + 3)) 0 = z_ := ⟨_, rfl⟩
    have b10 : (-2147483648) ≤ v10 ∧ v10 ≤ 2147483647 := by rw [← e10]; exact (CI.r hC_M k9.2 (by decide) 0)
    refine jr.iald (i := 0) (x := v10) rfl (Nat.lt_trans (kx_5 k9.2).1 (by decide)) (kx_5 k9.2).2 (by decide) (by omega) (by omega) e10 ?_
    exact jr.ireturn rfl rfl rfl (q _ (by omega) (by unfold fgF; rw [if_neg (by omega), if_neg (by omega), if_neg (by omega), if_neg (by omega), if_neg (by omega), if_pos (by omega)]; omega))
  · refine jr.tsw_k 6 rfl h1 rfl ?_
    refine jr.aload_n rfl rfl ?_
    have k11 := kf_1_7 k_t
    refine jr.getf (i := 7) (v := .ref (t + 3)) rfl rfl (Nat.lt_trans (kx_1 k_t).1 (by decide)) (kx_1 k_t).2 (by decide) rfl rfl rfl (jval_ref rfl k11.1) ?_
    refine jr.iconst rfl ?_
    obtain ⟨v12, e12⟩ : ∃ z_, M ((t + 3)) 1 = z_ := ⟨_, rfl⟩
    have b12 : (-2147483648) ≤ v12 ∧ v12 ≤ 2147483647 := by rw [← e12]; exact (CI.r hC_M k11.2 (by decide) 1)
    refine jr.iald (i := 1) (x := v12) rfl (Nat.lt_trans (kx_5 k11.2).1 (by decide)) (kx_5 k11.2).2 (by decide) (by omega) (by omega) e12 ?_
    exact jr.ireturn rfl rfl rfl (q _ (by omega) (by unfold fgF; rw [if_neg (by omega), if_neg (by omega), if_neg (by omega), if_neg (by omega), if_neg (by omega), if_neg (by omega), if_pos (by omega)]; omega))
  · refine jr.tsw_k 7 rfl h1 rfl ?_
    refine jr.aload_n rfl rfl ?_
    have k13 := kf_1_9 k_t
    refine jr.getf (i := 9) (v := .ref (t + 5)) rfl rfl (Nat.lt_trans (kx_1 k_t).1 (by decide)) (kx_1 k_t).2 (by decide) rfl rfl rfl (jval_ref rfl k13.1) ?_
    refine jr.iconst rfl ?_
    obtain ⟨v14, e14⟩ : ∃ z_, M ((t + 5)) 0 = z_ := ⟨_, rfl⟩
    have b14 : (-2147483648) ≤ v14 ∧ v14 ≤ 2147483647 := by rw [← e14]; exact (CI.r hC_M k13.2 (by decide) 0)
    refine jr.iald (i := 0) (x := v14) rfl (Nat.lt_trans (kx_8 k13.2).1 (by decide)) (kx_8 k13.2).2 (by decide) (by omega) (by omega) e14 ?_
    exact jr.ireturn rfl rfl rfl (q _ (by omega) (by unfold fgF; rw [if_neg (by omega), if_neg (by omega), if_neg (by omega), if_neg (by omega), if_neg (by omega), if_neg (by omega), if_neg (by omega), if_pos (by omega)]; omega))
  · refine jr.tsw_k 8 rfl h1 rfl ?_
    refine jr.aload_n rfl rfl ?_
    have k15 := kf_1_9 k_t
    refine jr.getf (i := 9) (v := .ref (t + 5)) rfl rfl (Nat.lt_trans (kx_1 k_t).1 (by decide)) (kx_1 k_t).2 (by decide) rfl rfl rfl (jval_ref rfl k15.1) ?_
    refine jr.iconst rfl ?_
    obtain ⟨v16, e16⟩ : ∃ z_, M ((t + 5)) 1 = z_ := ⟨_, rfl⟩
    have b16 : (-2147483648) ≤ v16 ∧ v16 ≤ 2147483647 := by rw [← e16]; exact (CI.r hC_M k15.2 (by decide) 1)
    refine jr.iald (i := 1) (x := v16) rfl (Nat.lt_trans (kx_8 k15.2).1 (by decide)) (kx_8 k15.2).2 (by decide) (by omega) (by omega) e16 ?_
    exact jr.ireturn rfl rfl rfl (q _ (by omega) (by unfold fgF; rw [if_neg (by omega), if_neg (by omega), if_neg (by omega), if_neg (by omega), if_neg (by omega), if_neg (by omega), if_neg (by omega), if_neg (by omega), if_pos (by omega)]; omega))
  · refine jr.tsw_k 9 rfl h1 rfl ?_
    refine jr.aload_n rfl rfl ?_
    obtain ⟨v17, e17⟩ : ∃ z_, M t 15 = z_ := ⟨_, rfl⟩
    have b17 : (-2147483648) ≤ v17 ∧ v17 ≤ 2147483647 := by rw [← e17]; exact (CI.r hC_M k_t (by decide) 15)
    refine jr.getf (i := 15) (x := v17) (v := .int (Int32.ofInt (v17))) rfl rfl (Nat.lt_trans (kx_1 k_t).1 (by decide)) (kx_1 k_t).2 (by decide) rfl rfl e17 rfl ?_
    exact jr.ireturn rfl rfl rfl (q _ (by omega) (by unfold fgF; rw [if_neg (by omega), if_neg (by omega), if_neg (by omega), if_neg (by omega), if_neg (by omega), if_neg (by omega), if_neg (by omega), if_neg (by omega), if_neg (by omega), if_pos (by omega)]; omega))
  · refine jr.tsw_k 10 rfl h1 rfl ?_
    refine jr.aload_n rfl rfl ?_
    obtain ⟨v18, e18⟩ : ∃ z_, M t 1 = z_ := ⟨_, rfl⟩
    have b18 : 0 ≤ v18 ∧ v18 ≤ 1 := by rw [← e18]; exact (CI.r hC_M k_t (by decide) 1)
    refine jr.getf (i := 1) (x := v18) (v := .int (Int32.ofInt (v18))) rfl rfl (Nat.lt_trans (kx_1 k_t).1 (by decide)) (kx_1 k_t).2 (by decide) rfl rfl e18 rfl ?_
    refine jr.if_eq rfl rfl (by omega) (fun h128 => ?_) (fun h128 => ?_)
    · refine jr.iconst rfl ?_
      exact jr.ireturn rfl rfl rfl (q _ (by omega) (by unfold fgF; rw [if_neg (by omega), if_neg (by omega), if_neg (by omega), if_neg (by omega), if_neg (by omega), if_neg (by omega), if_neg (by omega), if_neg (by omega), if_neg (by omega), if_neg (by omega), if_pos (by omega)]; first | (rw [if_pos (by omega)]) | (rw [if_neg (by omega)])))
    · have sx128 : (1 : Int) ≤ v18 := by omega
      clear h128
      refine jr.iconst rfl ?_
      refine jr.goto rfl rfl ?_
      exact jr.ireturn rfl rfl rfl (q _ (by omega) (by unfold fgF; rw [if_neg (by omega), if_neg (by omega), if_neg (by omega), if_neg (by omega), if_neg (by omega), if_neg (by omega), if_neg (by omega), if_neg (by omega), if_neg (by omega), if_neg (by omega), if_pos (by omega)]; first | (rw [if_pos (by omega)]) | (rw [if_neg (by omega)])))
  · refine jr.tsw_d rfl (by omega) (by omega) rfl ?_
    refine jr.bipush rfl (by decide) ?_
    exact jr.ireturn rfl rfl rfl (q _ (by omega) (by unfold fgF; rw [if_neg (by omega), if_neg (by omega), if_neg (by omega), if_neg (by omega), if_neg (by omega), if_neg (by omega), if_neg (by omega), if_neg (by omega), if_neg (by omega), if_neg (by omega), if_neg (by omega)]))
end
