/-! ===== the class: flows: figures, pools, change ===== -/
def fgF (M : jm) (t : Nat) (x y : Int) : Int := if x = 0 then M t 2 else if x = 1 then M t 5 else if x = 2 then M (t + 2) 0 else if x = 3 then M (t + 2) 1 else if x = 4 then j_w (M t 6 - y) else if x = 5 then M (t + 3) 0 else if x = 6 then M (t + 3) 1 else if x = 7 then M (t + 5) 0 else if x = 8 then M (t + 5) 1 else if x = 9 then M t 15 else if x = 10 then (if M t 1 = 0 then 0 else 1) else -3
def fgL (M : jm) (t : Nat) (x : Int) : Int := if x = 0 then M (t + 1) 0 else if x = 1 then M (t + 1) 1 else if x = 2 then M (t + 6) 0 else if x = 3 then M (t + 6) 1 else if x = 4 then M (t + 7) 0 else if x = 5 then M (t + 7) 1 else -1
theorem c_Flows_isLive_x {A : Nat → Option (Nat × (Nat → Int32))} {Q : Option Value → jm → Prop} {M : jm} (hC_M : CI M) {x : Int} (h_x : (-2147483648) ≤ x ∧ x ≤ 2147483647) {V : Int} (g_V : M 15 0 = V) (q : ∀ (r : Int), 0 ≤ r ∧ r ≤ 1 → (r = 0 ∨ (0 ≤ x ∧ x ≤ 23)) → ((r = 1 ∧ (0 ≤ x ∧ x ≤ 23) ∧ M (xe (V.toNat) x) 0 ≠ 0) ∨ (r = 0 ∧ (x < 0 ∨ 23 < x ∨ M (xe (V.toNat) x) 0 = 0))) → Q (some (.int (Int32.ofInt r))) M) : jc A 1 74 [.ref (15), .int (Int32.ofInt (x))] M Q := by
  refine jc_of (m := xm_74) rfl (Nat.le_of_ble_eq_true rfl) rfl ?_
  have b_V : 16 ≤ V ∧ V ≤ 17 := by rw [← g_V]; exact (CI.r hC_M (show kd 15 = 9 from rfl) (by decide) 0)
  refine jr.iload_n rfl rfl ?_
  refine jr.if_lt rfl rfl (by omega) (fun h1 => ?_) (fun h1 => ?_)
  · refine jr.iconst rfl ?_
    exact jr.ireturn rfl rfl rfl (q _ (by omega) (by omega) (by omega))
  · refine jr.iload_n rfl rfl ?_
    refine jr.bipush rfl (by decide) ?_
    refine jr.icmp_ge rfl rfl (by omega) (by omega) (fun h7 => ?_) (fun h7 => ?_)
    · refine jr.iconst rfl ?_
      exact jr.ireturn rfl rfl rfl (q _ (by omega) (by omega) (by omega))
    · refine jr.aload_n rfl rfl ?_
      have k1 : kd (V).toNat = 13 := by rcases (show V = 16 ∨ V = 17 by omega) with h | h <;> (rw [h]; rfl)
      refine jr.getf (i := 0) (x := V) (v := .ref (V.toNat)) rfl rfl (by decide) rfl (by decide) rfl rfl g_V rfl ?_
      refine jr.iload_n rfl rfl ?_
      have k2 := kxe_13 k1 (i := x) (by omega) (by omega)
      refine jr.aald (c := (xe ((V.toNat)) x)) rfl (Nat.lt_trans (kx_13 k1).1 (by decide)) (kx_13 k1).2 (by decide) (by decide) rfl (by decide) (by omega) (by omega) k2.1 ?_
      obtain ⟨v3, e3⟩ : ∃ z_, M ((xe ((V.toNat)) x)) 0 = z_ := ⟨_, rfl⟩
      have b3 : 0 ≤ v3 ∧ v3 ≤ 1 := by rw [← e3]; exact (CI.r hC_M k2.2 (by decide) 0)
      refine jr.getf (i := 0) (x := v3) (v := .int (Int32.ofInt (v3))) rfl rfl (Nat.lt_trans (kx_1 k2.2).1 (by decide)) (kx_1 k2.2).2 (by decide) rfl rfl e3 rfl ?_
      refine jr.if_eq rfl rfl (by omega) (fun h19 => ?_) (fun h19 => ?_)
      · refine jr.iconst rfl ?_
        exact jr.ireturn rfl rfl rfl (q _ (by omega) (by omega) (by omega))
      · refine jr.iconst rfl ?_
        refine jr.goto rfl rfl ?_
        exact jr.ireturn rfl rfl rfl (q _ (by omega) (by omega) (by omega))
theorem c_Flow_figure_x {A : Nat → Option (Nat × (Nat → Int32))} {Q : Option Value → jm → Prop} {M : jm} (hC_M : CI M) {t : Nat} (k_t : kd t = 1) {x : Int} (h_x : (-2147483648) ≤ x ∧ x ≤ 2147483647) {y : Int} (h_y : (-2147483648) ≤ y ∧ y ≤ 2147483647) (q : ∀ (r : Int), (-2147483648) ≤ r ∧ r ≤ 2147483647 → (r = fgF M t x y) → Q (some (.int (Int32.ofInt r))) M) : jc A 1 62 [.ref (t), .int (Int32.ofInt (x)), .int (Int32.ofInt (y))] M Q := by
  refine jc_of (m := xm_62) rfl (Nat.le_of_ble_eq_true rfl) rfl ?_
  refine jr.iload_n rfl rfl ?_
  rcases (show x = 0 ∨ x = 1 ∨ x = 2 ∨ x = 3 ∨ x = 4 ∨ x = 5 ∨ x = 6 ∨ x = 7 ∨ x = 8 ∨ x = 9 ∨ x = 10 ∨ (x ≠ 0 ∧ x ≠ 1 ∧ x ≠ 2 ∧ x ≠ 3 ∧ x ≠ 4 ∧ x ≠ 5 ∧ x ≠ 6 ∧ x ≠ 7 ∧ x ≠ 8 ∧ x ≠ 9 ∧ x ≠ 10) by omega) with h1 | h1 | h1 | h1 | h1 | h1 | h1 | h1 | h1 | h1 | h1 | h1
  · refine jr.tsw_k 0 rfl h1 rfl ?_
    refine jr.aload_n rfl rfl ?_
    obtain ⟨v1, e1⟩ : ∃ z_, M t 2 = z_ := ⟨_, rfl⟩
    have b1 : (-2147483648) ≤ v1 ∧ v1 ≤ 2147483647 := by rw [← e1]; exact (CI.r hC_M k_t (by decide) 2)
    refine jr.getf (i := 2) (x := v1) (v := .int (Int32.ofInt (v1))) rfl rfl (Nat.lt_trans (kx_1 k_t).1 (by decide)) (kx_1 k_t).2 (by decide) rfl rfl e1 rfl ?_
    exact jr.ireturn rfl rfl rfl (q _ (by omega) (by unfold fgF; rw [if_pos (by omega)]; omega))
  · refine jr.tsw_k 1 rfl h1 rfl ?_
    refine jr.aload_n rfl rfl ?_
    obtain ⟨v2, e2⟩ : ∃ z_, M t 5 = z_ := ⟨_, rfl⟩
    have b2 : (-2147483648) ≤ v2 ∧ v2 ≤ 2147483647 := by rw [← e2]; exact (CI.r hC_M k_t (by decide) 5)
    refine jr.getf (i := 5) (x := v2) (v := .int (Int32.ofInt (v2))) rfl rfl (Nat.lt_trans (kx_1 k_t).1 (by decide)) (kx_1 k_t).2 (by decide) rfl rfl e2 rfl ?_
    exact jr.ireturn rfl rfl rfl (q _ (by omega) (by unfold fgF; rw [if_neg (by omega), if_pos (by omega)]; omega))
  · refine jr.tsw_k 2 rfl h1 rfl ?_
    refine jr.aload_n rfl rfl ?_
    have k3 := kf_1_4 k_t
    refine jr.getf (i := 4) (v := .ref (t + 2)) rfl rfl (Nat.lt_trans (kx_1 k_t).1 (by decide)) (kx_1 k_t).2 (by decide) rfl rfl rfl (jval_ref rfl k3.1) ?_
    refine jr.iconst rfl ?_
    obtain ⟨v4, e4⟩ : ∃ z_, M ((t + 2)) 0 = z_ := ⟨_, rfl⟩
    have b4 : (-2147483648) ≤ v4 ∧ v4 ≤ 2147483647 := by rw [← e4]; exact (CI.r hC_M k3.2 (by decide) 0)
    refine jr.iald (i := 0) (x := v4) rfl (Nat.lt_trans (kx_7 k3.2).1 (by decide)) (kx_7 k3.2).2 (by decide) (by omega) (by omega) e4 ?_
    exact jr.ireturn rfl rfl rfl (q _ (by omega) (by unfold fgF; rw [if_neg (by omega), if_neg (by omega), if_pos (by omega)]; omega))
  · refine jr.tsw_k 3 rfl h1 rfl ?_
    refine jr.aload_n rfl rfl ?_
    have k5 := kf_1_4 k_t
    refine jr.getf (i := 4) (v := .ref (t + 2)) rfl rfl (Nat.lt_trans (kx_1 k_t).1 (by decide)) (kx_1 k_t).2 (by decide) rfl rfl rfl (jval_ref rfl k5.1) ?_
    refine jr.iconst rfl ?_
    obtain ⟨v6, e6⟩ : ∃ z_, M ((t + 2)) 1 = z_ := ⟨_, rfl⟩
    have b6 : (-2147483648) ≤ v6 ∧ v6 ≤ 2147483647 := by rw [← e6]; exact (CI.r hC_M k5.2 (by decide) 1)
    refine jr.iald (i := 1) (x := v6) rfl (Nat.lt_trans (kx_7 k5.2).1 (by decide)) (kx_7 k5.2).2 (by decide) (by omega) (by omega) e6 ?_
    exact jr.ireturn rfl rfl rfl (q _ (by omega) (by unfold fgF; rw [if_neg (by omega), if_neg (by omega), if_neg (by omega), if_pos (by omega)]; omega))
  · refine jr.tsw_k 4 rfl h1 rfl ?_
    refine jr.aload_n rfl rfl ?_
    obtain ⟨v7, e7⟩ : ∃ z_, M t 6 = z_ := ⟨_, rfl⟩
    have b7 : (-2147483648) ≤ v7 ∧ v7 ≤ 2147483647 := by rw [← e7]; exact (CI.r hC_M k_t (by decide) 6)
    refine jr.getf (i := 6) (x := v7) (v := .int (Int32.ofInt (v7))) rfl rfl (Nat.lt_trans (kx_1 k_t).1 (by decide)) (kx_1 k_t).2 (by decide) rfl rfl e7 rfl ?_
    refine jr.iload_n rfl rfl ?_
    refine jr.isub rfl ?_
    refine jr.iw (j_w (v7 - y)) (j_w_eq _) ?_
    have b8 : -2147483648 ≤ j_w (v7 - y) ∧ j_w (v7 - y) ≤ 2147483647 := jb_any _
    exact jr.ireturn rfl rfl rfl (q _ (by omega) (by unfold fgF; rw [if_neg (by omega), if_neg (by omega), if_neg (by omega), if_neg (by omega), if_pos (by omega)]; rw [e7]))
  · refine jr.tsw_k 5 rfl h1 rfl ?_
    refine jr.aload_n rfl rfl ?_
    have k9 := kf_1_7 k_t
    refine jr.getf (i := 7) (v := .ref (t + 3)) rfl rfl (Nat.lt_trans (kx_1 k_t).1 (by decide)) (kx_1 k_t).2 (by decide) rfl rfl rfl (jval_ref rfl k9.1) ?_
    refine jr.iconst rfl ?_
    obtain ⟨v10, e10⟩ : ∃ z_, M ((t + 3)) 0 = z_ := ⟨_, rfl⟩
    have b10 : (-2147483648) ≤ v10 ∧ v10 ≤ 2147483647 := by rw [← e10]; exact (CI.r hC_M k9.2 (by decide) 0)
    refine jr.iald (i := 0) (x := v10) rfl (Nat.lt_trans (kx_5 k9.2).1 (by decide)) (kx_5 k9.2).2 (by decide) (by omega) (by omega) e10 ?_
    exact jr.ireturn rfl rfl rfl (q _ (by omega) (by unfold fgF; rw [if_neg (by omega), if_neg (by omega), if_neg (by omega), if_neg (by omega), if_neg (by omega), if_pos (by omega)]; omega))
  · refine jr.tsw_k 6 rfl h1 rfl ?_
    refine jr.aload_n rfl rfl ?_
    have k11 := kf_1_7 k_t
    refine jr.getf (i := 7) (v := .ref (t + 3)) rfl rfl (Nat.lt_trans (kx_1 k_t).1 (by decide)) (kx_1 k_t).2 (by decide) rfl rfl rfl (jval_ref rfl k11.1) ?_
    refine jr.iconst rfl ?_
    obtain ⟨v12, e12⟩ : ∃ z_, M ((t + 3)) 1 = z_ := ⟨_, rfl⟩
    have b12 : (-2147483648) ≤ v12 ∧ v12 ≤ 2147483647 := by rw [← e12]; exact (CI.r hC_M k11.2 (by decide) 1)
    refine jr.iald (i := 1) (x := v12) rfl (Nat.lt_trans (kx_5 k11.2).1 (by decide)) (kx_5 k11.2).2 (by decide) (by omega) (by omega) e12 ?_
    exact jr.ireturn rfl rfl rfl (q _ (by omega) (by unfold fgF; rw [if_neg (by omega), if_neg (by omega), if_neg (by omega), if_neg (by omega), if_neg (by omega), if_neg (by omega), if_pos (by omega)]; omega))
  · refine jr.tsw_k 7 rfl h1 rfl ?_
    refine jr.aload_n rfl rfl ?_
    have k13 := kf_1_9 k_t
    refine jr.getf (i := 9) (v := .ref (t + 5)) rfl rfl (Nat.lt_trans (kx_1 k_t).1 (by decide)) (kx_1 k_t).2 (by decide) rfl rfl rfl (jval_ref rfl k13.1) ?_
    refine jr.iconst rfl ?_
    obtain ⟨v14, e14⟩ : ∃ z_, M ((t + 5)) 0 = z_ := ⟨_, rfl⟩
    have b14 : (-2147483648) ≤ v14 ∧ v14 ≤ 2147483647 := by rw [← e14]; exact (CI.r hC_M k13.2 (by decide) 0)
    refine jr.iald (i := 0) (x := v14) rfl (Nat.lt_trans (kx_8 k13.2).1 (by decide)) (kx_8 k13.2).2 (by decide) (by omega) (by omega) e14 ?_
    exact jr.ireturn rfl rfl rfl (q _ (by omega) (by unfold fgF; rw [if_neg (by omega), if_neg (by omega), if_neg (by omega), if_neg (by omega), if_neg (by omega), if_neg (by omega), if_neg (by omega), if_pos (by omega)]; omega))
  · refine jr.tsw_k 8 rfl h1 rfl ?_
    refine jr.aload_n rfl rfl ?_
    have k15 := kf_1_9 k_t
    refine jr.getf (i := 9) (v := .ref (t + 5)) rfl rfl (Nat.lt_trans (kx_1 k_t).1 (by decide)) (kx_1 k_t).2 (by decide) rfl rfl rfl (jval_ref rfl k15.1) ?_
    refine jr.iconst rfl ?_
    obtain ⟨v16, e16⟩ : ∃ z_, M ((t + 5)) 1 = z_ := ⟨_, rfl⟩
    have b16 : (-2147483648) ≤ v16 ∧ v16 ≤ 2147483647 := by rw [← e16]; exact (CI.r hC_M k15.2 (by decide) 1)
    refine jr.iald (i := 1) (x := v16) rfl (Nat.lt_trans (kx_8 k15.2).1 (by decide)) (kx_8 k15.2).2 (by decide) (by omega) (by omega) e16 ?_
    exact jr.ireturn rfl rfl rfl (q _ (by omega) (by unfold fgF; rw [if_neg (by omega), if_neg (by omega), if_neg (by omega), if_neg (by omega), if_neg (by omega), if_neg (by omega), if_neg (by omega), if_neg (by omega), if_pos (by omega)]; omega))
  · refine jr.tsw_k 9 rfl h1 rfl ?_
    refine jr.aload_n rfl rfl ?_
    obtain ⟨v17, e17⟩ : ∃ z_, M t 15 = z_ := ⟨_, rfl⟩
    have b17 : (-2147483648) ≤ v17 ∧ v17 ≤ 2147483647 := by rw [← e17]; exact (CI.r hC_M k_t (by decide) 15)
    refine jr.getf (i := 15) (x := v17) (v := .int (Int32.ofInt (v17))) rfl rfl (Nat.lt_trans (kx_1 k_t).1 (by decide)) (kx_1 k_t).2 (by decide) rfl rfl e17 rfl ?_
    exact jr.ireturn rfl rfl rfl (q _ (by omega) (by unfold fgF; rw [if_neg (by omega), if_neg (by omega), if_neg (by omega), if_neg (by omega), if_neg (by omega), if_neg (by omega), if_neg (by omega), if_neg (by omega), if_neg (by omega), if_pos (by omega)]; omega))
  · refine jr.tsw_k 10 rfl h1 rfl ?_
    refine jr.aload_n rfl rfl ?_
    obtain ⟨v18, e18⟩ : ∃ z_, M t 1 = z_ := ⟨_, rfl⟩
    have b18 : 0 ≤ v18 ∧ v18 ≤ 1 := by rw [← e18]; exact (CI.r hC_M k_t (by decide) 1)
    refine jr.getf (i := 1) (x := v18) (v := .int (Int32.ofInt (v18))) rfl rfl (Nat.lt_trans (kx_1 k_t).1 (by decide)) (kx_1 k_t).2 (by decide) rfl rfl e18 rfl ?_
    refine jr.if_eq rfl rfl (by omega) (fun h128 => ?_) (fun h128 => ?_)
    · refine jr.iconst rfl ?_
      exact jr.ireturn rfl rfl rfl (q _ (by omega) (by unfold fgF; rw [if_neg (by omega), if_neg (by omega), if_neg (by omega), if_neg (by omega), if_neg (by omega), if_neg (by omega), if_neg (by omega), if_neg (by omega), if_neg (by omega), if_neg (by omega), if_pos (by omega)]; first | (rw [if_pos (by omega)]) | (rw [if_neg (by omega)])))
    · refine jr.iconst rfl ?_
      refine jr.goto rfl rfl ?_
      exact jr.ireturn rfl rfl rfl (q _ (by omega) (by unfold fgF; rw [if_neg (by omega), if_neg (by omega), if_neg (by omega), if_neg (by omega), if_neg (by omega), if_neg (by omega), if_neg (by omega), if_neg (by omega), if_neg (by omega), if_neg (by omega), if_pos (by omega)]; first | (rw [if_pos (by omega)]) | (rw [if_neg (by omega)])))
  · refine jr.tsw_d rfl (by omega) (by omega) rfl ?_
    refine jr.bipush rfl (by decide) ?_
    exact jr.ireturn rfl rfl rfl (q _ (by omega) (by unfold fgF; rw [if_neg (by omega), if_neg (by omega), if_neg (by omega), if_neg (by omega), if_neg (by omega), if_neg (by omega), if_neg (by omega), if_neg (by omega), if_neg (by omega), if_neg (by omega), if_neg (by omega)]))
theorem c_Flow_longFigure_x {A : Nat → Option (Nat × (Nat → Int32))} {Q : Option Value → jm → Prop} {M : jm} (hC_M : CI M) {t : Nat} (k_t : kd t = 1) {x : Int} (h_x : (-2147483648) ≤ x ∧ x ≤ 2147483647) (q : ∀ (r : Int), (-9223372036854775808) ≤ r ∧ r ≤ 9223372036854775807 → (r = fgL M t x) → Q (some (.long (Int64.ofInt r))) M) : jc A 1 63 [.ref (t), .int (Int32.ofInt (x))] M Q := by
  refine jc_of (m := xm_63) rfl (Nat.le_of_ble_eq_true rfl) rfl ?_
  refine jr.iload_n rfl rfl ?_
  rcases (show x = 0 ∨ x = 1 ∨ x = 2 ∨ x = 3 ∨ x = 4 ∨ x = 5 ∨ (x ≠ 0 ∧ x ≠ 1 ∧ x ≠ 2 ∧ x ≠ 3 ∧ x ≠ 4 ∧ x ≠ 5) by omega) with h1 | h1 | h1 | h1 | h1 | h1 | h1
  · refine jr.tsw_k 0 rfl h1 rfl ?_
    refine jr.aload_n rfl rfl ?_
    have k1 := kf_1_3 k_t
    refine jr.getf (i := 3) (v := .ref (t + 1)) rfl rfl (Nat.lt_trans (kx_1 k_t).1 (by decide)) (kx_1 k_t).2 (by decide) rfl rfl rfl (jval_ref rfl k1.1) ?_
    refine jr.iconst rfl ?_
    obtain ⟨v2, e2⟩ : ∃ z_, M ((t + 1)) 0 = z_ := ⟨_, rfl⟩
    have b2 : (-9223372036854775808) ≤ v2 ∧ v2 ≤ 9223372036854775807 := by rw [← e2]; exact (CI.r hC_M k1.2 (by decide) 0)
    refine jr.lald (i := 0) (x := v2) rfl (Nat.lt_trans (kx_2 k1.2).1 (by decide)) (kx_2 k1.2).2 (by decide) (by omega) (by omega) e2 ?_
    exact jr.lreturn rfl rfl (q _ (by omega) (by unfold fgL; rw [if_pos (by omega)]; omega))
  · refine jr.tsw_k 1 rfl h1 rfl ?_
    refine jr.aload_n rfl rfl ?_
    have k3 := kf_1_3 k_t
    refine jr.getf (i := 3) (v := .ref (t + 1)) rfl rfl (Nat.lt_trans (kx_1 k_t).1 (by decide)) (kx_1 k_t).2 (by decide) rfl rfl rfl (jval_ref rfl k3.1) ?_
    refine jr.iconst rfl ?_
    obtain ⟨v4, e4⟩ : ∃ z_, M ((t + 1)) 1 = z_ := ⟨_, rfl⟩
    have b4 : (-9223372036854775808) ≤ v4 ∧ v4 ≤ 9223372036854775807 := by rw [← e4]; exact (CI.r hC_M k3.2 (by decide) 1)
    refine jr.lald (i := 1) (x := v4) rfl (Nat.lt_trans (kx_2 k3.2).1 (by decide)) (kx_2 k3.2).2 (by decide) (by omega) (by omega) e4 ?_
    exact jr.lreturn rfl rfl (q _ (by omega) (by unfold fgL; rw [if_neg (by omega), if_pos (by omega)]; omega))
  · refine jr.tsw_k 2 rfl h1 rfl ?_
    refine jr.aload_n rfl rfl ?_
    have k5 := kf_1_10 k_t
    refine jr.getf (i := 10) (v := .ref (t + 6)) rfl rfl (Nat.lt_trans (kx_1 k_t).1 (by decide)) (kx_1 k_t).2 (by decide) rfl rfl rfl (jval_ref rfl k5.1) ?_
    refine jr.iconst rfl ?_
    obtain ⟨v6, e6⟩ : ∃ z_, M ((t + 6)) 0 = z_ := ⟨_, rfl⟩
    have b6 : (-9223372036854775808) ≤ v6 ∧ v6 ≤ 9223372036854775807 := by rw [← e6]; exact (CI.r hC_M k5.2 (by decide) 0)
    refine jr.lald (i := 0) (x := v6) rfl (Nat.lt_trans (kx_6 k5.2).1 (by decide)) (kx_6 k5.2).2 (by decide) (by omega) (by omega) e6 ?_
    exact jr.lreturn rfl rfl (q _ (by omega) (by unfold fgL; rw [if_neg (by omega), if_neg (by omega), if_pos (by omega)]; omega))
  · refine jr.tsw_k 3 rfl h1 rfl ?_
    refine jr.aload_n rfl rfl ?_
    have k7 := kf_1_10 k_t
    refine jr.getf (i := 10) (v := .ref (t + 6)) rfl rfl (Nat.lt_trans (kx_1 k_t).1 (by decide)) (kx_1 k_t).2 (by decide) rfl rfl rfl (jval_ref rfl k7.1) ?_
    refine jr.iconst rfl ?_
    obtain ⟨v8, e8⟩ : ∃ z_, M ((t + 6)) 1 = z_ := ⟨_, rfl⟩
    have b8 : (-9223372036854775808) ≤ v8 ∧ v8 ≤ 9223372036854775807 := by rw [← e8]; exact (CI.r hC_M k7.2 (by decide) 1)
    refine jr.lald (i := 1) (x := v8) rfl (Nat.lt_trans (kx_6 k7.2).1 (by decide)) (kx_6 k7.2).2 (by decide) (by omega) (by omega) e8 ?_
    exact jr.lreturn rfl rfl (q _ (by omega) (by unfold fgL; rw [if_neg (by omega), if_neg (by omega), if_neg (by omega), if_pos (by omega)]; omega))
  · refine jr.tsw_k 4 rfl h1 rfl ?_
    refine jr.aload_n rfl rfl ?_
    have k9 := kf_1_11 k_t
    refine jr.getf (i := 11) (v := .ref (t + 7)) rfl rfl (Nat.lt_trans (kx_1 k_t).1 (by decide)) (kx_1 k_t).2 (by decide) rfl rfl rfl (jval_ref rfl k9.1) ?_
    refine jr.iconst rfl ?_
    obtain ⟨v10, e10⟩ : ∃ z_, M ((t + 7)) 0 = z_ := ⟨_, rfl⟩
    have b10 : (-9223372036854775808) ≤ v10 ∧ v10 ≤ 9223372036854775807 := by rw [← e10]; exact (CI.r hC_M k9.2 (by decide) 0)
    refine jr.lald (i := 0) (x := v10) rfl (Nat.lt_trans (kx_3 k9.2).1 (by decide)) (kx_3 k9.2).2 (by decide) (by omega) (by omega) e10 ?_
    exact jr.lreturn rfl rfl (q _ (by omega) (by unfold fgL; rw [if_neg (by omega), if_neg (by omega), if_neg (by omega), if_neg (by omega), if_pos (by omega)]; omega))
  · refine jr.tsw_k 5 rfl h1 rfl ?_
    refine jr.aload_n rfl rfl ?_
    have k11 := kf_1_11 k_t
    refine jr.getf (i := 11) (v := .ref (t + 7)) rfl rfl (Nat.lt_trans (kx_1 k_t).1 (by decide)) (kx_1 k_t).2 (by decide) rfl rfl rfl (jval_ref rfl k11.1) ?_
    refine jr.iconst rfl ?_
    obtain ⟨v12, e12⟩ : ∃ z_, M ((t + 7)) 1 = z_ := ⟨_, rfl⟩
    have b12 : (-9223372036854775808) ≤ v12 ∧ v12 ≤ 9223372036854775807 := by rw [← e12]; exact (CI.r hC_M k11.2 (by decide) 1)
    refine jr.lald (i := 1) (x := v12) rfl (Nat.lt_trans (kx_3 k11.2).1 (by decide)) (kx_3 k11.2).2 (by decide) (by omega) (by omega) e12 ?_
    exact jr.lreturn rfl rfl (q _ (by omega) (by unfold fgL; rw [if_neg (by omega), if_neg (by omega), if_neg (by omega), if_neg (by omega), if_neg (by omega), if_pos (by omega)]; omega))
  · refine jr.tsw_d rfl (by omega) (by omega) rfl ?_
    refine jr.ldc2 (x := (-1)) rfl rfl (by decide) ?_
    exact jr.lreturn rfl rfl (q _ (by omega) (by unfold fgL; rw [if_neg (by omega), if_neg (by omega), if_neg (by omega), if_neg (by omega), if_neg (by omega), if_neg (by omega)]))
theorem c_PacketWall_flow_x {A : Nat → Option (Nat × (Nat → Int32))} {Q : Option Value → jm → Prop} {M : jm} (hC_M : CI M) {x : Int} (h_x : (-2147483648) ≤ x ∧ x ≤ 2147483647) {y : Int} (h_y : (-2147483648) ≤ y ∧ y ≤ 2147483647) {V : Int} (g_V : M 15 0 = V) (q : ∀ (r : Int), (-2147483648) ≤ r ∧ r ≤ 2147483647 → (((x < 0 ∨ 23 < x ∨ M (xe (V.toNat) x) 0 = 0) ∧ r = -2) ∨ (((0 ≤ x ∧ x ≤ 23) ∧ M (xe (V.toNat) x) 0 ≠ 0) ∧ r = fgF M (xe (V.toNat) x) y (M 0 8))) → Q (some (.int (Int32.ofInt r))) M) : jc A 2 20 [.ref (0), .int (Int32.ofInt (x)), .int (Int32.ofInt (y))] M Q := by
  refine jc_of (m := xm_20) rfl (Nat.le_of_ble_eq_true rfl) rfl ?_
  have b_V : 16 ≤ V ∧ V ≤ 17 := by rw [← g_V]; exact (CI.r hC_M (show kd 15 = 9 from rfl) (by decide) 0)
  refine jr.aload_n rfl rfl ?_
  refine jr.getf (i := 9) (v := .ref 15) rfl rfl (by decide) rfl (by decide) rfl rfl rfl rfl ?_
  refine jr.iload_n rfl rfl ?_
  refine jr_v rfl rfl (Or.inl rfl) rfl rfl (by decide) rfl ⟨rfl, Nat.le_of_ble_eq_true rfl, Nat.le_of_ble_eq_true rfl⟩ rfl (jc.deep (c_Flows_isLive_x hC_M (by omega) g_V (fun r1 z1 w1_0 w1_1 => ?_)) (by decide))
  refine jr.if_ne rfl rfl (by omega) (fun h8 => ?_) (fun h8 => ?_)
  · refine jr.aload_n rfl rfl ?_
    refine jr.getf (i := 9) (v := .ref 15) rfl rfl (by decide) rfl (by decide) rfl rfl rfl rfl ?_
    have k2 : kd (V).toNat = 13 := by rcases (show V = 16 ∨ V = 17 by omega) with h | h <;> (rw [h]; rfl)
    refine jr.getf (i := 0) (x := V) (v := .ref (V.toNat)) rfl rfl (by decide) rfl (by decide) rfl rfl g_V rfl ?_
    refine jr.iload_n rfl rfl ?_
    have k3 := kxe_13 k2 (i := x) (by omega) (by omega)
    refine jr.aald (c := (xe ((V.toNat)) x)) rfl (Nat.lt_trans (kx_13 k2).1 (by decide)) (kx_13 k2).2 (by decide) (by decide) rfl (by decide) (by omega) (by omega) k3.1 ?_
    refine jr.iload_n rfl rfl ?_
    refine jr.aload_n rfl rfl ?_
    obtain ⟨v4, e4⟩ : ∃ z_, M 0 8 = z_ := ⟨_, rfl⟩
    have b4 : (-2147483648) ≤ v4 ∧ v4 ≤ 2147483647 := by rw [← e4]; exact (CI.r hC_M (show kd 0 = 35 from rfl) (by decide) 8)
    refine jr.getf (i := 8) (x := v4) (v := .int (Int32.ofInt (v4))) rfl rfl (by decide) rfl (by decide) rfl rfl e4 rfl ?_
    refine jr_v rfl rfl (Or.inl rfl) rfl rfl (Nat.lt_trans (kx_1 k3.2).1 (by decide)) (kx_1 k3.2).2 ⟨rfl, Nat.le_of_ble_eq_true rfl, Nat.le_of_ble_eq_true rfl⟩ rfl (jc.deep (c_Flow_figure_x hC_M k3.2 (by omega) (by omega) (fun r5 z5 w5_0 => ?_)) (by decide))
    exact jr.ireturn rfl rfl rfl (q _ (by omega) (Or.inr ⟨by omega, by rw [e4]; exact w5_0⟩))
  · refine jr.bipush rfl (by decide) ?_
    exact jr.ireturn rfl rfl rfl (q _ (by omega) (Or.inl ⟨by omega, by omega⟩))
theorem c_PacketWall_flowed_x {A : Nat → Option (Nat × (Nat → Int32))} {Q : Option Value → jm → Prop} {M : jm} (hC_M : CI M) {x : Int} (h_x : (-2147483648) ≤ x ∧ x ≤ 2147483647) {y : Int} (h_y : (-2147483648) ≤ y ∧ y ≤ 2147483647) {V : Int} (g_V : M 15 0 = V) (q : ∀ (r : Int), (-9223372036854775808) ≤ r ∧ r ≤ 9223372036854775807 → (((x < 0 ∨ 23 < x ∨ M (xe (V.toNat) x) 0 = 0) ∧ r = -1) ∨ (((0 ≤ x ∧ x ≤ 23) ∧ M (xe (V.toNat) x) 0 ≠ 0) ∧ r = fgL M (xe (V.toNat) x) y)) → Q (some (.long (Int64.ofInt r))) M) : jc A 2 21 [.ref (0), .int (Int32.ofInt (x)), .int (Int32.ofInt (y))] M Q := by
  refine jc_of (m := xm_21) rfl (Nat.le_of_ble_eq_true rfl) rfl ?_
  have b_V : 16 ≤ V ∧ V ≤ 17 := by rw [← g_V]; exact (CI.r hC_M (show kd 15 = 9 from rfl) (by decide) 0)
  refine jr.aload_n rfl rfl ?_
  refine jr.getf (i := 9) (v := .ref 15) rfl rfl (by decide) rfl (by decide) rfl rfl rfl rfl ?_
  refine jr.iload_n rfl rfl ?_
  refine jr_v rfl rfl (Or.inl rfl) rfl rfl (by decide) rfl ⟨rfl, Nat.le_of_ble_eq_true rfl, Nat.le_of_ble_eq_true rfl⟩ rfl (jc.deep (c_Flows_isLive_x hC_M (by omega) g_V (fun r1 z1 w1_0 w1_1 => ?_)) (by decide))
  refine jr.if_eq rfl rfl (by omega) (fun h8 => ?_) (fun h8 => ?_)
  · refine jr.ldc2 (x := (-1)) rfl rfl (by decide) ?_
    exact jr.lreturn rfl rfl (q _ (by omega) (Or.inl ⟨by omega, by omega⟩))
  · refine jr.aload_n rfl rfl ?_
    refine jr.getf (i := 9) (v := .ref 15) rfl rfl (by decide) rfl (by decide) rfl rfl rfl rfl ?_
    have k2 : kd (V).toNat = 13 := by rcases (show V = 16 ∨ V = 17 by omega) with h | h <;> (rw [h]; rfl)
    refine jr.getf (i := 0) (x := V) (v := .ref (V.toNat)) rfl rfl (by decide) rfl (by decide) rfl rfl g_V rfl ?_
    refine jr.iload_n rfl rfl ?_
    have k3 := kxe_13 k2 (i := x) (by omega) (by omega)
    refine jr.aald (c := (xe ((V.toNat)) x)) rfl (Nat.lt_trans (kx_13 k2).1 (by decide)) (kx_13 k2).2 (by decide) (by decide) rfl (by decide) (by omega) (by omega) k3.1 ?_
    refine jr.iload_n rfl rfl ?_
    refine jr_v rfl rfl (Or.inl rfl) rfl rfl (Nat.lt_trans (kx_1 k3.2).1 (by decide)) (kx_1 k3.2).2 ⟨rfl, Nat.le_of_ble_eq_true rfl, Nat.le_of_ble_eq_true rfl⟩ rfl (jc.deep (c_Flow_longFigure_x hC_M k3.2 (by omega) (fun r4 z4 w4_0 => ?_)) (by decide))
    refine jr.goto rfl rfl ?_
    exact jr.lreturn rfl rfl (q _ (by omega) (Or.inr ⟨by omega, w4_0⟩))
def W_c_PacketWall_close_x : List (Nat × Nat) := [(1, 0)]
theorem c_PacketWall_close_x {A : Nat → Option (Nat × (Nat → Int32))} {Q : Option Value → jm → Prop} {T : jm} {M : jm} (hC_M : CI M) (ht_M : FR W_c_PacketWall_close_x T M) {x : Int} (h_x : (-2147483648) ≤ x ∧ x ≤ 2147483647) {V : Int} (g_V : M 15 0 = V) (p0 : T = M) (q : ∀ (r : Int) (M' : jm), CI M' → FR W_c_PacketWall_close_x T M' → (-2147483648) ≤ r ∧ r ≤ 2147483647 → (((x < 0 ∨ 23 < x ∨ T (xe (V.toNat) x) 0 = 0) ∧ r = -2 ∧ M' = T) ∨ (((0 ≤ x ∧ x ≤ 23) ∧ T (xe (V.toNat) x) 0 ≠ 0) ∧ r = 1 ∧ M' = ju T (xe (V.toNat) x) 0 0)) → Q (some (.int (Int32.ofInt r))) M') : jc A 2 22 [.ref (0), .int (Int32.ofInt (x))] M Q := by
  refine jc_of (m := xm_22) rfl (Nat.le_of_ble_eq_true rfl) rfl ?_
  have b_V : 16 ≤ V ∧ V ≤ 17 := by rw [← g_V]; exact (CI.r hC_M (show kd 15 = 9 from rfl) (by decide) 0)
  refine jr.aload_n rfl rfl ?_
  refine jr.getf (i := 9) (v := .ref 15) rfl rfl (by decide) rfl (by decide) rfl rfl rfl rfl ?_
  refine jr.iload_n rfl rfl ?_
  refine jr_v rfl rfl (Or.inl rfl) rfl rfl (by decide) rfl ⟨rfl, Nat.le_of_ble_eq_true rfl, Nat.le_of_ble_eq_true rfl⟩ rfl (jc.deep (c_Flows_isLive_x hC_M (by omega) g_V (fun r1 z1 w1_0 w1_1 => ?_)) (by decide))
  refine jr.if_ne rfl rfl (by omega) (fun h8 => ?_) (fun h8 => ?_)
  · refine jr.aload_n rfl rfl ?_
    refine jr.getf (i := 9) (v := .ref 15) rfl rfl (by decide) rfl (by decide) rfl rfl rfl rfl ?_
    have k2 : kd (V).toNat = 13 := by rcases (show V = 16 ∨ V = 17 by omega) with h | h <;> (rw [h]; rfl)
    refine jr.getf (i := 0) (x := V) (v := .ref (V.toNat)) rfl rfl (by decide) rfl (by decide) rfl rfl g_V rfl ?_
    refine jr.iload_n rfl rfl ?_
    have k3 := kxe_13 k2 (i := x) (by omega) (by omega)
    refine jr.aald (c := (xe ((V.toNat)) x)) rfl (Nat.lt_trans (kx_13 k2).1 (by decide)) (kx_13 k2).2 (by decide) (by decide) rfl (by decide) (by omega) (by omega) k3.1 ?_
    refine jr.iconst rfl ?_
    refine jr.putf (i := 0) (x := 0) rfl rfl (Nat.lt_trans (kx_1 k3.2).1 (by decide)) (kx_1 k3.2).2 (by decide) rfl rfl rfl rfl rfl ?_
    refine jr.iconst rfl ?_
    exact jr.ireturn rfl rfl rfl (q _ _ (CI.u hC_M (i := 0) k3.2 (show (0 : Int) ≤ _ ∧ _ ≤ (1 : Int) from by omega) rfl) (FR.o ht_M k3.2 rfl) (by omega) (Or.inr ⟨by rw [p0]; omega, by omega, by rw [p0]⟩))
  · refine jr.bipush rfl (by decide) ?_
    exact jr.ireturn rfl rfl rfl (q _ _ hC_M ht_M (by omega) (Or.inl ⟨by rw [p0]; omega, by omega, p0.symm⟩))
/-- a flow that is changed by pool k, from f on -/
def pu (M : jm) (V : Nat) (k : Int) : Nat → Int → Int
  | 0, _ => 0
  | n + 1, i => if M (xe V i) 0 ≠ 0 ∧ M (xe V i) 13 = k then 1 else pu M V k n (i + 1)
theorem pu_s {M : jm} {V : Nat} {k i : Int} (h : i < 24) : pu M V k (24 - i).toNat i = if M (xe V i) 0 ≠ 0 ∧ M (xe V i) 13 = k then 1 else pu M V k (24 - (i + 1)).toNat (i + 1) := by
  obtain ⟨n, hn⟩ : ∃ n : Nat, i = 23 - n := ⟨(23 - i).toNat, by omega⟩
  subst hn
  rw [show (24 - (23 - (n : Int))).toNat = n + 1 by omega, show (24 - (23 - (n : Int) + 1)).toNat = n by omega]
  rfl
/-- a port that is taken, from f on -/
def tk (M : jm) (V : Nat) (a o : Int) : Nat → Int → Int
  | 0, _ => 0
  | n + 1, i => if M (xe V i) 0 ≠ 0 ∧ M (xe V i) 13 ≠ -1 ∧ M (xe V i) 14 = a ∧ M (xe V i) 15 = o then 1 else tk M V a o n (i + 1)
theorem tk_s {M : jm} {V : Nat} {a o i : Int} (h : i < 24) : tk M V a o (24 - i).toNat i = if M (xe V i) 0 ≠ 0 ∧ M (xe V i) 13 ≠ -1 ∧ M (xe V i) 14 = a ∧ M (xe V i) 15 = o then 1 else tk M V a o (24 - (i + 1)).toNat (i + 1) := by
  obtain ⟨n, hn⟩ : ∃ n : Nat, i = 23 - n := ⟨(23 - i).toNat, by omega⟩
  subst hn
  rw [show (24 - (23 - (n : Int))).toNat = n + 1 by omega, show (24 - (23 - (n : Int) + 1)).toNat = n by omega]
  rfl
def W_c_Flows_layPool_x : List (Nat × Nat) := [(10, 1000), (11, 1000), (12, 1000)]
theorem c_Flows_layPool_x_L44 {A : Nat → Option (Nat × (Nat → Int32))} {Q : Option Value → jm → Prop} {T : jm} {V : Int} {u : Int} {x : Int} {y : Int} {z : Int} (q : ∀ (r : Int) (M' : jm), CI M' → FR W_c_Flows_layPool_x T M' → (-2147483648) ≤ r ∧ r ≤ 2147483647 → ((¬ ((0 ≤ x ∧ x ≤ 3) ∧ (1 ≤ u ∧ u ≤ 32) ∧ (1 ≤ z ∧ z + u ≤ 65536)) ∧ r = -3 ∧ M' = T) ∨ (((0 ≤ x ∧ x ≤ 3) ∧ (1 ≤ u ∧ u ≤ 32) ∧ (1 ≤ z ∧ z + u ≤ 65536)) ∧ pu T V.toNat x 24 0 = 1 ∧ r = -4 ∧ M' = T) ∨ (((0 ≤ x ∧ x ≤ 3) ∧ (1 ≤ u ∧ u ≤ 32) ∧ (1 ≤ z ∧ z + u ≤ 65536)) ∧ pu T V.toNat x 24 0 ≠ 1 ∧ r = u ∧ M' = ju (ju (ju T 26 x y) 27 x z) 28 x u)) → Q (some (.int (Int32.ofInt r))) M') : ∀ (nM : Nat) (M : jm) (i : Int), CI M → FR W_c_Flows_layPool_x T M → 0 ≤ x ∧ x ≤ 3 → (-9223372036854775808) ≤ y ∧ y ≤ 9223372036854775807 → 1 ≤ z ∧ z ≤ 65535 → 1 ≤ u ∧ u ≤ 32 → 0 ≤ i ∧ i ≤ 24 → M 15 0 = V → (pu T V.toNat x 24 0 = pu T V.toNat x (24 - i).toNat i) → (M = T) → (z + u ≤ 65536) → 24 - i ≤ nM → jr A 0 xm_80 44 [(1, .int (Int32.ofInt (x))), (2, .long (Int64.ofInt (y))), (4, .int (Int32.ofInt (z))), (5, .int (Int32.ofInt (u))), (6, .int (Int32.ofInt (i))), (0, .ref (15))] [] M Q := by
  intro nM
  induction nM using Nat.strongRecOn with
  | ind nM ih =>
    intro M i hC_M ht_M h_x h_y h_z h_u h_i g_V hy0 hy1 hy2 hm
    have b_V : 16 ≤ V ∧ V ≤ 17 := by rw [← g_V]; exact (CI.r hC_M (show kd 15 = 9 from rfl) (by decide) 0)
    refine jr.iload rfl rfl ?_
    refine jr.bipush rfl (by decide) ?_
    refine jr.icmp_ge rfl rfl (by omega) (by omega) (fun h48 => ?_) (fun h48 => ?_)
    · refine jr.aload_n rfl rfl ?_
      refine jr.getf (i := 6) (v := .ref 26) rfl rfl (by decide) rfl (by decide) rfl rfl rfl rfl ?_
      refine jr.iload_n rfl rfl ?_
      refine jr.lload_n rfl rfl ?_
      refine jr.last (i := x) (x := y) rfl (by decide) rfl (by decide) (by omega) (by omega) ?_
      refine jr.aload_n rfl rfl ?_
      refine jr.getf (i := 7) (v := .ref 27) rfl rfl (by decide) rfl (by decide) rfl rfl rfl rfl ?_
      refine jr.iload_n rfl rfl ?_
      refine jr.iload rfl rfl ?_
      refine jr.iast (i := x) (x := z) rfl (by decide) rfl (by decide) (by omega) (by omega) ?_
      refine jr.aload_n rfl rfl ?_
      refine jr.getf (i := 8) (v := .ref 28) rfl rfl (by decide) rfl (by decide) rfl rfl rfl rfl ?_
      refine jr.iload_n rfl rfl ?_
      refine jr.iload rfl rfl ?_
      refine jr.iast (i := x) (x := u) rfl (by decide) rfl (by decide) (by omega) (by omega) ?_
      refine jr.iload rfl rfl ?_
      exact jr.ireturn rfl rfl rfl (q _ _ (CI.u (CI.u (CI.u hC_M (i := x) (show kd 26 = 10 from rfl) (show (-9223372036854775808 : Int) ≤ _ ∧ _ ≤ (9223372036854775807 : Int) from by omega) rfl) (i := x) (show kd 27 = 11 from rfl) (show (-2147483648 : Int) ≤ _ ∧ _ ≤ (2147483647 : Int) from by omega) rfl) (i := x) (show kd 28 = 12 from rfl) (show (0 : Int) ≤ _ ∧ _ ≤ (32 : Int) from by omega) rfl) (FR.o (FR.o (FR.o ht_M (show kd 26 = 10 from rfl) rfl) (show kd 27 = 11 from rfl) rfl) (show kd 28 = 12 from rfl) rfl) (by omega) (Or.inr (Or.inr ⟨by omega, by rw [hy0, show (24 - i).toNat = 0 from by omega]; show (0 : Int) ≠ 1; decide, by omega, by rw [hy1]⟩)))
    · refine jr.aload_n rfl rfl ?_
      have k1 : kd (V).toNat = 13 := by rcases (show V = 16 ∨ V = 17 by omega) with h | h <;> (rw [h]; rfl)
      refine jr.getf (i := 0) (x := V) (v := .ref (V.toNat)) rfl rfl (by decide) rfl (by decide) rfl rfl g_V rfl ?_
      refine jr.iload rfl rfl ?_
      have k2 := kxe_13 k1 (i := i) (by omega) (by omega)
      refine jr.aald (c := (xe ((V.toNat)) i)) rfl (Nat.lt_trans (kx_13 k1).1 (by decide)) (kx_13 k1).2 (by decide) (by decide) rfl (by decide) (by omega) (by omega) k2.1 ?_
      obtain ⟨v3, e3⟩ : ∃ z_, M ((xe ((V.toNat)) i)) 0 = z_ := ⟨_, rfl⟩
      have b3 : 0 ≤ v3 ∧ v3 ≤ 1 := by rw [← e3]; exact (CI.r hC_M k2.2 (by decide) 0)
      refine jr.getf (i := 0) (x := v3) (v := .int (Int32.ofInt (v3))) rfl rfl (Nat.lt_trans (kx_1 k2.2).1 (by decide)) (kx_1 k2.2).2 (by decide) rfl rfl e3 rfl ?_
      refine jr.if_eq rfl rfl (by omega) (fun h61 => ?_) (fun h61 => ?_)
      · refine jr.iinc rfl rfl (by decide) rfl ?_
        refine jr.goto rfl rfl ?_
        refine jr.pick [1, 2, 3, 4, 0, 5] rfl rfl ?_
        exact ih (nM - 1) (by omega) M (i + 1) hC_M ht_M (by omega) (by omega) (by omega) (by omega) (by omega) g_V (by rw [hy0, ← hy1, pu_s (by omega), if_neg (by omega)]) hy1 (by omega) (by omega)
      · refine jr.aload_n rfl rfl ?_
        have k4 : kd (V).toNat = 13 := by rcases (show V = 16 ∨ V = 17 by omega) with h | h <;> (rw [h]; rfl)
        refine jr.getf (i := 0) (x := V) (v := .ref (V.toNat)) rfl rfl (by decide) rfl (by decide) rfl rfl g_V rfl ?_
        refine jr.iload rfl rfl ?_
        have k5 := kxe_13 k4 (i := i) (by omega) (by omega)
        refine jr.aald (c := (xe ((V.toNat)) i)) rfl (Nat.lt_trans (kx_13 k4).1 (by decide)) (kx_13 k4).2 (by decide) (by decide) rfl (by decide) (by omega) (by omega) k5.1 ?_
        obtain ⟨v6, e6⟩ : ∃ z_, M ((xe ((V.toNat)) i)) 13 = z_ := ⟨_, rfl⟩
        have b6 : (-2147483648) ≤ v6 ∧ v6 ≤ 2147483647 := by rw [← e6]; exact (CI.r hC_M k5.2 (by decide) 13)
        refine jr.getf (i := 13) (x := v6) (v := .int (Int32.ofInt (v6))) rfl rfl (Nat.lt_trans (kx_1 k5.2).1 (by decide)) (kx_1 k5.2).2 (by decide) rfl rfl e6 rfl ?_
        refine jr.iload_n rfl rfl ?_
        refine jr.icmp_ne rfl rfl (by omega) (by omega) (fun h75 => ?_) (fun h75 => ?_)
        · refine jr.iinc rfl rfl (by decide) rfl ?_
          refine jr.goto rfl rfl ?_
          refine jr.pick [1, 2, 3, 4, 0, 5] rfl rfl ?_
          exact ih (nM - 1) (by omega) M (i + 1) hC_M ht_M (by omega) (by omega) (by omega) (by omega) (by omega) g_V (by rw [hy0, ← hy1, pu_s (by omega), if_neg (by omega)]) hy1 (by omega) (by omega)
        · refine jr.bipush rfl (by decide) ?_
          exact jr.ireturn rfl rfl rfl (q _ _ hC_M ht_M (by omega) (Or.inr (Or.inl ⟨by omega, by rw [hy0, ← hy1, pu_s (by omega), if_pos (by omega)], by omega, hy1⟩)))
theorem c_Flows_layPool_x {A : Nat → Option (Nat × (Nat → Int32))} {Q : Option Value → jm → Prop} {T : jm} {M : jm} (hC_M : CI M) (ht_M : FR W_c_Flows_layPool_x T M) {x : Int} (h_x : (-2147483648) ≤ x ∧ x ≤ 2147483647) {y : Int} (h_y : (-9223372036854775808) ≤ y ∧ y ≤ 9223372036854775807) {z : Int} (h_z : (-2147483648) ≤ z ∧ z ≤ 2147483647) {u : Int} (h_u : (-2147483648) ≤ u ∧ u ≤ 2147483647) {V : Int} (g_V : M 15 0 = V) (p0 : T = M) (q : ∀ (r : Int) (M' : jm), CI M' → FR W_c_Flows_layPool_x T M' → (-2147483648) ≤ r ∧ r ≤ 2147483647 → ((¬ ((0 ≤ x ∧ x ≤ 3) ∧ (1 ≤ u ∧ u ≤ 32) ∧ (1 ≤ z ∧ z + u ≤ 65536)) ∧ r = -3 ∧ M' = T) ∨ (((0 ≤ x ∧ x ≤ 3) ∧ (1 ≤ u ∧ u ≤ 32) ∧ (1 ≤ z ∧ z + u ≤ 65536)) ∧ pu T V.toNat x 24 0 = 1 ∧ r = -4 ∧ M' = T) ∨ (((0 ≤ x ∧ x ≤ 3) ∧ (1 ≤ u ∧ u ≤ 32) ∧ (1 ≤ z ∧ z + u ≤ 65536)) ∧ pu T V.toNat x 24 0 ≠ 1 ∧ r = u ∧ M' = ju (ju (ju T 26 x y) 27 x z) 28 x u)) → Q (some (.int (Int32.ofInt r))) M') : jc A 1 80 [.ref (15), .int (Int32.ofInt (x)), .long (Int64.ofInt (y)), .int (Int32.ofInt (z)), .int (Int32.ofInt (u))] M Q := by
  refine jc_of (m := xm_80) rfl (Nat.le_of_ble_eq_true rfl) rfl ?_
  have b_V : 16 ≤ V ∧ V ≤ 17 := by rw [← g_V]; exact (CI.r hC_M (show kd 15 = 9 from rfl) (by decide) 0)
  refine jr.iload_n rfl rfl ?_
  refine jr.if_lt rfl rfl (by omega) (fun h1 => ?_) (fun h1 => ?_)
  · refine jr.bipush rfl (by decide) ?_
    exact jr.ireturn rfl rfl rfl (q _ _ hC_M ht_M (by omega) (Or.inl ⟨by omega, by omega, p0.symm⟩))
  · refine jr.iload_n rfl rfl ?_
    refine jr.iconst rfl ?_
    refine jr.icmp_ge rfl rfl (by omega) (by omega) (fun h6 => ?_) (fun h6 => ?_)
    · refine jr.bipush rfl (by decide) ?_
      exact jr.ireturn rfl rfl rfl (q _ _ hC_M ht_M (by omega) (Or.inl ⟨by omega, by omega, p0.symm⟩))
    · refine jr.iload rfl rfl ?_
      refine jr.iconst rfl ?_
      refine jr.icmp_lt rfl rfl (by omega) (by omega) (fun h12 => ?_) (fun h12 => ?_)
      · refine jr.bipush rfl (by decide) ?_
        exact jr.ireturn rfl rfl rfl (q _ _ hC_M ht_M (by omega) (Or.inl ⟨by omega, by omega, p0.symm⟩))
      · refine jr.iload rfl rfl ?_
        refine jr.bipush rfl (by decide) ?_
        refine jr.icmp_gt rfl rfl (by omega) (by omega) (fun h19 => ?_) (fun h19 => ?_)
        · refine jr.bipush rfl (by decide) ?_
          exact jr.ireturn rfl rfl rfl (q _ _ hC_M ht_M (by omega) (Or.inl ⟨by omega, by omega, p0.symm⟩))
        · refine jr.iload rfl rfl ?_
          refine jr.iconst rfl ?_
          refine jr.icmp_lt rfl rfl (by omega) (by omega) (fun h25 => ?_) (fun h25 => ?_)
          · refine jr.bipush rfl (by decide) ?_
            exact jr.ireturn rfl rfl rfl (q _ _ hC_M ht_M (by omega) (Or.inl ⟨by omega, by omega, p0.symm⟩))
          · refine jr.iload rfl rfl ?_
            refine jr.ldc (x := 65536) rfl rfl (by decide) ?_
            refine jr.iload rfl rfl ?_
            refine jr.isub rfl ?_
            refine jr.icmp_le rfl rfl (by omega) (by omega) (fun h35 => ?_) (fun h35 => ?_)
            · refine jr.iconst rfl ?_
              refine jr.istore rfl (by decide) rfl ?_
              refine jr.pick [2, 3, 4, 5, 0, 1] rfl rfl ?_
              exact c_Flows_layPool_x_L44  q 24 M 0 hC_M ht_M (by omega) (by omega) (by omega) (by omega) (by omega) g_V rfl p0.symm (by omega) (by omega)
            · refine jr.bipush rfl (by decide) ?_
              exact jr.ireturn rfl rfl rfl (q _ _ hC_M ht_M (by omega) (Or.inl ⟨by omega, by omega, p0.symm⟩))
theorem jl_and_32 (x : Int) : jl_and x 4294967295 = x % 4294967296 := by
  unfold jl_and
  have hN : (Int64.ofInt x &&& Int64.ofInt 4294967295).toBitVec.toNat = (x % 18446744073709551616).toNat % 2 ^ 32 := by
    rw [Int64.toBitVec_and, BitVec.toNat_and, jbl_tn, jbl_tn]
    exact Nat.and_two_pow_sub_one_eq_mod _ 32
  rw [jbl_ti, hN]
  split <;> omega
/-- the first port of a pool that is free, from i on -/
def chf (M : jm) (V : Nat) (a p : Int) : Nat → Int → Int
  | 0, _ => -1
  | n + 1, i => if tk M V a (p + i) 24 0 = 0 then i else chf M V a p n (i + 1)
theorem chf_s {M : jm} {V : Nat} {a p L i : Int} (h : i < L) : chf M V a p (L - i).toNat i = if tk M V a (p + i) 24 0 = 0 then i else chf M V a p (L - (i + 1)).toNat (i + 1) := by
  obtain ⟨n, hn⟩ : ∃ n : Nat, L = i + 1 + n := ⟨(L - i - 1).toNat, by omega⟩
  subst hn
  rw [show (i + 1 + (n : Int) - i).toNat = n + 1 by omega, show (i + 1 + (n : Int) - (i + 1)).toNat = n by omega]
  rfl
theorem chf_e {M : jm} {V : Nat} {a p L i : Int} (h : L ≤ i) : chf M V a p (L - i).toNat i = -1 := by
  rw [show (L - i).toNat = 0 by omega]
  rfl
def W_c_PacketWall_pool_x : List (Nat × Nat) := [(10, 1000), (11, 1000), (12, 1000)]
theorem c_PacketWall_pool_x {A : Nat → Option (Nat × (Nat → Int32))} {Q : Option Value → jm → Prop} {T : jm} {M : jm} (hC_M : CI M) (ht_M : FR W_c_PacketWall_pool_x T M) {x : Int} (h_x : (-2147483648) ≤ x ∧ x ≤ 2147483647) {y : Int} (h_y : (-2147483648) ≤ y ∧ y ≤ 2147483647) {z : Int} (h_z : (-2147483648) ≤ z ∧ z ≤ 2147483647) {u : Int} (h_u : (-2147483648) ≤ u ∧ u ≤ 2147483647) {V : Int} (g_V : M 15 0 = V) (p0 : T = M) (q : ∀ (r : Int) (M' : jm), CI M' → FR W_c_PacketWall_pool_x T M' → (-2147483648) ≤ r ∧ r ≤ 2147483647 → ((¬ ((0 ≤ x ∧ x ≤ 3) ∧ (1 ≤ u ∧ u ≤ 32) ∧ (1 ≤ z ∧ z + u ≤ 65536)) ∧ r = -3 ∧ M' = T) ∨ (((0 ≤ x ∧ x ≤ 3) ∧ (1 ≤ u ∧ u ≤ 32) ∧ (1 ≤ z ∧ z + u ≤ 65536)) ∧ pu T V.toNat x 24 0 = 1 ∧ r = -4 ∧ M' = T) ∨ (((0 ≤ x ∧ x ≤ 3) ∧ (1 ≤ u ∧ u ≤ 32) ∧ (1 ≤ z ∧ z + u ≤ 65536)) ∧ pu T V.toNat x 24 0 ≠ 1 ∧ r = u ∧ M' = ju (ju (ju T 26 x (y % 4294967296)) 27 x z) 28 x u)) → Q (some (.int (Int32.ofInt r))) M') : jc A 2 23 [.ref (0), .int (Int32.ofInt (x)), .int (Int32.ofInt (y)), .int (Int32.ofInt (z)), .int (Int32.ofInt (u))] M Q := by
  refine jc_of (m := xm_23) rfl (Nat.le_of_ble_eq_true rfl) rfl ?_
  have b_V : 16 ≤ V ∧ V ≤ 17 := by rw [← g_V]; exact (CI.r hC_M (show kd 15 = 9 from rfl) (by decide) 0)
  refine jr.aload_n rfl rfl ?_
  refine jr.getf (i := 9) (v := .ref 15) rfl rfl (by decide) rfl (by decide) rfl rfl rfl rfl ?_
  refine jr.iload_n rfl rfl ?_
  refine jr.iload_n rfl rfl ?_
  refine jr.i2l rfl (by omega) ?_
  refine jr.ldc2 (x := 4294967295) rfl rfl (by decide) ?_
  refine jr.land rfl ?_
  have b1 : jl_and y 4294967295 = y % 4294967296 ∧ 0 ≤ jl_and y 4294967295 ∧ jl_and y 4294967295 ≤ 4294967295 := ⟨jl_and_32 _, by rw [jl_and_32]; omega⟩
  generalize jl_and y 4294967295 = v1 at b1 ⊢
  refine jr.iload_n rfl rfl ?_
  refine jr.iload rfl rfl ?_
  refine jr_v rfl rfl (Or.inl rfl) rfl rfl (by decide) rfl ⟨rfl, Nat.le_of_ble_eq_true rfl, Nat.le_of_ble_eq_true rfl⟩ rfl (jc.deep (c_Flows_layPool_x hC_M (FR.rfl _ M) (by omega) (by omega) (by omega) (by omega) g_V rfl (fun r2 M2 hC_M2 hf_M2 z2 w2_0 => ?_)) (by decide))
  have ht_M2 : FR W_c_PacketWall_pool_x T M2 := FR.t ht_M hf_M2 (kw_sub rfl)
  exact jr.ireturn rfl rfl rfl (q _ _ hC_M2 ht_M2 (by omega) (by have h9 := w2_0; rw [p0]; first | (rw [b1.1] at h9; exact h9) | exact h9))
theorem c_Flows_isPortTaken_x_L3 {A : Nat → Option (Nat × (Nat → Int32))} {Q : Option Value → jm → Prop} {M : jm} (hC_M : CI M) {V : Int} {x : Int} {y : Int} (q : ∀ (r : Int), 0 ≤ r ∧ r ≤ 1 → (r = tk M V.toNat x y 24 0) → Q (some (.int (Int32.ofInt r))) M) : ∀ (nM : Nat) (i : Int), (-9223372036854775808) ≤ x ∧ x ≤ 9223372036854775807 → (-2147483648) ≤ y ∧ y ≤ 2147483647 → 0 ≤ i ∧ i ≤ 24 → M 15 0 = V → (tk M V.toNat x y 24 0 = tk M V.toNat x y (24 - i).toNat i) → 24 - i ≤ nM → jr A 0 xm_86 3 [(1, .long (Int64.ofInt (x))), (3, .int (Int32.ofInt (y))), (4, .int (Int32.ofInt (i))), (0, .ref (15))] [] M Q := by
  intro nM
  induction nM using Nat.strongRecOn with
  | ind nM ih =>
    intro i h_x h_y h_i g_V hy0 hm
    have b_V : 16 ≤ V ∧ V ≤ 17 := by rw [← g_V]; exact (CI.r hC_M (show kd 15 = 9 from rfl) (by decide) 0)
    refine jr.iload rfl rfl ?_
    refine jr.bipush rfl (by decide) ?_
    refine jr.icmp_ge rfl rfl (by omega) (by omega) (fun h7 => ?_) (fun h7 => ?_)
    · refine jr.iconst rfl ?_
      exact jr.ireturn rfl rfl rfl (q _ (by omega) (by rw [hy0, show (24 - i).toNat = 0 from by omega]; rfl))
    · refine jr.aload_n rfl rfl ?_
      have k1 : kd (V).toNat = 13 := by rcases (show V = 16 ∨ V = 17 by omega) with h | h <;> (rw [h]; rfl)
      refine jr.getf (i := 0) (x := V) (v := .ref (V.toNat)) rfl rfl (by decide) rfl (by decide) rfl rfl g_V rfl ?_
      refine jr.iload rfl rfl ?_
      have k2 := kxe_13 k1 (i := i) (by omega) (by omega)
      refine jr.aald (c := (xe ((V.toNat)) i)) rfl (Nat.lt_trans (kx_13 k1).1 (by decide)) (kx_13 k1).2 (by decide) (by decide) rfl (by decide) (by omega) (by omega) k2.1 ?_
      refine jr.astore rfl (by decide) rfl ?_
      refine jr.aload rfl rfl ?_
      obtain ⟨v3, e3⟩ : ∃ z_, M ((xe ((V.toNat)) i)) 0 = z_ := ⟨_, rfl⟩
      have b3 : 0 ≤ v3 ∧ v3 ≤ 1 := by rw [← e3]; exact (CI.r hC_M k2.2 (by decide) 0)
      refine jr.getf (i := 0) (x := v3) (v := .int (Int32.ofInt (v3))) rfl rfl (Nat.lt_trans (kx_1 k2.2).1 (by decide)) (kx_1 k2.2).2 (by decide) rfl rfl e3 rfl ?_
      refine jr.if_eq rfl rfl (by omega) (fun h24 => ?_) (fun h24 => ?_)
      · refine jr.iinc rfl rfl (by decide) rfl ?_
        refine jr.goto rfl rfl ?_
        refine jr.pick [2, 3, 0, 4] rfl rfl ?_
        exact ih (nM - 1) (by omega) (i + 1) (by omega) (by omega) (by omega) g_V (by rw [hy0, tk_s (by omega), if_neg (by omega)]) (by omega)
      · refine jr.aload rfl rfl ?_
        obtain ⟨v4, e4⟩ : ∃ z_, M ((xe ((V.toNat)) i)) 13 = z_ := ⟨_, rfl⟩
        have b4 : (-2147483648) ≤ v4 ∧ v4 ≤ 2147483647 := by rw [← e4]; exact (CI.r hC_M k2.2 (by decide) 13)
        refine jr.getf (i := 13) (x := v4) (v := .int (Int32.ofInt (v4))) rfl rfl (Nat.lt_trans (kx_1 k2.2).1 (by decide)) (kx_1 k2.2).2 (by decide) rfl rfl e4 rfl ?_
        refine jr.iconst rfl ?_
        refine jr.icmp_eq rfl rfl (by omega) (by omega) (fun h33 => ?_) (fun h33 => ?_)
        · refine jr.iinc rfl rfl (by decide) rfl ?_
          refine jr.goto rfl rfl ?_
          refine jr.pick [2, 3, 0, 4] rfl rfl ?_
          exact ih (nM - 1) (by omega) (i + 1) (by omega) (by omega) (by omega) g_V (by rw [hy0, tk_s (by omega), if_neg (by omega)]) (by omega)
        · refine jr.aload rfl rfl ?_
          obtain ⟨v5, e5⟩ : ∃ z_, M ((xe ((V.toNat)) i)) 14 = z_ := ⟨_, rfl⟩
          have b5 : (-9223372036854775808) ≤ v5 ∧ v5 ≤ 9223372036854775807 := by rw [← e5]; exact (CI.r hC_M k2.2 (by decide) 14)
          refine jr.getf (i := 14) (x := v5) (v := .long (Int64.ofInt (v5))) rfl rfl (Nat.lt_trans (kx_1 k2.2).1 (by decide)) (kx_1 k2.2).2 (by decide) rfl rfl e5 rfl ?_
          refine jr.lload_n rfl rfl ?_
          refine jr.lcmp_ne rfl rfl rfl (by omega) (by omega) (fun h42 => ?_) (fun h42 => ?_)
          · refine jr.iinc rfl rfl (by decide) rfl ?_
            refine jr.goto rfl rfl ?_
            refine jr.pick [2, 3, 0, 4] rfl rfl ?_
            exact ih (nM - 1) (by omega) (i + 1) (by omega) (by omega) (by omega) g_V (by rw [hy0, tk_s (by omega), if_neg (by omega)]) (by omega)
          · refine jr.aload rfl rfl ?_
            obtain ⟨v6, e6⟩ : ∃ z_, M ((xe ((V.toNat)) i)) 15 = z_ := ⟨_, rfl⟩
            have b6 : (-2147483648) ≤ v6 ∧ v6 ≤ 2147483647 := by rw [← e6]; exact (CI.r hC_M k2.2 (by decide) 15)
            refine jr.getf (i := 15) (x := v6) (v := .int (Int32.ofInt (v6))) rfl rfl (Nat.lt_trans (kx_1 k2.2).1 (by decide)) (kx_1 k2.2).2 (by decide) rfl rfl e6 rfl ?_
            refine jr.iload_n rfl rfl ?_
            refine jr.icmp_ne rfl rfl (by omega) (by omega) (fun h52 => ?_) (fun h52 => ?_)
            · refine jr.iinc rfl rfl (by decide) rfl ?_
              refine jr.goto rfl rfl ?_
              refine jr.pick [2, 3, 0, 4] rfl rfl ?_
              exact ih (nM - 1) (by omega) (i + 1) (by omega) (by omega) (by omega) g_V (by rw [hy0, tk_s (by omega), if_neg (by omega)]) (by omega)
            · refine jr.iconst rfl ?_
              exact jr.ireturn rfl rfl rfl (q _ (by omega) (by rw [hy0, tk_s (by omega), if_pos (by omega)]))
theorem c_Flows_isPortTaken_x {A : Nat → Option (Nat × (Nat → Int32))} {Q : Option Value → jm → Prop} {M : jm} (hC_M : CI M) {x : Int} (h_x : (-9223372036854775808) ≤ x ∧ x ≤ 9223372036854775807) {y : Int} (h_y : (-2147483648) ≤ y ∧ y ≤ 2147483647) {V : Int} (g_V : M 15 0 = V) (q : ∀ (r : Int), 0 ≤ r ∧ r ≤ 1 → (r = tk M V.toNat x y 24 0) → Q (some (.int (Int32.ofInt r))) M) : jc A 1 86 [.ref (15), .long (Int64.ofInt (x)), .int (Int32.ofInt (y))] M Q := by
  refine jc_of (m := xm_86) rfl (Nat.le_of_ble_eq_true rfl) rfl ?_
  have b_V : 16 ≤ V ∧ V ≤ 17 := by rw [← g_V]; exact (CI.r hC_M (show kd 15 = 9 from rfl) (by decide) 0)
  refine jr.iconst rfl ?_
  refine jr.istore rfl (by decide) rfl ?_
  refine jr.pick [2, 3, 0, 1] rfl rfl ?_
  exact c_Flows_isPortTaken_x_L3 hC_M  q 24 0 (by omega) (by omega) (by omega) g_V rfl (by omega)
def W_c_Flows_changeBy_x : List (Nat × Nat) := [(1, 13), (1, 14), (1, 15)]
theorem c_Flows_changeBy_x_L49 {A : Nat → Option (Nat × (Nat → Int32))} {Q : Option Value → jm → Prop} {T : jm} {x : Nat} (k_x : kd x = 1) {V : Int} {P : Int} {y : Int} (q : ∀ (r : Int) (M' : jm), CI M' → FR W_c_Flows_changeBy_x T M' → (-2147483648) ≤ r ∧ r ≤ 2147483647 → (((y < 0 ∨ 3 < y) ∧ r = -3 ∧ M' = T) ∨ ((0 ≤ y ∧ y ≤ 3) ∧ (T x 1 ≠ 0 ∨ T x 2 = 1 ∨ T x 13 ≠ -1 ∨ T 28 y = 0) ∧ r = -4 ∧ M' = T) ∨ (((0 ≤ y ∧ y ≤ 3) ∧ ¬ (T x 1 ≠ 0 ∨ T x 2 = 1 ∨ T x 13 ≠ -1 ∨ T 28 y = 0)) ∧ ((chf T V.toNat (T 26 y) (T 27 y) (T 28 y).toNat 0 = -1 ∧ r = -5 ∧ M' = T) ∨ (chf T V.toNat (T 26 y) (T 27 y) (T 28 y).toNat 0 ≠ -1 ∧ r = T 27 y + chf T V.toNat (T 26 y) (T 27 y) (T 28 y).toNat 0 ∧ M' = ju (ju (ju T x 13 y) x 14 (T 26 y)) x 15 (T 27 y + chf T V.toNat (T 26 y) (T 27 y) (T 28 y).toNat 0))))) → Q (some (.int (Int32.ofInt r))) M') : ∀ (nM : Nat) (M : jm) (i : Int), CI M → FR W_c_Flows_changeBy_x T M → 0 ≤ y ∧ y ≤ 3 → 0 ≤ i ∧ i ≤ 32 → M 15 0 = V → M 27 y = P → (chf T V.toNat (T 26 y) (T 27 y) (T 28 y).toNat 0 = chf T V.toNat (T 26 y) (T 27 y) (T 28 y - i).toNat i) → (M = T) → (0 ≤ P ∧ P ≤ 65535) → (¬ (T x 1 ≠ 0 ∨ T x 2 = 1 ∨ T x 13 ≠ -1 ∨ T 28 y = 0)) → 32 - i ≤ nM → jr A 1 xm_81 49 [(2, .int (Int32.ofInt (y))), (3, .int (Int32.ofInt (i))), (0, .ref (15)), (1, .ref (x))] [] M Q := by
  intro nM
  induction nM using Nat.strongRecOn with
  | ind nM ih =>
    intro M i hC_M ht_M h_y h_i g_V g_P hy0 hy1 hy2 hy3 hm
    have b_V : 16 ≤ V ∧ V ≤ 17 := by rw [← g_V]; exact (CI.r hC_M (show kd 15 = 9 from rfl) (by decide) 0)
    have b_P : (-2147483648) ≤ P ∧ P ≤ 2147483647 := by rw [← g_P]; exact (CI.r hC_M (show kd 27 = 11 from rfl) (by decide) y)
    refine jr.iload_n rfl rfl ?_
    refine jr.aload_n rfl rfl ?_
    refine jr.getf (i := 8) (v := .ref 28) rfl rfl (by decide) rfl (by decide) rfl rfl rfl rfl ?_
    refine jr.iload_n rfl rfl ?_
    obtain ⟨v1, e1⟩ : ∃ z_, M 28 y = z_ := ⟨_, rfl⟩
    have b1 : 0 ≤ v1 ∧ v1 ≤ 32 := by rw [← e1]; exact (CI.r hC_M (show kd 28 = 12 from rfl) (by decide) y)
    refine jr.iald (i := y) (x := v1) rfl (by decide) rfl (by decide) (by omega) (by omega) e1 ?_
    refine jr.icmp_ge rfl rfl (by omega) (by omega) (fun h56 => ?_) (fun h56 => ?_)
    · refine jr.bipush rfl (by decide) ?_
      exact jr.ireturn rfl rfl rfl (q _ _ hC_M ht_M (by omega) (by have q1 : T 28 y = v1 := (by rw [← hy1]; exact e1); have q2 : T 27 y = P := (by rw [← hy1]; exact g_P); exact Or.inr (Or.inr ⟨⟨by omega, hy3⟩, Or.inl ⟨by rw [hy0, chf_e (by omega)], by omega, hy1⟩⟩)))
    · refine jr.aload_n rfl rfl ?_
      refine jr.aload_n rfl rfl ?_
      refine jr.getf (i := 6) (v := .ref 26) rfl rfl (by decide) rfl (by decide) rfl rfl rfl rfl ?_
      refine jr.iload_n rfl rfl ?_
      obtain ⟨v2, e2⟩ : ∃ z_, M 26 y = z_ := ⟨_, rfl⟩
      have b2 : (-9223372036854775808) ≤ v2 ∧ v2 ≤ 9223372036854775807 := by rw [← e2]; exact (CI.r hC_M (show kd 26 = 10 from rfl) (by decide) y)
      refine jr.lald (i := y) (x := v2) rfl (by decide) rfl (by decide) (by omega) (by omega) e2 ?_
      refine jr.aload_n rfl rfl ?_
      refine jr.getf (i := 7) (v := .ref 27) rfl rfl (by decide) rfl (by decide) rfl rfl rfl rfl ?_
      refine jr.iload_n rfl rfl ?_
      refine jr.iald (i := y) (x := P) rfl (by decide) rfl (by decide) (by omega) (by omega) g_P ?_
      refine jr.iload_n rfl rfl ?_
      refine jr.iadd rfl ?_
      refine jr_v rfl rfl (Or.inl rfl) rfl rfl (by decide) rfl ⟨rfl, Nat.le_of_ble_eq_true rfl, Nat.le_of_ble_eq_true rfl⟩ rfl (jc.deep (c_Flows_isPortTaken_x hC_M (by omega) (by omega) g_V (fun r3 z3 w3_0 => ?_)) (by decide))
      refine jr.if_ne rfl rfl (by omega) (fun h77 => ?_) (fun h77 => ?_)
      · refine jr.iinc rfl rfl (by decide) rfl ?_
        refine jr.goto rfl rfl ?_
        refine jr.pick [1, 0, 2, 3] rfl rfl ?_
        exact ih (nM - 1) (by omega) M (i + 1) hC_M ht_M (by omega) (by omega) g_V g_P (by have q1 : T 28 y = v1 := (by rw [← hy1]; exact e1); have q2 : T 27 y = P := (by rw [← hy1]; exact g_P); have q3 : T 26 y = v2 := (by rw [← hy1]; exact e2); rw [hy0, q1, q2, q3, chf_s (by omega), if_neg (by rw [← hy1, ← w3_0]; omega)]) hy1 (by omega) hy3 (by omega)
      · refine jr.aload_n rfl rfl ?_
        refine jr.iload_n rfl rfl ?_
        refine jr.putf (i := 13) (x := y) rfl rfl (Nat.lt_trans (kx_1 k_x).1 (by decide)) (kx_1 k_x).2 (by decide) rfl rfl rfl rfl rfl ?_
        refine jr.aload_n rfl rfl ?_
        refine jr.aload_n rfl rfl ?_
        refine jr.getf (i := 6) (v := .ref 26) rfl rfl (by decide) rfl (by decide) rfl rfl rfl rfl ?_
        refine jr.iload_n rfl rfl ?_
        refine jr.lald (i := y) (x := v2) rfl (by decide) rfl (by decide) (by omega) (by omega) ((ju_c _ _ (kd_ne (by rw [(show kd 26 = 10 from rfl), k_x]; decide))).trans e2) ?_
        refine jr.putf (i := 14) (x := v2) rfl rfl (Nat.lt_trans (kx_1 k_x).1 (by decide)) (kx_1 k_x).2 (by decide) rfl rfl rfl rfl rfl ?_
        refine jr.aload_n rfl rfl ?_
        refine jr.aload_n rfl rfl ?_
        refine jr.getf (i := 7) (v := .ref 27) rfl rfl (by decide) rfl (by decide) rfl rfl rfl rfl ?_
        refine jr.iload_n rfl rfl ?_
        refine jr.iald (i := y) (x := P) rfl (by decide) rfl (by decide) (by omega) (by omega) ((ju_c _ _ (kd_ne (by rw [(show kd 27 = 11 from rfl), k_x]; decide))).trans ((ju_c _ _ (kd_ne (by rw [(show kd 27 = 11 from rfl), k_x]; decide))).trans g_P)) ?_
        refine jr.iload_n rfl rfl ?_
        refine jr.iadd rfl ?_
        refine jr.putf (i := 15) (x := (P + i)) rfl rfl (Nat.lt_trans (kx_1 k_x).1 (by decide)) (kx_1 k_x).2 (by decide) rfl rfl rfl rfl rfl ?_
        refine jr.aload_n rfl rfl ?_
        refine jr.getf (i := 15) (x := (P + i)) (v := .int (Int32.ofInt (P + i))) rfl rfl (Nat.lt_trans (kx_1 k_x).1 (by decide)) (kx_1 k_x).2 (by decide) rfl rfl (ju_same _ _ _ _) rfl ?_
        exact jr.ireturn rfl rfl rfl (q _ _ (CI.u (CI.u (CI.u hC_M (i := 13) k_x (show (-2147483648 : Int) ≤ _ ∧ _ ≤ (2147483647 : Int) from by omega) rfl) (i := 14) k_x (show (-9223372036854775808 : Int) ≤ _ ∧ _ ≤ (9223372036854775807 : Int) from by omega) rfl) (i := 15) k_x (show (-2147483648 : Int) ≤ _ ∧ _ ≤ (2147483647 : Int) from by omega) rfl) (FR.o (FR.o (FR.o ht_M k_x rfl) k_x rfl) k_x rfl) (by omega) (by have q1 : T 28 y = v1 := (by rw [← hy1]; exact e1); have q2 : T 27 y = P := (by rw [← hy1]; exact g_P); have q3 : T 26 y = v2 := (by rw [← hy1]; exact e2); have hq : chf T V.toNat (T 26 y) (T 27 y) (T 28 y).toNat 0 = i := (by rw [hy0, q1, q2, q3, chf_s (by omega), if_pos (by rw [← hy1, ← w3_0]; omega)]); exact Or.inr (Or.inr ⟨⟨by omega, hy3⟩, Or.inr ⟨by rw [hq]; omega, by rw [hq, q2], by rw [hq, q2, q3, hy1]⟩⟩)))
theorem c_Flows_changeBy_x {A : Nat → Option (Nat × (Nat → Int32))} {Q : Option Value → jm → Prop} {T : jm} {M : jm} (hC_M : CI M) (ht_M : FR W_c_Flows_changeBy_x T M) {x : Nat} (k_x : kd x = 1) {y : Int} (h_y : (-2147483648) ≤ y ∧ y ≤ 2147483647) {V : Int} (g_V : M 15 0 = V) {P : Int} (g_P : M 27 y = P) (p0 : T = M) (p1 : 0 ≤ P ∧ P ≤ 65535) (q : ∀ (r : Int) (M' : jm), CI M' → FR W_c_Flows_changeBy_x T M' → (-2147483648) ≤ r ∧ r ≤ 2147483647 → (((y < 0 ∨ 3 < y) ∧ r = -3 ∧ M' = T) ∨ ((0 ≤ y ∧ y ≤ 3) ∧ (T x 1 ≠ 0 ∨ T x 2 = 1 ∨ T x 13 ≠ -1 ∨ T 28 y = 0) ∧ r = -4 ∧ M' = T) ∨ (((0 ≤ y ∧ y ≤ 3) ∧ ¬ (T x 1 ≠ 0 ∨ T x 2 = 1 ∨ T x 13 ≠ -1 ∨ T 28 y = 0)) ∧ ((chf T V.toNat (T 26 y) (T 27 y) (T 28 y).toNat 0 = -1 ∧ r = -5 ∧ M' = T) ∨ (chf T V.toNat (T 26 y) (T 27 y) (T 28 y).toNat 0 ≠ -1 ∧ r = T 27 y + chf T V.toNat (T 26 y) (T 27 y) (T 28 y).toNat 0 ∧ M' = ju (ju (ju T x 13 y) x 14 (T 26 y)) x 15 (T 27 y + chf T V.toNat (T 26 y) (T 27 y) (T 28 y).toNat 0))))) → Q (some (.int (Int32.ofInt r))) M') : jc A 2 81 [.ref (15), .ref (x), .int (Int32.ofInt (y))] M Q := by
  refine jc_of (m := xm_81) rfl (Nat.le_of_ble_eq_true rfl) rfl ?_
  have b_V : 16 ≤ V ∧ V ≤ 17 := by rw [← g_V]; exact (CI.r hC_M (show kd 15 = 9 from rfl) (by decide) 0)
  have b_P : (-2147483648) ≤ P ∧ P ≤ 2147483647 := by rw [← g_P]; exact (CI.r hC_M (show kd 27 = 11 from rfl) (by decide) y)
  refine jr.iload_n rfl rfl ?_
  refine jr.if_lt rfl rfl (by omega) (fun h1 => ?_) (fun h1 => ?_)
  · refine jr.bipush rfl (by decide) ?_
    exact jr.ireturn rfl rfl rfl (q _ _ hC_M ht_M (by omega) (by rw [p0]; first | exact Or.inl ⟨by omega, by omega, rfl⟩ | exact Or.inr (Or.inl ⟨by omega, by omega, by omega, rfl⟩)))
  · refine jr.iload_n rfl rfl ?_
    refine jr.iconst rfl ?_
    refine jr.icmp_lt rfl rfl (by omega) (by omega) (fun h6 => ?_) (fun h6 => ?_)
    · refine jr.aload_n rfl rfl ?_
      obtain ⟨v1, e1⟩ : ∃ z_, M x 1 = z_ := ⟨_, rfl⟩
      have b1 : 0 ≤ v1 ∧ v1 ≤ 1 := by rw [← e1]; exact (CI.r hC_M k_x (by decide) 1)
      refine jr.getf (i := 1) (x := v1) (v := .int (Int32.ofInt (v1))) rfl rfl (Nat.lt_trans (kx_1 k_x).1 (by decide)) (kx_1 k_x).2 (by decide) rfl rfl e1 rfl ?_
      refine jr.if_ne rfl rfl (by omega) (fun h16 => ?_) (fun h16 => ?_)
      · refine jr.bipush rfl (by decide) ?_
        exact jr.ireturn rfl rfl rfl (q _ _ hC_M ht_M (by omega) (by rw [p0]; first | exact Or.inl ⟨by omega, by omega, rfl⟩ | exact Or.inr (Or.inl ⟨by omega, by omega, by omega, rfl⟩)))
      · refine jr.aload_n rfl rfl ?_
        obtain ⟨v2, e2⟩ : ∃ z_, M x 2 = z_ := ⟨_, rfl⟩
        have b2 : (-2147483648) ≤ v2 ∧ v2 ≤ 2147483647 := by rw [← e2]; exact (CI.r hC_M k_x (by decide) 2)
        refine jr.getf (i := 2) (x := v2) (v := .int (Int32.ofInt (v2))) rfl rfl (Nat.lt_trans (kx_1 k_x).1 (by decide)) (kx_1 k_x).2 (by decide) rfl rfl e2 rfl ?_
        refine jr.iconst rfl ?_
        refine jr.icmp_eq rfl rfl (by omega) (by omega) (fun h24 => ?_) (fun h24 => ?_)
        · refine jr.bipush rfl (by decide) ?_
          exact jr.ireturn rfl rfl rfl (q _ _ hC_M ht_M (by omega) (by rw [p0]; first | exact Or.inl ⟨by omega, by omega, rfl⟩ | exact Or.inr (Or.inl ⟨by omega, by omega, by omega, rfl⟩)))
        · refine jr.aload_n rfl rfl ?_
          obtain ⟨v3, e3⟩ : ∃ z_, M x 13 = z_ := ⟨_, rfl⟩
          have b3 : (-2147483648) ≤ v3 ∧ v3 ≤ 2147483647 := by rw [← e3]; exact (CI.r hC_M k_x (by decide) 13)
          refine jr.getf (i := 13) (x := v3) (v := .int (Int32.ofInt (v3))) rfl rfl (Nat.lt_trans (kx_1 k_x).1 (by decide)) (kx_1 k_x).2 (by decide) rfl rfl e3 rfl ?_
          refine jr.iconst rfl ?_
          refine jr.icmp_ne rfl rfl (by omega) (by omega) (fun h32 => ?_) (fun h32 => ?_)
          · refine jr.bipush rfl (by decide) ?_
            exact jr.ireturn rfl rfl rfl (q _ _ hC_M ht_M (by omega) (by rw [p0]; first | exact Or.inl ⟨by omega, by omega, rfl⟩ | exact Or.inr (Or.inl ⟨by omega, by omega, by omega, rfl⟩)))
          · refine jr.aload_n rfl rfl ?_
            refine jr.getf (i := 8) (v := .ref 28) rfl rfl (by decide) rfl (by decide) rfl rfl rfl rfl ?_
            refine jr.iload_n rfl rfl ?_
            obtain ⟨v4, e4⟩ : ∃ z_, M 28 y = z_ := ⟨_, rfl⟩
            have b4 : 0 ≤ v4 ∧ v4 ≤ 32 := by rw [← e4]; exact (CI.r hC_M (show kd 28 = 12 from rfl) (by decide) y)
            refine jr.iald (i := y) (x := v4) rfl (by decide) rfl (by decide) (by omega) (by omega) e4 ?_
            refine jr.if_ne rfl rfl (by omega) (fun h41 => ?_) (fun h41 => ?_)
            · refine jr.iconst rfl ?_
              refine jr.istore_n rfl (by decide) rfl ?_
              refine jr.pick [3, 0, 1, 2] rfl rfl ?_
              exact c_Flows_changeBy_x_L49 k_x q 32 M 0 hC_M ht_M (by omega) (by omega) g_V g_P (by rw [show T 28 y - 0 = T 28 y from by omega]) p0.symm (by omega) (by rw [p0]; omega) (by omega)
            · refine jr.bipush rfl (by decide) ?_
              exact jr.ireturn rfl rfl rfl (q _ _ hC_M ht_M (by omega) (by rw [p0]; first | exact Or.inl ⟨by omega, by omega, rfl⟩ | exact Or.inr (Or.inl ⟨by omega, by omega, by omega, rfl⟩)))
    · refine jr.bipush rfl (by decide) ?_
      exact jr.ireturn rfl rfl rfl (q _ _ hC_M ht_M (by omega) (by rw [p0]; first | exact Or.inl ⟨by omega, by omega, rfl⟩ | exact Or.inr (Or.inl ⟨by omega, by omega, by omega, rfl⟩)))
def W_c_PacketWall_change_x : List (Nat × Nat) := [(1, 13), (1, 14), (1, 15)]
theorem c_PacketWall_change_x {A : Nat → Option (Nat × (Nat → Int32))} {Q : Option Value → jm → Prop} {T : jm} {M : jm} (hC_M : CI M) (ht_M : FR W_c_PacketWall_change_x T M) {x : Int} (h_x : (-2147483648) ≤ x ∧ x ≤ 2147483647) {y : Int} (h_y : (-2147483648) ≤ y ∧ y ≤ 2147483647) {V : Int} (g_V : M 15 0 = V) {P : Int} (g_P : M 27 y = P) (p0 : T = M) (p1 : 0 ≤ P ∧ P ≤ 65535) (q : ∀ (r : Int) (M' : jm), CI M' → FR W_c_PacketWall_change_x T M' → (-2147483648) ≤ r ∧ r ≤ 2147483647 → (((x < 0 ∨ 23 < x ∨ T (xe (V.toNat) x) 0 = 0) ∧ r = -2 ∧ M' = T) ∨ (((0 ≤ x ∧ x ≤ 23) ∧ T (xe (V.toNat) x) 0 ≠ 0) ∧ (((y < 0 ∨ 3 < y) ∧ r = -3 ∧ M' = T) ∨ ((0 ≤ y ∧ y ≤ 3) ∧ (T (xe (V.toNat) x) 1 ≠ 0 ∨ T (xe (V.toNat) x) 2 = 1 ∨ T (xe (V.toNat) x) 13 ≠ -1 ∨ T 28 y = 0) ∧ r = -4 ∧ M' = T) ∨ (((0 ≤ y ∧ y ≤ 3) ∧ ¬ (T (xe (V.toNat) x) 1 ≠ 0 ∨ T (xe (V.toNat) x) 2 = 1 ∨ T (xe (V.toNat) x) 13 ≠ -1 ∨ T 28 y = 0)) ∧ ((chf T V.toNat (T 26 y) (T 27 y) (T 28 y).toNat 0 = -1 ∧ r = -5 ∧ M' = T) ∨ (chf T V.toNat (T 26 y) (T 27 y) (T 28 y).toNat 0 ≠ -1 ∧ r = T 27 y + chf T V.toNat (T 26 y) (T 27 y) (T 28 y).toNat 0 ∧ M' = ju (ju (ju T (xe (V.toNat) x) 13 y) (xe (V.toNat) x) 14 (T 26 y)) (xe (V.toNat) x) 15 (T 27 y + chf T V.toNat (T 26 y) (T 27 y) (T 28 y).toNat 0))))))) → Q (some (.int (Int32.ofInt r))) M') : jc A 3 24 [.ref (0), .int (Int32.ofInt (x)), .int (Int32.ofInt (y))] M Q := by
  refine jc_of (m := xm_24) rfl (Nat.le_of_ble_eq_true rfl) rfl ?_
  have b_V : 16 ≤ V ∧ V ≤ 17 := by rw [← g_V]; exact (CI.r hC_M (show kd 15 = 9 from rfl) (by decide) 0)
  have b_P : (-2147483648) ≤ P ∧ P ≤ 2147483647 := by rw [← g_P]; exact (CI.r hC_M (show kd 27 = 11 from rfl) (by decide) y)
  refine jr.aload_n rfl rfl ?_
  refine jr.getf (i := 9) (v := .ref 15) rfl rfl (by decide) rfl (by decide) rfl rfl rfl rfl ?_
  refine jr.iload_n rfl rfl ?_
  refine jr_v rfl rfl (Or.inl rfl) rfl rfl (by decide) rfl ⟨rfl, Nat.le_of_ble_eq_true rfl, Nat.le_of_ble_eq_true rfl⟩ rfl (jc.deep (c_Flows_isLive_x hC_M (by omega) g_V (fun r1 z1 w1_0 w1_1 => ?_)) (by decide))
  refine jr.if_ne rfl rfl (by omega) (fun h8 => ?_) (fun h8 => ?_)
  · refine jr.aload_n rfl rfl ?_
    refine jr.getf (i := 9) (v := .ref 15) rfl rfl (by decide) rfl (by decide) rfl rfl rfl rfl ?_
    refine jr.aload_n rfl rfl ?_
    refine jr.getf (i := 9) (v := .ref 15) rfl rfl (by decide) rfl (by decide) rfl rfl rfl rfl ?_
    have k2 : kd (V).toNat = 13 := by rcases (show V = 16 ∨ V = 17 by omega) with h | h <;> (rw [h]; rfl)
    refine jr.getf (i := 0) (x := V) (v := .ref (V.toNat)) rfl rfl (by decide) rfl (by decide) rfl rfl g_V rfl ?_
    refine jr.iload_n rfl rfl ?_
    have k3 := kxe_13 k2 (i := x) (by omega) (by omega)
    refine jr.aald (c := (xe ((V.toNat)) x)) rfl (Nat.lt_trans (kx_13 k2).1 (by decide)) (kx_13 k2).2 (by decide) (by decide) rfl (by decide) (by omega) (by omega) k3.1 ?_
    refine jr.iload_n rfl rfl ?_
    refine jr_v rfl rfl (Or.inl rfl) rfl rfl (by decide) rfl ⟨rfl, Nat.le_of_ble_eq_true rfl, Nat.le_of_ble_eq_true rfl⟩ rfl (jc.deep (c_Flows_changeBy_x hC_M (FR.rfl _ M) k3.2 (by omega) g_V g_P rfl (by omega) (fun r4 M4 hC_M4 hf_M4 z4 w4_0 => ?_)) (by decide))
    have ht_M4 : FR W_c_PacketWall_change_x T M4 := FR.t ht_M hf_M4 (kw_sub rfl)
    exact jr.ireturn rfl rfl rfl (q _ _ hC_M4 ht_M4 (by omega) (Or.inr ⟨by rw [p0]; omega, by rw [p0]; exact w4_0⟩))
  · refine jr.bipush rfl (by decide) ?_
    exact jr.ireturn rfl rfl rfl (q _ _ hC_M ht_M (by omega) (Or.inl ⟨by rw [p0]; omega, by omega, p0.symm⟩))
