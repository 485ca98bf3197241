section
/-! ===== the class: flows: figures, pools, change ===== -/
noncomputable def fgF (M : jm) (t : Nat) (x y : Int) : Int := if x = 0 then M t 2 else if x = 1 then M t 5 else if x = 2 then M (t + 2) 0 else if x = 3 then M (t + 2) 1 else if x = 4 then j_w (M t 6 - y) else if x = 5 then M (t + 3) 0 else if x = 6 then M (t + 3) 1 else if x = 7 then M (t + 5) 0 else if x = 8 then M (t + 5) 1 else if x = 9 then M t 15 else if x = 10 then (if M t 1 = 0 then 0 else 1) else -3
noncomputable def fgL (M : jm) (t : Nat) (x : Int) : Int := if x = 0 then M (t + 1) 0 else if x = 1 then M (t + 1) 1 else if x = 2 then M (t + 6) 0 else if x = 3 then M (t + 6) 1 else if x = 4 then M (t + 7) 0 else if x = 5 then M (t + 7) 1 else -1
theorem c_Flows_isLive_x {A : Nat → Option (Nat × (Nat → Int32))} {Q : Option Value → jm → Prop} {M : jm} (hC_M : CI M) {x : Int} (h_x : (-2147483648) ≤ x ∧ x ≤ 2147483647) {V : Int} (g_V : M 15 0 = V) (q : ∀ (r : Int), 0 ≤ r ∧ r ≤ 1 → (r = 0 ∨ (0 ≤ x ∧ x ≤ 23)) → ((r = 1 ∧ (0 ≤ x ∧ x ≤ 23) ∧ M (xe (V.toNat) x) 0 ≠ 0) ∨ (r = 0 ∧ (x < 0 ∨ 23 < x ∨ M (xe (V.toNat) x) 0 = 0))) → Q (some (.int (Int32.ofInt r))) M) : jc A 1 74 [.ref (15), .int (Int32.ofInt (x))] M Q := by
  refine jc_of (m := xm_74) rfl (Nat.le_of_ble_eq_true rfl) rfl ?_
  have b_V : 16 ≤ V ∧ V ≤ 17 := by rw [← g_V]; exact (CI.r hC_M (show kd 15 = 9 from rfl) (by decide) 0)
  refine jr.iload_n rfl rfl ?_
  refine jr.if_lt rfl rfl (by first | (refine rgb (by assumption) ?_; exact rfl) | omega) (fun h1 => ?_) (fun h1 => ?_)
  · refine jr.iconst rfl ?_
    exact jr.ireturn rfl rfl rfl (q _ (by first | exact rgq rfl | omega) (by omega) (by omega))
  · refine jr.iload_n rfl rfl ?_
    refine jr.bipush rfl (jbp _ (nlt rfl)) ?_
    refine jr.icmp_ge rfl rfl (by first | (refine rgb (by assumption) ?_; exact rfl) | omega) (rgl rfl) (fun h7 => ?_) (fun h7 => ?_)
    · refine jr.iconst rfl ?_
      exact jr.ireturn rfl rfl rfl (q _ (by first | exact rgq rfl | omega) (by omega) (by omega))
    · refine jr.aload_n rfl rfl ?_
      have k1 : kd (V).toNat = 13 := by rcases (show V = 16 ∨ V = 17 by omega) with h | h <;> (rw [h]; rfl)
      refine jr.getf (i := 0) (x := V) (v := .ref (V.toNat)) rfl rfl (nlt rfl) rfl (nlt rfl) rfl rfl g_V rfl ?_
      refine jr.iload_n rfl rfl ?_
      have k2 := kxe_13 k1 (i := x) (by omega) (by omega)
      refine jr.aald (c := (xe ((V.toNat)) x)) rfl (Nat.lt_trans (kx_13 k1).1 (by decide)) (kx_13 k1).2 (by decide) (by decide) rfl (by decide) (by omega) (by omega) k2.1 ?_
      obtain ⟨v3, e3⟩ : ∃ z_, M ((xe ((V.toNat)) x)) 0 = z_ := ⟨_, rfl⟩
      have b3 : 0 ≤ v3 ∧ v3 ≤ 1 := by rw [← e3]; exact (CI.r hC_M k2.2 (by decide) 0)
      refine jr.getf (i := 0) (x := v3) (v := .int (Int32.ofInt (v3))) rfl rfl (Nat.lt_trans (kx_1 k2.2).1 (by decide)) (kx_1 k2.2).2 (by decide) rfl rfl e3 rfl ?_
      refine jr.if_eq rfl rfl (by first | (refine rgb (by assumption) ?_; exact rfl) | omega) (fun h19 => ?_) (fun h19 => ?_)
      · refine jr.iconst rfl ?_
        exact jr.ireturn rfl rfl rfl (q _ (by first | exact rgq rfl | omega) (by omega) (by omega))
      · have sx19 : (1 : Int) ≤ v3 := by omega
        clear h19
        refine jr.iconst rfl ?_
        refine jr.goto rfl rfl ?_
        exact jr.ireturn rfl rfl rfl (q _ (by first | exact rgq rfl | omega) (by omega) (by omega))
theorem c_Flow_figure_x {A : Nat → Option (Nat × (Nat → Int32))} {Q : Option Value → jm → Prop} {M : jm} (hC_M : CI M) {t : Nat} (k_t : kd t = 1) {x : Int} (h_x : (-2147483648) ≤ x ∧ x ≤ 2147483647) {y : Int} (h_y : (-2147483648) ≤ y ∧ y ≤ 2147483647) (q : ∀ (r : Int), (-2147483648) ≤ r ∧ r ≤ 2147483647 → (r = fgF M t x y) → Q (some (.int (Int32.ofInt r))) M) : jc A 1 62 [.ref (t), .int (Int32.ofInt (x)), .int (Int32.ofInt (y))] M Q := by
  refine jc_of (m := xm_62) rfl (Nat.le_of_ble_eq_true rfl) rfl ?_
  refine jr.iload_n rfl rfl ?_
  rcases (show x = 0 ∨ x = 1 ∨ x = 2 ∨ x = 3 ∨ x = 4 ∨ x = 5 ∨ x = 6 ∨ x = 7 ∨ x = 8 ∨ x = 9 ∨ x = 10 ∨ (x ≠ 0 ∧ x ≠ 1 ∧ x ≠ 2 ∧ x ≠ 3 ∧ x ≠ 4 ∧ x ≠ 5 ∧ x ≠ 6 ∧ x ≠ 7 ∧ x ≠ 8 ∧ x ≠ 9 ∧ x ≠ 10) by omega) with h1 | h1 | h1 | h1 | h1 | h1 | h1 | h1 | h1 | h1 | h1 | h1
  · refine jr.tsw_k 0 rfl h1 rfl ?_
    refine jr.aload_n rfl rfl ?_
    obtain ⟨v1, e1⟩ : ∃ z_, M t 2 = z_ := ⟨_, rfl⟩
    have b1 : (-2147483648) ≤ v1 ∧ v1 ≤ 2147483647 := by rw [← e1]; exact (CI.r hC_M k_t (by decide) 2)
    refine jr.getf (i := 2) (x := v1) (v := .int (Int32.ofInt (v1))) rfl rfl (Nat.lt_trans (kx_1 k_t).1 (by decide)) (kx_1 k_t).2 (by decide) rfl rfl e1 rfl ?_
    exact jr.ireturn rfl rfl rfl (q _ (by omega) (by unfold fgF; rw [if_pos (by omega)]; omega))
  · refine jr.tsw_k 1 rfl h1 rfl ?_
    refine jr.aload_n rfl rfl ?_
    obtain ⟨v2, e2⟩ : ∃ z_, M t 5 = z_ := ⟨_, rfl⟩
    have b2 : (-2147483648) ≤ v2 ∧ v2 ≤ 2147483647 := by rw [← e2]; exact (CI.r hC_M k_t (by decide) 5)
    refine jr.getf (i := 5) (x := v2) (v := .int (Int32.ofInt (v2))) rfl rfl (Nat.lt_trans (kx_1 k_t).1 (by decide)) (kx_1 k_t).2 (by decide) rfl rfl e2 rfl ?_
    exact jr.ireturn rfl rfl rfl (q _ (by omega) (by unfold fgF; rw [if_neg (by omega), if_pos (by omega)]; omega))
  · refine jr.tsw_k 2 rfl h1 rfl ?_
    refine jr.aload_n rfl rfl ?_
    have k3 := kf_1_4 k_t
    refine jr.getf (i := 4) (v := .ref (t + 2)) rfl rfl (Nat.lt_trans (kx_1 k_t).1 (by decide)) (kx_1 k_t).2 (by decide) rfl rfl rfl (jval_ref rfl k3.1) ?_
    refine jr.iconst rfl ?_
    obtain ⟨v4, e4⟩ : ∃ z_, M ((t + 2)) 0 = z_ := ⟨_, rfl⟩
    have b4 : (-2147483648) ≤ v4 ∧ v4 ≤ 2147483647 := by rw [← e4]; exact (CI.r hC_M k3.2 (by decide) 0)
    refine jr.iald (i := 0) (x := v4) rfl (Nat.lt_trans (kx_7 k3.2).1 (by decide)) (kx_7 k3.2).2 (by decide) (by omega) (by omega) e4 ?_
    exact jr.ireturn rfl rfl rfl (q _ (by omega) (by unfold fgF; rw [if_neg (by omega), if_neg (by omega), if_pos (by omega)]; omega))
  · refine jr.tsw_k 3 rfl h1 rfl ?_
    refine jr.aload_n rfl rfl ?_
    have k5 := kf_1_4 k_t
    refine jr.getf (i := 4) (v := .ref (t + 2)) rfl rfl (Nat.lt_trans (kx_1 k_t).1 (by decide)) (kx_1 k_t).2 (by decide) rfl rfl rfl (jval_ref rfl k5.1) ?_
    refine jr.iconst rfl ?_
    obtain ⟨v6, e6⟩ : ∃ z_, M ((t + 2)) 1 = z_ := ⟨_, rfl⟩
    have b6 : (-2147483648) ≤ v6 ∧ v6 ≤ 2147483647 := by rw [← e6]; exact (CI.r hC_M k5.2 (by decide) 1)
    refine jr.iald (i := 1) (x := v6) rfl (Nat.lt_trans (kx_7 k5.2).1 (by decide)) (kx_7 k5.2).2 (by decide) (by omega) (by omega) e6 ?_
    exact jr.ireturn rfl rfl rfl (q _ (by omega) (by unfold fgF; rw [if_neg (by omega), if_neg (by omega), if_neg (by omega), if_pos (by omega)]; omega))
  · refine jr.tsw_k 4 rfl h1 rfl ?_
    refine jr.aload_n rfl rfl ?_
    obtain ⟨v7, e7⟩ : ∃ z_, M t 6 = z_ := ⟨_, rfl⟩
    have b7 : (-2147483648) ≤ v7 ∧ v7 ≤ 2147483647 := by rw [← e7]; exact (CI.r hC_M k_t (by decide) 6)
    refine jr.getf (i := 6) (x := v7) (v := .int (Int32.ofInt (v7))) rfl rfl (Nat.lt_trans (kx_1 k_t).1 (by decide)) (kx_1 k_t).2 (by decide) rfl rfl e7 rfl ?_
    refine jr.iload_n rfl rfl ?_
    refine jr.isub rfl ?_
    refine jr.iw (j_w (v7 - y)) (j_w_eq _) ?_
    have b8 : -2147483648 ≤ j_w (v7 - y) ∧ j_w (v7 - y) ≤ 2147483647 := jb_any _
    exact jr.ireturn rfl rfl rfl (q _ (by omega) (by unfold fgF; rw [if_neg (by omega), if_neg (by omega), if_neg (by omega), if_neg (by omega), if_pos (by omega)]; rw [e7]))
  · refine jr.tsw_k 5 rfl h1 rfl ?_
    refine jr.aload_n rfl rfl ?_
    have k9 := kf_1_7 k_t
    refine jr.getf (i := 7) (v := .ref (t + 3)) rfl rfl (Nat.lt_trans (kx_1 k_t).1 (by decide)) (kx_1 k_t).2 (by decide) rfl rfl rfl (jval_ref rfl k9.1) ?_
    refine jr.iconst rfl ?_
    obtain ⟨v10, e10⟩ : ∃ z_, M ((t + 3)) 0 = z_ := ⟨_, rfl⟩
    have b10 : (-2147483648) ≤ v10 ∧ v10 ≤ 2147483647 := by rw [← e10]; exact (CI.r hC_M k9.2 (by decide) 0)
    refine jr.iald (i := 0) (x := v10) rfl (Nat.lt_trans (kx_5 k9.2).1 (by decide)) (kx_5 k9.2).2 (by decide) (by omega) (by omega) e10 ?_
    exact jr.ireturn rfl rfl rfl (q _ (by omega) (by unfold fgF; rw [if_neg (by omega), if_neg (by omega), if_neg (by omega), if_neg (by omega), if_neg (by omega), if_pos (by omega)]; omega))
  · refine jr.tsw_k 6 rfl h1 rfl ?_
    refine jr.aload_n rfl rfl ?_
    have k11 := kf_1_7 k_t
    refine jr.getf (i := 7) (v := .ref (t + 3)) rfl rfl (Nat.lt_trans (kx_1 k_t).1 (by decide)) (kx_1 k_t).2 (by decide) rfl rfl rfl (jval_ref rfl k11.1) ?_
    refine jr.iconst rfl ?_
    obtain ⟨v12, e12⟩ : ∃ z_, M ((t + 3)) 1 = z_ := ⟨_, rfl⟩
    have b12 : (-2147483648) ≤ v12 ∧ v12 ≤ 2147483647 := by rw [← e12]; exact (CI.r hC_M k11.2 (by decide) 1)
    refine jr.iald (i := 1) (x := v12) rfl (Nat.lt_trans (kx_5 k11.2).1 (by decide)) (kx_5 k11.2).2 (by decide) (by omega) (by omega) e12 ?_
    exact jr.ireturn rfl rfl rfl (q _ (by omega) (by unfold fgF; rw [if_neg (by omega), if_neg (by omega), if_neg (by omega), if_neg (by omega), if_neg (by omega), if_neg (by omega), if_pos (by omega)]; omega))
  · refine jr.tsw_k 7 rfl h1 rfl ?_
    refine jr.aload_n rfl rfl ?_
    have k13 := kf_1_9 k_t
    refine jr.getf (i := 9) (v := .ref (t + 5)) rfl rfl (Nat.lt_trans (kx_1 k_t).1 (by decide)) (kx_1 k_t).2 (by decide) rfl rfl rfl (jval_ref rfl k13.1) ?_
    refine jr.iconst rfl ?_
    obtain ⟨v14, e14⟩ : ∃ z_, M ((t + 5)) 0 = z_ := ⟨_, rfl⟩
    have b14 : (-2147483648) ≤ v14 ∧ v14 ≤ 2147483647 := by rw [← e14]; exact (CI.r hC_M k13.2 (by decide) 0)
    refine jr.iald (i := 0) (x := v14) rfl (Nat.lt_trans (kx_8 k13.2).1 (by decide)) (kx_8 k13.2).2 (by decide) (by omega) (by omega) e14 ?_
    exact jr.ireturn rfl rfl rfl (q _ (by omega) (by unfold fgF; rw [if_neg (by omega), if_neg (by omega), if_neg (by omega), if_neg (by omega), if_neg (by omega), if_neg (by omega), if_neg (by omega), if_pos (by omega)]; omega))
  · refine jr.tsw_k 8 rfl h1 rfl ?_
    refine jr.aload_n rfl rfl ?_
    have k15 := kf_1_9 k_t
    refine jr.getf (i := 9) (v := .ref (t + 5)) rfl rfl (Nat.lt_trans (kx_1 k_t).1 (by decide)) (kx_1 k_t).2 (by decide) rfl rfl rfl (jval_ref rfl k15.1) ?_
    refine jr.iconst rfl ?_
    obtain ⟨v16, e16⟩ : ∃ z_, M ((t + 5)) 1 = z_ := ⟨_, rfl⟩
    have b16 : (-2147483648) ≤ v16 ∧ v16 ≤ 2147483647 := by rw [← e16]; exact (CI.r hC_M k15.2 (by decide) 1)
    refine jr.iald (i := 1) (x := v16) rfl (Nat.lt_trans (kx_8 k15.2).1 (by decide)) (kx_8 k15.2).2 (by decide) (by omega) (by omega) e16 ?_
    exact jr.ireturn rfl rfl rfl (q _ (by omega) (by unfold fgF; rw [if_neg (by omega), if_neg (by omega), if_neg (by omega), if_neg (by omega), if_neg (by omega), if_neg (by omega), if_neg (by omega), if_neg (by omega), if_pos (by omega)]; omega))
  · refine jr.tsw_k 9 rfl h1 rfl ?_
    refine jr.aload_n rfl rfl ?_
    obtain ⟨v17, e17⟩ : ∃ z_, M t 15 = z_ := ⟨_, rfl⟩
    have b17 : (-2147483648) ≤ v17 ∧ v17 ≤ 2147483647 := by rw [← e17]; exact (CI.r hC_M k_t (by decide) 15)
    refine jr.getf (i := 15) (x := v17) (v := .int (Int32.ofInt (v17))) rfl rfl (Nat.lt_trans (kx_1 k_t).1 (by decide)) (kx_1 k_t).2 (by decide) rfl rfl e17 rfl ?_
    exact jr.ireturn rfl rfl rfl (q _ (by omega) (by unfold fgF; rw [if_neg (by omega), if_neg (by omega), if_neg (by omega), if_neg (by omega), if_neg (by omega), if_neg (by omega), if_neg (by omega), if_neg (by omega), if_neg (by omega), if_pos (by omega)]; omega))
  · refine jr.tsw_k 10 rfl h1 rfl ?_
    refine jr.aload_n rfl rfl ?_
    obtain ⟨v18, e18⟩ : ∃ z_, M t 1 = z_ := ⟨_, rfl⟩
    have b18 : 0 ≤ v18 ∧ v18 ≤ 1 := by rw [← e18]; exact (CI.r hC_M k_t (by decide) 1)
    refine jr.getf (i := 1) (x := v18) (v := .int (Int32.ofInt (v18))) rfl rfl (Nat.lt_trans (kx_1 k_t).1 (by decide)) (kx_1 k_t).2 (by decide) rfl rfl e18 rfl ?_
    refine jr.if_eq rfl rfl (by first | (refine rgb (by assumption) ?_; exact rfl) | omega) (fun h128 => ?_) (fun h128 => ?_)
    · refine jr.iconst rfl ?_
      exact jr.ireturn rfl rfl rfl (q _ (by first | exact rgq rfl | omega) (by unfold fgF; rw [if_neg (by omega), if_neg (by omega), if_neg (by omega), if_neg (by omega), if_neg (by omega), if_neg (by omega), if_neg (by omega), if_neg (by omega), if_neg (by omega), if_neg (by omega), if_pos (by omega)]; first | (rw [if_pos (by omega)]) | (rw [if_neg (by omega)])))
    · have sx128 : (1 : Int) ≤ v18 := by omega
      clear h128
      refine jr.iconst rfl ?_
      refine jr.goto rfl rfl ?_
      exact jr.ireturn rfl rfl rfl (q _ (by first | exact rgq rfl | omega) (by unfold fgF; rw [if_neg (by omega), if_neg (by omega), if_neg (by omega), if_neg (by omega), if_neg (by omega), if_neg (by omega), if_neg (by omega), if_neg (by omega), if_neg (by omega), if_neg (by omega), if_pos (by omega)]; first | (rw [if_pos (by omega)]) | (rw [if_neg (by omega)])))
  · refine jr.tsw_d rfl (by omega) (by omega) rfl ?_
    refine jr.bipush rfl (by decide) ?_
    exact jr.ireturn rfl rfl rfl (q _ (by first | exact rgq rfl | omega) (by unfold fgF; rw [if_neg (by omega), if_neg (by omega), if_neg (by omega), if_neg (by omega), if_neg (by omega), if_neg (by omega), if_neg (by omega), if_neg (by omega), if_neg (by omega), if_neg (by omega), if_neg (by omega)]))
theorem c_Flow_longFigure_x {A : Nat → Option (Nat × (Nat → Int32))} {Q : Option Value → jm → Prop} {M : jm} (hC_M : CI M) {t : Nat} (k_t : kd t = 1) {x : Int} (h_x : (-2147483648) ≤ x ∧ x ≤ 2147483647) (q : ∀ (r : Int), (-9223372036854775808) ≤ r ∧ r ≤ 9223372036854775807 → (r = fgL M t x) → Q (some (.long (Int64.ofInt r))) M) : jc A 1 63 [.ref (t), .int (Int32.ofInt (x))] M Q := by
  refine jc_of (m := xm_63) rfl (Nat.le_of_ble_eq_true rfl) rfl ?_
  refine jr.iload_n rfl rfl ?_
  rcases (show x = 0 ∨ x = 1 ∨ x = 2 ∨ x = 3 ∨ x = 4 ∨ x = 5 ∨ (x ≠ 0 ∧ x ≠ 1 ∧ x ≠ 2 ∧ x ≠ 3 ∧ x ≠ 4 ∧ x ≠ 5) by omega) with h1 | h1 | h1 | h1 | h1 | h1 | h1
  · refine jr.tsw_k 0 rfl h1 rfl ?_
    refine jr.aload_n rfl rfl ?_
    have k1 := kf_1_3 k_t
    refine jr.getf (i := 3) (v := .ref (t + 1)) rfl rfl (Nat.lt_trans (kx_1 k_t).1 (by decide)) (kx_1 k_t).2 (by decide) rfl rfl rfl (jval_ref rfl k1.1) ?_
    refine jr.iconst rfl ?_
    obtain ⟨v2, e2⟩ : ∃ z_, M ((t + 1)) 0 = z_ := ⟨_, rfl⟩
    have b2 : (-9223372036854775808) ≤ v2 ∧ v2 ≤ 9223372036854775807 := by rw [← e2]; exact (CI.r hC_M k1.2 (by decide) 0)
    refine jr.lald (i := 0) (x := v2) rfl (Nat.lt_trans (kx_2 k1.2).1 (by decide)) (kx_2 k1.2).2 (by decide) (by omega) (by omega) e2 ?_
    exact jr.lreturn rfl rfl (q _ (by omega) (by unfold fgL; rw [if_pos (by omega)]; omega))
  · refine jr.tsw_k 1 rfl h1 rfl ?_
    refine jr.aload_n rfl rfl ?_
    have k3 := kf_1_3 k_t
    refine jr.getf (i := 3) (v := .ref (t + 1)) rfl rfl (Nat.lt_trans (kx_1 k_t).1 (by decide)) (kx_1 k_t).2 (by decide) rfl rfl rfl (jval_ref rfl k3.1) ?_
    refine jr.iconst rfl ?_
    obtain ⟨v4, e4⟩ : ∃ z_, M ((t + 1)) 1 = z_ := ⟨_, rfl⟩
    have b4 : (-9223372036854775808) ≤ v4 ∧ v4 ≤ 9223372036854775807 := by rw [← e4]; exact (CI.r hC_M k3.2 (by decide) 1)
    refine jr.lald (i := 1) (x := v4) rfl (Nat.lt_trans (kx_2 k3.2).1 (by decide)) (kx_2 k3.2).2 (by decide) (by omega) (by omega) e4 ?_
    exact jr.lreturn rfl rfl (q _ (by omega) (by unfold fgL; rw [if_neg (by omega), if_pos (by omega)]; omega))
  · refine jr.tsw_k 2 rfl h1 rfl ?_
    refine jr.aload_n rfl rfl ?_
    have k5 := kf_1_10 k_t
    refine jr.getf (i := 10) (v := .ref (t + 6)) rfl rfl (Nat.lt_trans (kx_1 k_t).1 (by decide)) (kx_1 k_t).2 (by decide) rfl rfl rfl (jval_ref rfl k5.1) ?_
    refine jr.iconst rfl ?_
    obtain ⟨v6, e6⟩ : ∃ z_, M ((t + 6)) 0 = z_ := ⟨_, rfl⟩
    have b6 : (-9223372036854775808) ≤ v6 ∧ v6 ≤ 9223372036854775807 := by rw [← e6]; exact (CI.r hC_M k5.2 (by decide) 0)
    refine jr.lald (i := 0) (x := v6) rfl (Nat.lt_trans (kx_6 k5.2).1 (by decide)) (kx_6 k5.2).2 (by decide) (by omega) (by omega) e6 ?_
    exact jr.lreturn rfl rfl (q _ (by omega) (by unfold fgL; rw [if_neg (by omega), if_neg (by omega), if_pos (by omega)]; omega))
  · refine jr.tsw_k 3 rfl h1 rfl ?_
    refine jr.aload_n rfl rfl ?_
    have k7 := kf_1_10 k_t
    refine jr.getf (i := 10) (v := .ref (t + 6)) rfl rfl (Nat.lt_trans (kx_1 k_t).1 (by decide)) (kx_1 k_t).2 (by decide) rfl rfl rfl (jval_ref rfl k7.1) ?_
    refine jr.iconst rfl ?_
    obtain ⟨v8, e8⟩ : ∃ z_, M ((t + 6)) 1 = z_ := ⟨_, rfl⟩
    have b8 : (-9223372036854775808) ≤ v8 ∧ v8 ≤ 9223372036854775807 := by rw [← e8]; exact (CI.r hC_M k7.2 (by decide) 1)
    refine jr.lald (i := 1) (x := v8) rfl (Nat.lt_trans (kx_6 k7.2).1 (by decide)) (kx_6 k7.2).2 (by decide) (by omega) (by omega) e8 ?_
    exact jr.lreturn rfl rfl (q _ (by omega) (by unfold fgL; rw [if_neg (by omega), if_neg (by omega), if_neg (by omega), if_pos (by omega)]; omega))
  · refine jr.tsw_k 4 rfl h1 rfl ?_
    refine jr.aload_n rfl rfl ?_
    have k9 := kf_1_11 k_t
    refine jr.getf (i := 11) (v := .ref (t + 7)) rfl rfl (Nat.lt_trans (kx_1 k_t).1 (by decide)) (kx_1 k_t).2 (by decide) rfl rfl rfl (jval_ref rfl k9.1) ?_
    refine jr.iconst rfl ?_
    obtain ⟨v10, e10⟩ : ∃ z_, M ((t + 7)) 0 = z_ := ⟨_, rfl⟩
    have b10 : (-9223372036854775808) ≤ v10 ∧ v10 ≤ 9223372036854775807 := by rw [← e10]; exact (CI.r hC_M k9.2 (by decide) 0)
    refine jr.lald (i := 0) (x := v10) rfl (Nat.lt_trans (kx_3 k9.2).1 (by decide)) (kx_3 k9.2).2 (by decide) (by omega) (by omega) e10 ?_
    exact jr.lreturn rfl rfl (q _ (by omega) (by unfold fgL; rw [if_neg (by omega), if_neg (by omega), if_neg (by omega), if_neg (by omega), if_pos (by omega)]; omega))
  · refine jr.tsw_k 5 rfl h1 rfl ?_
    refine jr.aload_n rfl rfl ?_
    have k11 := kf_1_11 k_t
    refine jr.getf (i := 11) (v := .ref (t + 7)) rfl rfl (Nat.lt_trans (kx_1 k_t).1 (by decide)) (kx_1 k_t).2 (by decide) rfl rfl rfl (jval_ref rfl k11.1) ?_
    refine jr.iconst rfl ?_
    obtain ⟨v12, e12⟩ : ∃ z_, M ((t + 7)) 1 = z_ := ⟨_, rfl⟩
    have b12 : (-9223372036854775808) ≤ v12 ∧ v12 ≤ 9223372036854775807 := by rw [← e12]; exact (CI.r hC_M k11.2 (by decide) 1)
    refine jr.lald (i := 1) (x := v12) rfl (Nat.lt_trans (kx_3 k11.2).1 (by decide)) (kx_3 k11.2).2 (by decide) (by omega) (by omega) e12 ?_
    exact jr.lreturn rfl rfl (q _ (by omega) (by unfold fgL; rw [if_neg (by omega), if_neg (by omega), if_neg (by omega), if_neg (by omega), if_neg (by omega), if_pos (by omega)]; omega))
  · refine jr.tsw_d rfl (by omega) (by omega) rfl ?_
    refine jr.ldc2 (x := (-1)) rfl rfl (by decide) ?_
    exact jr.lreturn rfl rfl (q _ (by omega) (by unfold fgL; rw [if_neg (by omega), if_neg (by omega), if_neg (by omega), if_neg (by omega), if_neg (by omega), if_neg (by omega)]))
theorem c_PacketWall_flow_x {A : Nat → Option (Nat × (Nat → Int32))} {Q : Option Value → jm → Prop} {M : jm} (hC_M : CI M) {x : Int} (h_x : (-2147483648) ≤ x ∧ x ≤ 2147483647) {y : Int} (h_y : (-2147483648) ≤ y ∧ y ≤ 2147483647) {V : Int} (g_V : M 15 0 = V) (q : ∀ (r : Int), (-2147483648) ≤ r ∧ r ≤ 2147483647 → (((x < 0 ∨ 23 < x ∨ M (xe (V.toNat) x) 0 = 0) ∧ r = -2) ∨ (((0 ≤ x ∧ x ≤ 23) ∧ M (xe (V.toNat) x) 0 ≠ 0) ∧ r = fgF M (xe (V.toNat) x) y (M 0 8))) → Q (some (.int (Int32.ofInt r))) M) : jc A 2 20 [.ref (0), .int (Int32.ofInt (x)), .int (Int32.ofInt (y))] M Q := by
  refine jc_of (m := xm_20) rfl (Nat.le_of_ble_eq_true rfl) rfl ?_
  have b_V : 16 ≤ V ∧ V ≤ 17 := by rw [← g_V]; exact (CI.r hC_M (show kd 15 = 9 from rfl) (by decide) 0)
  refine jr.aload_n rfl rfl ?_
  refine jr.getf (i := 9) (v := .ref 15) rfl rfl (nlt rfl) rfl (nlt rfl) rfl rfl rfl rfl ?_
  refine jr.iload_n rfl rfl ?_
  refine jr_v rfl rfl (Or.inl rfl) rfl rfl (nlt rfl) rfl ⟨rfl, Nat.le_of_ble_eq_true rfl, Nat.le_of_ble_eq_true rfl⟩ rfl (jc.deep (c_Flows_isLive_x hC_M (by omega) g_V (fun r1 z1 w1_0 w1_1 => ?_)) (Nat.le_of_ble_eq_true rfl))
  refine jr.if_ne rfl rfl (by first | (refine rgb (by assumption) ?_; exact rfl) | omega) (fun h8 => ?_) (fun h8 => ?_)
  · have sx8 : (1 : Int) ≤ r1 := by omega
    clear h8
    refine jr.aload_n rfl rfl ?_
    refine jr.getf (i := 9) (v := .ref 15) rfl rfl (nlt rfl) rfl (nlt rfl) rfl rfl rfl rfl ?_
    have k2 : kd (V).toNat = 13 := by rcases (show V = 16 ∨ V = 17 by omega) with h | h <;> (rw [h]; rfl)
    refine jr.getf (i := 0) (x := V) (v := .ref (V.toNat)) rfl rfl (nlt rfl) rfl (nlt rfl) rfl rfl g_V rfl ?_
    refine jr.iload_n rfl rfl ?_
    have k3 := kxe_13 k2 (i := x) (by omega) (by omega)
    refine jr.aald (c := (xe ((V.toNat)) x)) rfl (Nat.lt_trans (kx_13 k2).1 (by decide)) (kx_13 k2).2 (by decide) (by decide) rfl (by decide) (by omega) (by omega) k3.1 ?_
    refine jr.iload_n rfl rfl ?_
    refine jr.aload_n rfl rfl ?_
    obtain ⟨v4, e4⟩ : ∃ z_, M 0 8 = z_ := ⟨_, rfl⟩
    have b4 : (-2147483648) ≤ v4 ∧ v4 ≤ 2147483647 := by rw [← e4]; exact (CI.r hC_M (show kd 0 = 35 from rfl) (by decide) 8)
    refine jr.getf (i := 8) (x := v4) (v := .int (Int32.ofInt (v4))) rfl rfl (nlt rfl) rfl (nlt rfl) rfl rfl e4 rfl ?_
    refine jr_v rfl rfl (Or.inl rfl) rfl rfl (Nat.lt_trans (kx_1 k3.2).1 (by decide)) (kx_1 k3.2).2 ⟨rfl, Nat.le_of_ble_eq_true rfl, Nat.le_of_ble_eq_true rfl⟩ rfl (jc.deep (c_Flow_figure_x hC_M k3.2 (by omega) (by omega) (fun r5 z5 w5_0 => ?_)) (Nat.le_of_ble_eq_true rfl))
    exact jr.ireturn rfl rfl rfl (q _ (by omega) (Or.inr ⟨by omega, by rw [e4]; exact w5_0⟩))
  · refine jr.bipush rfl (by decide) ?_
    exact jr.ireturn rfl rfl rfl (q _ (by first | exact rgq rfl | omega) (Or.inl ⟨by omega, by omega⟩))
theorem c_PacketWall_flowed_x {A : Nat → Option (Nat × (Nat → Int32))} {Q : Option Value → jm → Prop} {M : jm} (hC_M : CI M) {x : Int} (h_x : (-2147483648) ≤ x ∧ x ≤ 2147483647) {y : Int} (h_y : (-2147483648) ≤ y ∧ y ≤ 2147483647) {V : Int} (g_V : M 15 0 = V) (q : ∀ (r : Int), (-9223372036854775808) ≤ r ∧ r ≤ 9223372036854775807 → (((x < 0 ∨ 23 < x ∨ M (xe (V.toNat) x) 0 = 0) ∧ r = -1) ∨ (((0 ≤ x ∧ x ≤ 23) ∧ M (xe (V.toNat) x) 0 ≠ 0) ∧ r = fgL M (xe (V.toNat) x) y)) → Q (some (.long (Int64.ofInt r))) M) : jc A 2 21 [.ref (0), .int (Int32.ofInt (x)), .int (Int32.ofInt (y))] M Q := by
  refine jc_of (m := xm_21) rfl (Nat.le_of_ble_eq_true rfl) rfl ?_
  have b_V : 16 ≤ V ∧ V ≤ 17 := by rw [← g_V]; exact (CI.r hC_M (show kd 15 = 9 from rfl) (by decide) 0)
  refine jr.aload_n rfl rfl ?_
  refine jr.getf (i := 9) (v := .ref 15) rfl rfl (nlt rfl) rfl (nlt rfl) rfl rfl rfl rfl ?_
  refine jr.iload_n rfl rfl ?_
  refine jr_v rfl rfl (Or.inl rfl) rfl rfl (nlt rfl) rfl ⟨rfl, Nat.le_of_ble_eq_true rfl, Nat.le_of_ble_eq_true rfl⟩ rfl (jc.deep (c_Flows_isLive_x hC_M (by omega) g_V (fun r1 z1 w1_0 w1_1 => ?_)) (Nat.le_of_ble_eq_true rfl))
  refine jr.if_eq rfl rfl (by first | (refine rgb (by assumption) ?_; exact rfl) | omega) (fun h8 => ?_) (fun h8 => ?_)
  · refine jr.ldc2 (x := (-1)) rfl rfl (by decide) ?_
    exact jr.lreturn rfl rfl (q _ (by omega) (Or.inl ⟨by omega, by omega⟩))
  · have sx8 : (1 : Int) ≤ r1 := by omega
    clear h8
    refine jr.aload_n rfl rfl ?_
    refine jr.getf (i := 9) (v := .ref 15) rfl rfl (nlt rfl) rfl (nlt rfl) rfl rfl rfl rfl ?_
    have k2 : kd (V).toNat = 13 := by rcases (show V = 16 ∨ V = 17 by omega) with h | h <;> (rw [h]; rfl)
    refine jr.getf (i := 0) (x := V) (v := .ref (V.toNat)) rfl rfl (nlt rfl) rfl (nlt rfl) rfl rfl g_V rfl ?_
    refine jr.iload_n rfl rfl ?_
    have k3 := kxe_13 k2 (i := x) (by omega) (by omega)
    refine jr.aald (c := (xe ((V.toNat)) x)) rfl (Nat.lt_trans (kx_13 k2).1 (by decide)) (kx_13 k2).2 (by decide) (by decide) rfl (by decide) (by omega) (by omega) k3.1 ?_
    refine jr.iload_n rfl rfl ?_
    refine jr_v rfl rfl (Or.inl rfl) rfl rfl (Nat.lt_trans (kx_1 k3.2).1 (by decide)) (kx_1 k3.2).2 ⟨rfl, Nat.le_of_ble_eq_true rfl, Nat.le_of_ble_eq_true rfl⟩ rfl (jc.deep (c_Flow_longFigure_x hC_M k3.2 (by omega) (fun r4 z4 w4_0 => ?_)) (Nat.le_of_ble_eq_true rfl))
    refine jr.goto rfl rfl ?_
    exact jr.lreturn rfl rfl (q _ (by omega) (Or.inr ⟨by omega, w4_0⟩))
noncomputable def W_c_PacketWall_close_x : List (Nat × Nat) := [(1, 0)]
theorem c_PacketWall_close_x {A : Nat → Option (Nat × (Nat → Int32))} {Q : Option Value → jm → Prop} {T : jm} {M : jm} (hC_M : CI M) (ht_M : FR W_c_PacketWall_close_x T M) {x : Int} (h_x : (-2147483648) ≤ x ∧ x ≤ 2147483647) {V : Int} (g_V : M 15 0 = V) (p0 : T = M) (q : ∀ (r : Int) (M' : jm), CI M' → FR W_c_PacketWall_close_x T M' → (-2147483648) ≤ r ∧ r ≤ 2147483647 → (((x < 0 ∨ 23 < x ∨ T (xe (V.toNat) x) 0 = 0) ∧ r = -2 ∧ M' = T) ∨ (((0 ≤ x ∧ x ≤ 23) ∧ T (xe (V.toNat) x) 0 ≠ 0) ∧ r = 1 ∧ M' = ju T (xe (V.toNat) x) 0 0)) → Q (some (.int (Int32.ofInt r))) M') : jc A 2 22 [.ref (0), .int (Int32.ofInt (x))] M Q := by
  refine jc_of (m := xm_22) rfl (Nat.le_of_ble_eq_true rfl) rfl ?_
  have b_V : 16 ≤ V ∧ V ≤ 17 := by rw [← g_V]; exact (CI.r hC_M (show kd 15 = 9 from rfl) (by decide) 0)
  refine jr.aload_n rfl rfl ?_
  refine jr.getf (i := 9) (v := .ref 15) rfl rfl (nlt rfl) rfl (nlt rfl) rfl rfl rfl rfl ?_
  refine jr.iload_n rfl rfl ?_
  refine jr_v rfl rfl (Or.inl rfl) rfl rfl (nlt rfl) rfl ⟨rfl, Nat.le_of_ble_eq_true rfl, Nat.le_of_ble_eq_true rfl⟩ rfl (jc.deep (c_Flows_isLive_x hC_M (by omega) g_V (fun r1 z1 w1_0 w1_1 => ?_)) (Nat.le_of_ble_eq_true rfl))
  refine jr.if_ne rfl rfl (by first | (refine rgb (by assumption) ?_; exact rfl) | omega) (fun h8 => ?_) (fun h8 => ?_)
  · have sx8 : (1 : Int) ≤ r1 := by omega
    clear h8
    refine jr.aload_n rfl rfl ?_
    refine jr.getf (i := 9) (v := .ref 15) rfl rfl (nlt rfl) rfl (nlt rfl) rfl rfl rfl rfl ?_
    have k2 : kd (V).toNat = 13 := by rcases (show V = 16 ∨ V = 17 by omega) with h | h <;> (rw [h]; rfl)
    refine jr.getf (i := 0) (x := V) (v := .ref (V.toNat)) rfl rfl (nlt rfl) rfl (nlt rfl) rfl rfl g_V rfl ?_
    refine jr.iload_n rfl rfl ?_
    have k3 := kxe_13 k2 (i := x) (by omega) (by omega)
    refine jr.aald (c := (xe ((V.toNat)) x)) rfl (Nat.lt_trans (kx_13 k2).1 (by decide)) (kx_13 k2).2 (by decide) (by decide) rfl (by decide) (by omega) (by omega) k3.1 ?_
    refine jr.iconst rfl ?_
    refine jr.putf (i := 0) (x := 0) rfl rfl (Nat.lt_trans (kx_1 k3.2).1 (by decide)) (kx_1 k3.2).2 (by decide) rfl rfl rfl rfl rfl ?_
    refine jr.iconst rfl ?_
    exact jr.ireturn rfl rfl rfl (q _ _ (CI.u hC_M (i := 0) k3.2 (show (0 : Int) ≤ _ ∧ _ ≤ (1 : Int) from by omega) rfl) (FR.o ht_M k3.2 rfl) (by omega) (Or.inr ⟨by rw [p0]; omega, by omega, by rw [p0]⟩))
  · refine jr.bipush rfl (by decide) ?_
    exact jr.ireturn rfl rfl rfl (q _ _ hC_M ht_M (by first | exact rgq rfl | omega) (Or.inl ⟨by rw [p0]; omega, by omega, p0.symm⟩))
/-- a flow that is changed by pool k, from f on -/
noncomputable def pu (M : jm) (V : Nat) (k : Int) : Nat → Int → Int
  | 0, _ => 0
  | n + 1, i => if M (xe V i) 0 ≠ 0 ∧ M (xe V i) 13 = k then 1 else pu M V k n (i + 1)
theorem pu_s {M : jm} {V : Nat} {k i : Int} (h : i < 24) : pu M V k (24 - i).toNat i = if M (xe V i) 0 ≠ 0 ∧ M (xe V i) 13 = k then 1 else pu M V k (24 - (i + 1)).toNat (i + 1) := by
  obtain ⟨n, hn⟩ : ∃ n : Nat, i = 23 - n := ⟨(23 - i).toNat, by omega⟩
  subst hn
  rw [show (24 - (23 - (n : Int))).toNat = n + 1 by omega, show (24 - (23 - (n : Int) + 1)).toNat = n by omega]
  rfl
/-- a port that is taken, from f on -/
noncomputable def tk (M : jm) (V : Nat) (a o : Int) : Nat → Int → Int
  | 0, _ => 0
  | n + 1, i => if M (xe V i) 0 ≠ 0 ∧ M (xe V i) 13 ≠ -1 ∧ M (xe V i) 14 = a ∧ M (xe V i) 15 = o then 1 else tk M V a o n (i + 1)
theorem tk_s {M : jm} {V : Nat} {a o i : Int} (h : i < 24) : tk M V a o (24 - i).toNat i = if M (xe V i) 0 ≠ 0 ∧ M (xe V i) 13 ≠ -1 ∧ M (xe V i) 14 = a ∧ M (xe V i) 15 = o then 1 else tk M V a o (24 - (i + 1)).toNat (i + 1) := by
  obtain ⟨n, hn⟩ : ∃ n : Nat, i = 23 - n := ⟨(23 - i).toNat, by omega⟩
  subst hn
  rw [show (24 - (23 - (n : Int))).toNat = n + 1 by omega, show (24 - (23 - (n : Int) + 1)).toNat = n by omega]
  rfl
noncomputable def W_c_Flows_layPool_x : List (Nat × Nat) := [(10, 1000), (11, 1000), (12, 1000)]
theorem c_Flows_layPool_x_L44 {A : Nat → Option (Nat × (Nat → Int32))} {Q : Option Value → jm → Prop} {T : jm} {V : Int} {u : Int} {x : Int} {y : Int} {z : Int} (q : ∀ (r : Int) (M' : jm), CI M' → FR W_c_Flows_layPool_x T M' → (-2147483648) ≤ r ∧ r ≤ 2147483647 → ((¬ ((0 ≤ x ∧ x ≤ 3) ∧ (1 ≤ u ∧ u ≤ 32) ∧ (1 ≤ z ∧ z + u ≤ 65536)) ∧ r = -3 ∧ M' = T) ∨ (((0 ≤ x ∧ x ≤ 3) ∧ (1 ≤ u ∧ u ≤ 32) ∧ (1 ≤ z ∧ z + u ≤ 65536)) ∧ pu T V.toNat x 24 0 = 1 ∧ r = -4 ∧ M' = T) ∨ (((0 ≤ x ∧ x ≤ 3) ∧ (1 ≤ u ∧ u ≤ 32) ∧ (1 ≤ z ∧ z + u ≤ 65536)) ∧ pu T V.toNat x 24 0 ≠ 1 ∧ r = u ∧ M' = ju (ju (ju T 26 x y) 27 x z) 28 x u)) → Q (some (.int (Int32.ofInt r))) M') : ∀ (nM : Nat) (M : jm) (i : Int), CI M → FR W_c_Flows_layPool_x T M → 0 ≤ x ∧ x ≤ 3 → (-9223372036854775808) ≤ y ∧ y ≤ 9223372036854775807 → 1 ≤ z ∧ z ≤ 65535 → 1 ≤ u ∧ u ≤ 32 → 0 ≤ i ∧ i ≤ 24 → M 15 0 = V → (pu T V.toNat x 24 0 = pu T V.toNat x (24 - i).toNat i) → (M = T) → (z + u ≤ 65536) → 24 - i ≤ nM → jr A 0 xm_80 44 [(1, .int (Int32.ofInt (x))), (2, .long (Int64.ofInt (y))), (4, .int (Int32.ofInt (z))), (5, .int (Int32.ofInt (u))), (6, .int (Int32.ofInt (i))), (0, .ref (15))] [] M Q := by
  intro nM
  induction nM using Nat.strongRecOn with
  | ind nM ih =>
    intro M i hC_M ht_M h_x h_y h_z h_u h_i g_V hy0 hy1 hy2 hm
    have b_V : 16 ≤ V ∧ V ≤ 17 := by rw [← g_V]; exact (CI.r hC_M (show kd 15 = 9 from rfl) (by decide) 0)
    refine jr.iload rfl rfl ?_
    refine jr.bipush rfl (jbp _ (nlt rfl)) ?_
    refine jr.icmp_ge rfl rfl (by first | (refine rgb (by assumption) ?_; exact rfl) | omega) (rgl rfl) (fun h48 => ?_) (fun h48 => ?_)
    · refine jr.aload_n rfl rfl ?_
      refine jr.getf (i := 6) (v := .ref 26) rfl rfl (nlt rfl) rfl (nlt rfl) rfl rfl rfl rfl ?_
      refine jr.iload_n rfl rfl ?_
      refine jr.lload_n rfl rfl ?_
      refine jr.last (i := x) (x := y) rfl (nlt rfl) rfl (Nat.le_of_ble_eq_true rfl) (by omega) (by omega) ?_
      refine jr.aload_n rfl rfl ?_
      refine jr.getf (i := 7) (v := .ref 27) rfl rfl (nlt rfl) rfl (nlt rfl) rfl rfl rfl rfl ?_
      refine jr.iload_n rfl rfl ?_
      refine jr.iload rfl rfl ?_
      refine jr.iast (i := x) (x := z) rfl (nlt rfl) rfl (Nat.le_of_ble_eq_true rfl) (by omega) (by omega) ?_
      refine jr.aload_n rfl rfl ?_
      refine jr.getf (i := 8) (v := .ref 28) rfl rfl (nlt rfl) rfl (nlt rfl) rfl rfl rfl rfl ?_
      refine jr.iload_n rfl rfl ?_
      refine jr.iload rfl rfl ?_
      refine jr.iast (i := x) (x := u) rfl (nlt rfl) rfl (Nat.le_of_ble_eq_true rfl) (by omega) (by omega) ?_
      refine jr.iload rfl rfl ?_
      exact jr.ireturn rfl rfl rfl (q _ _ (CI.u (CI.u (CI.u hC_M (i := x) (show kd 26 = 10 from rfl) (show (-9223372036854775808 : Int) ≤ _ ∧ _ ≤ (9223372036854775807 : Int) from by omega) rfl) (i := x) (show kd 27 = 11 from rfl) (show (-2147483648 : Int) ≤ _ ∧ _ ≤ (2147483647 : Int) from by omega) rfl) (i := x) (show kd 28 = 12 from rfl) (show (0 : Int) ≤ _ ∧ _ ≤ (32 : Int) from by omega) rfl) (FR.o (FR.o (FR.o ht_M (show kd 26 = 10 from rfl) rfl) (show kd 27 = 11 from rfl) rfl) (show kd 28 = 12 from rfl) rfl) (by omega) (Or.inr (Or.inr ⟨by omega, by rw [hy0, show (24 - i).toNat = 0 from by omega]; show (0 : Int) ≠ 1; decide, by omega, by rw [hy1]⟩)))
    · refine jr.aload_n rfl rfl ?_
      have k1 : kd (V).toNat = 13 := by rcases (show V = 16 ∨ V = 17 by omega) with h | h <;> (rw [h]; rfl)
      refine jr.getf (i := 0) (x := V) (v := .ref (V.toNat)) rfl rfl (nlt rfl) rfl (nlt rfl) rfl rfl g_V rfl ?_
      refine jr.iload rfl rfl ?_
      have k2 := kxe_13 k1 (i := i) (by omega) (by omega)
      refine jr.aald (c := (xe ((V.toNat)) i)) rfl (Nat.lt_trans (kx_13 k1).1 (by decide)) (kx_13 k1).2 (by decide) (by decide) rfl (by decide) (by omega) (by omega) k2.1 ?_
      obtain ⟨v3, e3⟩ : ∃ z_, M ((xe ((V.toNat)) i)) 0 = z_ := ⟨_, rfl⟩
      have b3 : 0 ≤ v3 ∧ v3 ≤ 1 := by rw [← e3]; exact (CI.r hC_M k2.2 (by decide) 0)
      refine jr.getf (i := 0) (x := v3) (v := .int (Int32.ofInt (v3))) rfl rfl (Nat.lt_trans (kx_1 k2.2).1 (by decide)) (kx_1 k2.2).2 (by decide) rfl rfl e3 rfl ?_
      refine jr.if_eq rfl rfl (by first | (refine rgb (by assumption) ?_; exact rfl) | omega) (fun h61 => ?_) (fun h61 => ?_)
      · refine jr.iinc (ls' := [_, _, _, _, _, _]) rfl rfl (nlt rfl) rfl ?_
        refine jr.goto rfl rfl ?_
        refine jr.pick (ls := [_, _, _, _, _, _]) [1, 2, 3, 4, 0, 5] rfl rfl ?_
        exact ih (nM - 1) (by omega) M (i + 1) hC_M ht_M (by omega) (by omega) (by omega) (by omega) (by omega) g_V (by rw [hy0, ← hy1, pu_s (by omega), if_neg (by omega)]) hy1 (by omega) (by omega)
      · have sx61 : (1 : Int) ≤ v3 := by omega
        clear h61
        refine jr.aload_n rfl rfl ?_
        have k4 : kd (V).toNat = 13 := by rcases (show V = 16 ∨ V = 17 by omega) with h | h <;> (rw [h]; rfl)
        refine jr.getf (i := 0) (x := V) (v := .ref (V.toNat)) rfl rfl (nlt rfl) rfl (nlt rfl) rfl rfl g_V rfl ?_
        refine jr.iload rfl rfl ?_
        have k5 := kxe_13 k4 (i := i) (by omega) (by omega)
        refine jr.aald (c := (xe ((V.toNat)) i)) rfl (Nat.lt_trans (kx_13 k4).1 (by decide)) (kx_13 k4).2 (by decide) (by decide) rfl (by decide) (by omega) (by omega) k5.1 ?_
        obtain ⟨v6, e6⟩ : ∃ z_, M ((xe ((V.toNat)) i)) 13 = z_ := ⟨_, rfl⟩
        have b6 : (-2147483648) ≤ v6 ∧ v6 ≤ 2147483647 := by rw [← e6]; exact (CI.r hC_M k5.2 (by decide) 13)
        refine jr.getf (i := 13) (x := v6) (v := .int (Int32.ofInt (v6))) rfl rfl (Nat.lt_trans (kx_1 k5.2).1 (by decide)) (kx_1 k5.2).2 (by decide) rfl rfl e6 rfl ?_
        refine jr.iload_n rfl rfl ?_
        refine jr.icmp_ne rfl rfl (by first | (refine rgb (by assumption) ?_; exact rfl) | omega) (by first | (refine rgb (by assumption) ?_; exact rfl) | omega) (fun h75 => ?_) (fun h75 => ?_)
        · refine jr.iinc (ls' := [_, _, _, _, _, _]) rfl rfl (nlt rfl) rfl ?_
          refine jr.goto rfl rfl ?_
          refine jr.pick (ls := [_, _, _, _, _, _]) [1, 2, 3, 4, 0, 5] rfl rfl ?_
          exact ih (nM - 1) (by omega) M (i + 1) hC_M ht_M (by omega) (by omega) (by omega) (by omega) (by omega) g_V (by rw [hy0, ← hy1, pu_s (by omega), if_neg (by omega)]) hy1 (by omega) (by omega)
        · refine jr.bipush rfl (by decide) ?_
          exact jr.ireturn rfl rfl rfl (q _ _ hC_M ht_M (by first | exact rgq rfl | omega) (Or.inr (Or.inl ⟨by omega, by rw [hy0, ← hy1, pu_s (by omega), if_pos (by omega)], by omega, hy1⟩)))
theorem c_Flows_layPool_x {A : Nat → Option (Nat × (Nat → Int32))} {Q : Option Value → jm → Prop} {T : jm} {M : jm} (hC_M : CI M) (ht_M : FR W_c_Flows_layPool_x T M) {x : Int} (h_x : (-2147483648) ≤ x ∧ x ≤ 2147483647) {y : Int} (h_y : (-9223372036854775808) ≤ y ∧ y ≤ 9223372036854775807) {z : Int} (h_z : (-2147483648) ≤ z ∧ z ≤ 2147483647) {u : Int} (h_u : (-2147483648) ≤ u ∧ u ≤ 2147483647) {V : Int} (g_V : M 15 0 = V) (p0 : T = M) (q : ∀ (r : Int) (M' : jm), CI M' → FR W_c_Flows_layPool_x T M' → (-2147483648) ≤ r ∧ r ≤ 2147483647 → ((¬ ((0 ≤ x ∧ x ≤ 3) ∧ (1 ≤ u ∧ u ≤ 32) ∧ (1 ≤ z ∧ z + u ≤ 65536)) ∧ r = -3 ∧ M' = T) ∨ (((0 ≤ x ∧ x ≤ 3) ∧ (1 ≤ u ∧ u ≤ 32) ∧ (1 ≤ z ∧ z + u ≤ 65536)) ∧ pu T V.toNat x 24 0 = 1 ∧ r = -4 ∧ M' = T) ∨ (((0 ≤ x ∧ x ≤ 3) ∧ (1 ≤ u ∧ u ≤ 32) ∧ (1 ≤ z ∧ z + u ≤ 65536)) ∧ pu T V.toNat x 24 0 ≠ 1 ∧ r = u ∧ M' = ju (ju (ju T 26 x y) 27 x z) 28 x u)) → Q (some (.int (Int32.ofInt r))) M') : jc A 1 80 [.ref (15), .int (Int32.ofInt (x)), .long (Int64.ofInt (y)), .int (Int32.ofInt (z)), .int (Int32.ofInt (u))] M Q := by
  refine jc_of (m := xm_80) rfl (Nat.le_of_ble_eq_true rfl) rfl ?_
  have b_V : 16 ≤ V ∧ V ≤ 17 := by rw [← g_V]; exact (CI.r hC_M (show kd 15 = 9 from rfl) (by decide) 0)
  refine jr.iload_n rfl rfl ?_
  refine jr.if_lt rfl rfl (by first | (refine rgb (by assumption) ?_; exact rfl) | omega) (fun h1 => ?_) (fun h1 => ?_)
  · refine jr.bipush rfl (by decide) ?_
    exact jr.ireturn rfl rfl rfl (q _ _ hC_M ht_M (by first | exact rgq rfl | omega) (Or.inl ⟨by omega, by omega, p0.symm⟩))
  · refine jr.iload_n rfl rfl ?_
    refine jr.iconst rfl ?_
    refine jr.icmp_ge rfl rfl (by first | (refine rgb (by assumption) ?_; exact rfl) | omega) (rgl rfl) (fun h6 => ?_) (fun h6 => ?_)
    · refine jr.bipush rfl (by decide) ?_
      exact jr.ireturn rfl rfl rfl (q _ _ hC_M ht_M (by first | exact rgq rfl | omega) (Or.inl ⟨by omega, by omega, p0.symm⟩))
    · refine jr.iload rfl rfl ?_
      refine jr.iconst rfl ?_
      refine jr.icmp_lt rfl rfl (by first | (refine rgb (by assumption) ?_; exact rfl) | omega) (rgl rfl) (fun h12 => ?_) (fun h12 => ?_)
      · refine jr.bipush rfl (by decide) ?_
        exact jr.ireturn rfl rfl rfl (q _ _ hC_M ht_M (by first | exact rgq rfl | omega) (Or.inl ⟨by omega, by omega, p0.symm⟩))
      · refine jr.iload rfl rfl ?_
        refine jr.bipush rfl (jbp _ (nlt rfl)) ?_
        refine jr.icmp_gt rfl rfl (by first | (refine rgb (by assumption) ?_; exact rfl) | omega) (rgl rfl) (fun h19 => ?_) (fun h19 => ?_)
        · refine jr.bipush rfl (by decide) ?_
          exact jr.ireturn rfl rfl rfl (q _ _ hC_M ht_M (by first | exact rgq rfl | omega) (Or.inl ⟨by omega, by omega, p0.symm⟩))
        · refine jr.iload rfl rfl ?_
          refine jr.iconst rfl ?_
          refine jr.icmp_lt rfl rfl (by first | (refine rgb (by assumption) ?_; exact rfl) | omega) (rgl rfl) (fun h25 => ?_) (fun h25 => ?_)
          · refine jr.bipush rfl (by decide) ?_
            exact jr.ireturn rfl rfl rfl (q _ _ hC_M ht_M (by first | exact rgq rfl | omega) (Or.inl ⟨by omega, by omega, p0.symm⟩))
          · refine jr.iload rfl rfl ?_
            refine jr.ldc (x := 65536) rfl rfl (by decide) ?_
            refine jr.iload rfl rfl ?_
            refine jr.isub rfl ?_
            refine jr.icmp_le rfl rfl (by first | (refine rgb (by assumption) ?_; exact rfl) | omega) (by first | (refine rgb (by assumption) ?_; exact rfl) | omega) (fun h35 => ?_) (fun h35 => ?_)
            · refine jr.iconst rfl ?_
              refine jr.istore (ls' := [_, _, _, _, _, _]) rfl (nlt rfl) rfl ?_
              refine jr.pick (ls := [_, _, _, _, _, _]) [2, 3, 4, 5, 0, 1] rfl rfl ?_
              exact c_Flows_layPool_x_L44  q 24 M 0 hC_M ht_M (by omega) (by omega) (by omega) (by omega) (by omega) g_V rfl p0.symm (by omega) (by omega)
            · refine jr.bipush rfl (by decide) ?_
              exact jr.ireturn rfl rfl rfl (q _ _ hC_M ht_M (by first | exact rgq rfl | omega) (Or.inl ⟨by omega, by omega, p0.symm⟩))
theorem jl_and_32 (x : Int) : jl_and x 4294967295 = x % 4294967296 := by
  unfold jl_and
  have hN : (Int64.ofInt x &&& Int64.ofInt 4294967295).toBitVec.toNat = (x % 18446744073709551616).toNat % 2 ^ 32 := by
    rw [Int64.toBitVec_and, BitVec.toNat_and, jbl_tn, jbl_tn]
    exact Nat.and_two_pow_sub_one_eq_mod _ 32
  rw [jbl_ti, hN]
  split <;> omega
/-- the first port of a pool that is free, from i on -/
noncomputable def chf (M : jm) (V : Nat) (a p : Int) : Nat → Int → Int
  | 0, _ => -1
  | n + 1, i => if tk M V a (p + i) 24 0 = 0 then i else chf M V a p n (i + 1)
theorem chf_s {M : jm} {V : Nat} {a p L i : Int} (h : i < L) : chf M V a p (L - i).toNat i = if tk M V a (p + i) 24 0 = 0 then i else chf M V a p (L - (i + 1)).toNat (i + 1) := by
  obtain ⟨n, hn⟩ : ∃ n : Nat, L = i + 1 + n := ⟨(L - i - 1).toNat, by omega⟩
  subst hn
  rw [show (i + 1 + (n : Int) - i).toNat = n + 1 by omega, show (i + 1 + (n : Int) - (i + 1)).toNat = n by omega]
  rfl
theorem chf_e {M : jm} {V : Nat} {a p L i : Int} (h : L ≤ i) : chf M V a p (L - i).toNat i = -1 := by
  rw [show (L - i).toNat = 0 by omega]
  rfl
noncomputable def W_c_PacketWall_pool_x : List (Nat × Nat) := [(10, 1000), (11, 1000), (12, 1000)]
theorem c_PacketWall_pool_x {A : Nat → Option (Nat × (Nat → Int32))} {Q : Option Value → jm → Prop} {T : jm} {M : jm} (hC_M : CI M) (ht_M : FR W_c_PacketWall_pool_x T M) {x : Int} (h_x : (-2147483648) ≤ x ∧ x ≤ 2147483647) {y : Int} (h_y : (-2147483648) ≤ y ∧ y ≤ 2147483647) {z : Int} (h_z : (-2147483648) ≤ z ∧ z ≤ 2147483647) {u : Int} (h_u : (-2147483648) ≤ u ∧ u ≤ 2147483647) {V : Int} (g_V : M 15 0 = V) (p0 : T = M) (q : ∀ (r : Int) (M' : jm), CI M' → FR W_c_PacketWall_pool_x T M' → (-2147483648) ≤ r ∧ r ≤ 2147483647 → ((¬ ((0 ≤ x ∧ x ≤ 3) ∧ (1 ≤ u ∧ u ≤ 32) ∧ (1 ≤ z ∧ z + u ≤ 65536)) ∧ r = -3 ∧ M' = T) ∨ (((0 ≤ x ∧ x ≤ 3) ∧ (1 ≤ u ∧ u ≤ 32) ∧ (1 ≤ z ∧ z + u ≤ 65536)) ∧ pu T V.toNat x 24 0 = 1 ∧ r = -4 ∧ M' = T) ∨ (((0 ≤ x ∧ x ≤ 3) ∧ (1 ≤ u ∧ u ≤ 32) ∧ (1 ≤ z ∧ z + u ≤ 65536)) ∧ pu T V.toNat x 24 0 ≠ 1 ∧ r = u ∧ M' = ju (ju (ju T 26 x (y % 4294967296)) 27 x z) 28 x u)) → Q (some (.int (Int32.ofInt r))) M') : jc A 2 23 [.ref (0), .int (Int32.ofInt (x)), .int (Int32.ofInt (y)), .int (Int32.ofInt (z)), .int (Int32.ofInt (u))] M Q := by
  refine jc_of (m := xm_23) rfl (Nat.le_of_ble_eq_true rfl) rfl ?_
  have b_V : 16 ≤ V ∧ V ≤ 17 := by rw [← g_V]; exact (CI.r hC_M (show kd 15 = 9 from rfl) (by decide) 0)
  refine jr.aload_n rfl rfl ?_
  refine jr.getf (i := 9) (v := .ref 15) rfl rfl (nlt rfl) rfl (nlt rfl) rfl rfl rfl rfl ?_
  refine jr.iload_n rfl rfl ?_
  refine jr.iload_n rfl rfl ?_
  refine jr.i2l rfl (by omega) ?_
  refine jr.ldc2 (x := 4294967295) rfl rfl (by decide) ?_
  refine jr.land rfl ?_
  have b1 : jl_and y 4294967295 = y % 4294967296 ∧ 0 ≤ jl_and y 4294967295 ∧ jl_and y 4294967295 ≤ 4294967295 := ⟨jl_and_32 _, by rw [jl_and_32]; omega⟩
  generalize jl_and y 4294967295 = v1 at b1 ⊢
  refine jr.iload_n rfl rfl ?_
  refine jr.iload rfl rfl ?_
  refine jr_v rfl rfl (Or.inl rfl) rfl rfl (nlt rfl) rfl ⟨rfl, Nat.le_of_ble_eq_true rfl, Nat.le_of_ble_eq_true rfl⟩ rfl (jc.deep (c_Flows_layPool_x hC_M (FR.rfl _ M) (by omega) (by omega) (by omega) (by omega) g_V rfl (fun r2 M2 hC_M2 hf_M2 z2 w2_0 => ?_)) (Nat.le_of_ble_eq_true rfl))
  have ht_M2 : FR W_c_PacketWall_pool_x T M2 := FR.t ht_M hf_M2 (kw_sub rfl)
  exact jr.ireturn rfl rfl rfl (q _ _ hC_M2 ht_M2 (by omega) (by have h9 := w2_0; rw [p0]; first | (rw [b1.1] at h9; exact h9) | exact h9))
theorem c_Flows_isPortTaken_x_L3 {A : Nat → Option (Nat × (Nat → Int32))} {Q : Option Value → jm → Prop} {M : jm} (hC_M : CI M) {V : Int} {x : Int} {y : Int} (q : ∀ (r : Int), 0 ≤ r ∧ r ≤ 1 → (r = tk M V.toNat x y 24 0) → Q (some (.int (Int32.ofInt r))) M) : ∀ (nM : Nat) (i : Int), (-9223372036854775808) ≤ x ∧ x ≤ 9223372036854775807 → (-2147483648) ≤ y ∧ y ≤ 2147483647 → 0 ≤ i ∧ i ≤ 24 → M 15 0 = V → (tk M V.toNat x y 24 0 = tk M V.toNat x y (24 - i).toNat i) → 24 - i ≤ nM → jr A 0 xm_86 3 [(1, .long (Int64.ofInt (x))), (3, .int (Int32.ofInt (y))), (4, .int (Int32.ofInt (i))), (0, .ref (15))] [] M Q := by
  intro nM
  induction nM using Nat.strongRecOn with
  | ind nM ih =>
    intro i h_x h_y h_i g_V hy0 hm
    have b_V : 16 ≤ V ∧ V ≤ 17 := by rw [← g_V]; exact (CI.r hC_M (show kd 15 = 9 from rfl) (by decide) 0)
    refine jr.iload rfl rfl ?_
    refine jr.bipush rfl (jbp _ (nlt rfl)) ?_
    refine jr.icmp_ge rfl rfl (by first | (refine rgb (by assumption) ?_; exact rfl) | omega) (rgl rfl) (fun h7 => ?_) (fun h7 => ?_)
    · refine jr.iconst rfl ?_
      exact jr.ireturn rfl rfl rfl (q _ (by first | exact rgq rfl | omega) (by rw [hy0, show (24 - i).toNat = 0 from by omega]; rfl))
    · refine jr.aload_n rfl rfl ?_
      have k1 : kd (V).toNat = 13 := by rcases (show V = 16 ∨ V = 17 by omega) with h | h <;> (rw [h]; rfl)
      refine jr.getf (i := 0) (x := V) (v := .ref (V.toNat)) rfl rfl (nlt rfl) rfl (nlt rfl) rfl rfl g_V rfl ?_
      refine jr.iload rfl rfl ?_
      have k2 := kxe_13 k1 (i := i) (by omega) (by omega)
      refine jr.aald (c := (xe ((V.toNat)) i)) rfl (Nat.lt_trans (kx_13 k1).1 (by decide)) (kx_13 k1).2 (by decide) (by decide) rfl (by decide) (by omega) (by omega) k2.1 ?_
      refine jr.astore (ls' := [_, _, _, _, _]) rfl (nlt rfl) rfl ?_
      refine jr.aload rfl rfl ?_
      obtain ⟨v3, e3⟩ : ∃ z_, M ((xe ((V.toNat)) i)) 0 = z_ := ⟨_, rfl⟩
      have b3 : 0 ≤ v3 ∧ v3 ≤ 1 := by rw [← e3]; exact (CI.r hC_M k2.2 (by decide) 0)
      refine jr.getf (i := 0) (x := v3) (v := .int (Int32.ofInt (v3))) rfl rfl (Nat.lt_trans (kx_1 k2.2).1 (by decide)) (kx_1 k2.2).2 (by decide) rfl rfl e3 rfl ?_
      refine jr.if_eq rfl rfl (by first | (refine rgb (by assumption) ?_; exact rfl) | omega) (fun h24 => ?_) (fun h24 => ?_)
      · refine jr.iinc (ls' := [_, _, _, _, _]) rfl rfl (nlt rfl) rfl ?_
        refine jr.goto rfl rfl ?_
        refine jr.pick (ls := [_, _, _, _]) [2, 3, 0, 4] rfl rfl ?_
        exact ih (nM - 1) (by omega) (i + 1) (by omega) (by omega) (by omega) g_V (by rw [hy0, tk_s (by omega), if_neg (by omega)]) (by omega)
      · refine jr.aload rfl rfl ?_
        obtain ⟨v4, e4⟩ : ∃ z_, M ((xe ((V.toNat)) i)) 13 = z_ := ⟨_, rfl⟩
        have b4 : (-2147483648) ≤ v4 ∧ v4 ≤ 2147483647 := by rw [← e4]; exact (CI.r hC_M k2.2 (by decide) 13)
        refine jr.getf (i := 13) (x := v4) (v := .int (Int32.ofInt (v4))) rfl rfl (Nat.lt_trans (kx_1 k2.2).1 (by decide)) (kx_1 k2.2).2 (by decide) rfl rfl e4 rfl ?_
        refine jr.iconst rfl ?_
        refine jr.icmp_eq rfl rfl (by first | (refine rgb (by assumption) ?_; exact rfl) | omega) (rgl rfl) (fun h33 => ?_) (fun h33 => ?_)
        · refine jr.iinc (ls' := [_, _, _, _, _]) rfl rfl (nlt rfl) rfl ?_
          refine jr.goto rfl rfl ?_
          refine jr.pick (ls := [_, _, _, _]) [2, 3, 0, 4] rfl rfl ?_
          exact ih (nM - 1) (by omega) (i + 1) (by omega) (by omega) (by omega) g_V (by rw [hy0, tk_s (by omega), if_neg (by omega)]) (by omega)
        · refine jr.aload rfl rfl ?_
          obtain ⟨v5, e5⟩ : ∃ z_, M ((xe ((V.toNat)) i)) 14 = z_ := ⟨_, rfl⟩
          have b5 : (-9223372036854775808) ≤ v5 ∧ v5 ≤ 9223372036854775807 := by rw [← e5]; exact (CI.r hC_M k2.2 (by decide) 14)
          refine jr.getf (i := 14) (x := v5) (v := .long (Int64.ofInt (v5))) rfl rfl (Nat.lt_trans (kx_1 k2.2).1 (by decide)) (kx_1 k2.2).2 (by decide) rfl rfl e5 rfl ?_
          refine jr.lload_n rfl rfl ?_
          refine jr.lcmp_ne rfl rfl rfl (by omega) (by omega) (fun h42 => ?_) (fun h42 => ?_)
          · refine jr.iinc (ls' := [_, _, _, _, _]) rfl rfl (nlt rfl) rfl ?_
            refine jr.goto rfl rfl ?_
            refine jr.pick (ls := [_, _, _, _]) [2, 3, 0, 4] rfl rfl ?_
            exact ih (nM - 1) (by omega) (i + 1) (by omega) (by omega) (by omega) g_V (by rw [hy0, tk_s (by omega), if_neg (by omega)]) (by omega)
          · refine jr.aload rfl rfl ?_
            obtain ⟨v6, e6⟩ : ∃ z_, M ((xe ((V.toNat)) i)) 15 = z_ := ⟨_, rfl⟩
            have b6 : (-2147483648) ≤ v6 ∧ v6 ≤ 2147483647 := by rw [← e6]; exact (CI.r hC_M k2.2 (by decide) 15)
            refine jr.getf (i := 15) (x := v6) (v := .int (Int32.ofInt (v6))) rfl rfl (Nat.lt_trans (kx_1 k2.2).1 (by decide)) (kx_1 k2.2).2 (by decide) rfl rfl e6 rfl ?_
            refine jr.iload_n rfl rfl ?_
            refine jr.icmp_ne rfl rfl (by first | (refine rgb (by assumption) ?_; exact rfl) | omega) (by first | (refine rgb (by assumption) ?_; exact rfl) | omega) (fun h52 => ?_) (fun h52 => ?_)
            · refine jr.iinc (ls' := [_, _, _, _, _]) rfl rfl (nlt rfl) rfl ?_
              refine jr.goto rfl rfl ?_
              refine jr.pick (ls := [_, _, _, _]) [2, 3, 0, 4] rfl rfl ?_
              exact ih (nM - 1) (by omega) (i + 1) (by omega) (by omega) (by omega) g_V (by rw [hy0, tk_s (by omega), if_neg (by omega)]) (by omega)
            · refine jr.iconst rfl ?_
              exact jr.ireturn rfl rfl rfl (q _ (by first | exact rgq rfl | omega) (by rw [hy0, tk_s (by omega), if_pos (by omega)]))
theorem c_Flows_isPortTaken_x {A : Nat → Option (Nat × (Nat → Int32))} {Q : Option Value → jm → Prop} {M : jm} (hC_M : CI M) {x : Int} (h_x : (-9223372036854775808) ≤ x ∧ x ≤ 9223372036854775807) {y : Int} (h_y : (-2147483648) ≤ y ∧ y ≤ 2147483647) {V : Int} (g_V : M 15 0 = V) (q : ∀ (r : Int), 0 ≤ r ∧ r ≤ 1 → (r = tk M V.toNat x y 24 0) → Q (some (.int (Int32.ofInt r))) M) : jc A 1 86 [.ref (15), .long (Int64.ofInt (x)), .int (Int32.ofInt (y))] M Q := by
  refine jc_of (m := xm_86) rfl (Nat.le_of_ble_eq_true rfl) rfl ?_
  have b_V : 16 ≤ V ∧ V ≤ 17 := by rw [← g_V]; exact (CI.r hC_M (show kd 15 = 9 from rfl) (by decide) 0)
  refine jr.iconst rfl ?_
  refine jr.istore (ls' := [_, _, _, _]) rfl (nlt rfl) rfl ?_
  refine jr.pick (ls := [_, _, _, _]) [2, 3, 0, 1] rfl rfl ?_
  exact c_Flows_isPortTaken_x_L3 hC_M  q 24 0 (by omega) (by omega) (by omega) g_V rfl (by omega)
noncomputable def W_c_Flows_changeBy_x : List (Nat × Nat) := [(1, 13), (1, 14), (1, 15)]
theorem c_Flows_changeBy_x_L49 {A : Nat → Option (Nat × (Nat → Int32))} {Q : Option Value → jm → Prop} {T : jm} {x : Nat} (k_x : kd x = 1) {V : Int} {P : Int} {y : Int} (q : ∀ (r : Int) (M' : jm), CI M' → FR W_c_Flows_changeBy_x T M' → (-2147483648) ≤ r ∧ r ≤ 2147483647 → (((y < 0 ∨ 3 < y) ∧ r = -3 ∧ M' = T) ∨ ((0 ≤ y ∧ y ≤ 3) ∧ (T x 1 ≠ 0 ∨ T x 2 = 1 ∨ T x 13 ≠ -1 ∨ T 28 y = 0) ∧ r = -4 ∧ M' = T) ∨ (((0 ≤ y ∧ y ≤ 3) ∧ ¬ (T x 1 ≠ 0 ∨ T x 2 = 1 ∨ T x 13 ≠ -1 ∨ T 28 y = 0)) ∧ ((chf T V.toNat (T 26 y) (T 27 y) (T 28 y).toNat 0 = -1 ∧ r = -5 ∧ M' = T) ∨ (chf T V.toNat (T 26 y) (T 27 y) (T 28 y).toNat 0 ≠ -1 ∧ r = T 27 y + chf T V.toNat (T 26 y) (T 27 y) (T 28 y).toNat 0 ∧ M' = ju (ju (ju T x 13 y) x 14 (T 26 y)) x 15 (T 27 y + chf T V.toNat (T 26 y) (T 27 y) (T 28 y).toNat 0))))) → Q (some (.int (Int32.ofInt r))) M') : ∀ (nM : Nat) (M : jm) (i : Int), CI M → FR W_c_Flows_changeBy_x T M → 0 ≤ y ∧ y ≤ 3 → 0 ≤ i ∧ i ≤ 32 → M 15 0 = V → M 27 y = P → (chf T V.toNat (T 26 y) (T 27 y) (T 28 y).toNat 0 = chf T V.toNat (T 26 y) (T 27 y) (T 28 y - i).toNat i) → (M = T) → (0 ≤ P ∧ P ≤ 65535) → (¬ (T x 1 ≠ 0 ∨ T x 2 = 1 ∨ T x 13 ≠ -1 ∨ T 28 y = 0)) → 32 - i ≤ nM → jr A 1 xm_81 49 [(2, .int (Int32.ofInt (y))), (3, .int (Int32.ofInt (i))), (0, .ref (15)), (1, .ref (x))] [] M Q := by
  intro nM
  induction nM using Nat.strongRecOn with
  | ind nM ih =>
    intro M i hC_M ht_M h_y h_i g_V g_P hy0 hy1 hy2 hy3 hm
    have b_V : 16 ≤ V ∧ V ≤ 17 := by rw [← g_V]; exact (CI.r hC_M (show kd 15 = 9 from rfl) (by decide) 0)
    have b_P : (-2147483648) ≤ P ∧ P ≤ 2147483647 := by rw [← g_P]; exact (CI.r hC_M (show kd 27 = 11 from rfl) (by decide) y)
    refine jr.iload_n rfl rfl ?_
    refine jr.aload_n rfl rfl ?_
    refine jr.getf (i := 8) (v := .ref 28) rfl rfl (nlt rfl) rfl (nlt rfl) rfl rfl rfl rfl ?_
    refine jr.iload_n rfl rfl ?_
    obtain ⟨v1, e1⟩ : ∃ z_, M 28 y = z_ := ⟨_, rfl⟩
    have b1 : 0 ≤ v1 ∧ v1 ≤ 32 := by rw [← e1]; exact (CI.r hC_M (show kd 28 = 12 from rfl) (by decide) y)
    refine jr.iald (i := y) (x := v1) rfl (nlt rfl) rfl (Nat.le_of_ble_eq_true rfl) (by omega) (by omega) e1 ?_
    refine jr.icmp_ge rfl rfl (by first | (refine rgb (by assumption) ?_; exact rfl) | omega) (by first | (refine rgb (by assumption) ?_; exact rfl) | omega) (fun h56 => ?_) (fun h56 => ?_)
    · refine jr.bipush rfl (by decide) ?_
      exact jr.ireturn rfl rfl rfl (q _ _ hC_M ht_M (by first | exact rgq rfl | omega) (by have q1 : T 28 y = v1 := (by rw [← hy1]; exact e1); have q2 : T 27 y = P := (by rw [← hy1]; exact g_P); exact Or.inr (Or.inr ⟨⟨by omega, hy3⟩, Or.inl ⟨by rw [hy0, chf_e (by omega)], by omega, hy1⟩⟩)))
    · refine jr.aload_n rfl rfl ?_
      refine jr.aload_n rfl rfl ?_
      refine jr.getf (i := 6) (v := .ref 26) rfl rfl (nlt rfl) rfl (nlt rfl) rfl rfl rfl rfl ?_
      refine jr.iload_n rfl rfl ?_
      obtain ⟨v2, e2⟩ : ∃ z_, M 26 y = z_ := ⟨_, rfl⟩
      have b2 : (-9223372036854775808) ≤ v2 ∧ v2 ≤ 9223372036854775807 := by rw [← e2]; exact (CI.r hC_M (show kd 26 = 10 from rfl) (by decide) y)
      refine jr.lald (i := y) (x := v2) rfl (nlt rfl) rfl (Nat.le_of_ble_eq_true rfl) (by omega) (by omega) e2 ?_
      refine jr.aload_n rfl rfl ?_
      refine jr.getf (i := 7) (v := .ref 27) rfl rfl (nlt rfl) rfl (nlt rfl) rfl rfl rfl rfl ?_
      refine jr.iload_n rfl rfl ?_
      refine jr.iald (i := y) (x := P) rfl (nlt rfl) rfl (Nat.le_of_ble_eq_true rfl) (by omega) (by omega) g_P ?_
      refine jr.iload_n rfl rfl ?_
      refine jr.iadd rfl ?_
      refine jr_v rfl rfl (Or.inl rfl) rfl rfl (nlt rfl) rfl ⟨rfl, Nat.le_of_ble_eq_true rfl, Nat.le_of_ble_eq_true rfl⟩ rfl (jc.deep (c_Flows_isPortTaken_x hC_M (by omega) (by omega) g_V (fun r3 z3 w3_0 => ?_)) (Nat.le_of_ble_eq_true rfl))
      refine jr.if_ne rfl rfl (by first | (refine rgb (by assumption) ?_; exact rfl) | omega) (fun h77 => ?_) (fun h77 => ?_)
      · have sx77 : (1 : Int) ≤ r3 := by omega
        clear h77
        refine jr.iinc (ls' := [_, _, _, _]) rfl rfl (nlt rfl) rfl ?_
        refine jr.goto rfl rfl ?_
        refine jr.pick (ls := [_, _, _, _]) [1, 0, 2, 3] rfl rfl ?_
        exact ih (nM - 1) (by omega) M (i + 1) hC_M ht_M (by omega) (by omega) g_V g_P (by have q1 : T 28 y = v1 := (by rw [← hy1]; exact e1); have q2 : T 27 y = P := (by rw [← hy1]; exact g_P); have q3 : T 26 y = v2 := (by rw [← hy1]; exact e2); rw [hy0, q1, q2, q3, chf_s (by omega), if_neg (by rw [← hy1, ← w3_0]; omega)]) hy1 (by omega) hy3 (by omega)
      · refine jr.aload_n rfl rfl ?_
        refine jr.iload_n rfl rfl ?_
        refine jr.putf (i := 13) (x := y) rfl rfl (Nat.lt_trans (kx_1 k_x).1 (by decide)) (kx_1 k_x).2 (by decide) rfl rfl rfl rfl rfl ?_
        refine jr.aload_n rfl rfl ?_
        refine jr.aload_n rfl rfl ?_
        refine jr.getf (i := 6) (v := .ref 26) rfl rfl (nlt rfl) rfl (nlt rfl) rfl rfl rfl rfl ?_
        refine jr.iload_n rfl rfl ?_
        refine jr.lald (i := y) (x := v2) rfl (nlt rfl) rfl (Nat.le_of_ble_eq_true rfl) (by omega) (by omega) ((ju_c _ _ (kd_ne (by rw [(show kd 26 = 10 from rfl), k_x]; decide))).trans e2) ?_
        refine jr.putf (i := 14) (x := v2) rfl rfl (Nat.lt_trans (kx_1 k_x).1 (by decide)) (kx_1 k_x).2 (by decide) rfl rfl rfl rfl rfl ?_
        refine jr.aload_n rfl rfl ?_
        refine jr.aload_n rfl rfl ?_
        refine jr.getf (i := 7) (v := .ref 27) rfl rfl (nlt rfl) rfl (nlt rfl) rfl rfl rfl rfl ?_
        refine jr.iload_n rfl rfl ?_
        refine jr.iald (i := y) (x := P) rfl (nlt rfl) rfl (Nat.le_of_ble_eq_true rfl) (by omega) (by omega) ((ju_c _ _ (kd_ne (by rw [(show kd 27 = 11 from rfl), k_x]; decide))).trans ((ju_c _ _ (kd_ne (by rw [(show kd 27 = 11 from rfl), k_x]; decide))).trans g_P)) ?_
        refine jr.iload_n rfl rfl ?_
        refine jr.iadd rfl ?_
        refine jr.putf (i := 15) (x := (P + i)) rfl rfl (Nat.lt_trans (kx_1 k_x).1 (by decide)) (kx_1 k_x).2 (by decide) rfl rfl rfl rfl rfl ?_
        refine jr.aload_n rfl rfl ?_
        refine jr.getf (i := 15) (x := (P + i)) (v := .int (Int32.ofInt (P + i))) rfl rfl (Nat.lt_trans (kx_1 k_x).1 (by decide)) (kx_1 k_x).2 (by decide) rfl rfl (ju_same _ _ _ _) rfl ?_
        exact jr.ireturn rfl rfl rfl (q _ _ (CI.u (CI.u (CI.u hC_M (i := 13) k_x (show (-2147483648 : Int) ≤ _ ∧ _ ≤ (2147483647 : Int) from by omega) rfl) (i := 14) k_x (show (-9223372036854775808 : Int) ≤ _ ∧ _ ≤ (9223372036854775807 : Int) from by omega) rfl) (i := 15) k_x (show (-2147483648 : Int) ≤ _ ∧ _ ≤ (2147483647 : Int) from by omega) rfl) (FR.o (FR.o (FR.o ht_M k_x rfl) k_x rfl) k_x rfl) (by omega) (by have q1 : T 28 y = v1 := (by rw [← hy1]; exact e1); have q2 : T 27 y = P := (by rw [← hy1]; exact g_P); have q3 : T 26 y = v2 := (by rw [← hy1]; exact e2); have hq : chf T V.toNat (T 26 y) (T 27 y) (T 28 y).toNat 0 = i := (by rw [hy0, q1, q2, q3, chf_s (by omega), if_pos (by rw [← hy1, ← w3_0]; omega)]); exact Or.inr (Or.inr ⟨⟨by omega, hy3⟩, Or.inr ⟨by rw [hq]; omega, by rw [hq, q2], by rw [hq, q2, q3, hy1]⟩⟩)))
theorem c_Flows_changeBy_x {A : Nat → Option (Nat × (Nat → Int32))} {Q : Option Value → jm → Prop} {T : jm} {M : jm} (hC_M : CI M) (ht_M : FR W_c_Flows_changeBy_x T M) {x : Nat} (k_x : kd x = 1) {y : Int} (h_y : (-2147483648) ≤ y ∧ y ≤ 2147483647) {V : Int} (g_V : M 15 0 = V) {P : Int} (g_P : M 27 y = P) (p0 : T = M) (p1 : 0 ≤ P ∧ P ≤ 65535) (q : ∀ (r : Int) (M' : jm), CI M' → FR W_c_Flows_changeBy_x T M' → (-2147483648) ≤ r ∧ r ≤ 2147483647 → (((y < 0 ∨ 3 < y) ∧ r = -3 ∧ M' = T) ∨ ((0 ≤ y ∧ y ≤ 3) ∧ (T x 1 ≠ 0 ∨ T x 2 = 1 ∨ T x 13 ≠ -1 ∨ T 28 y = 0) ∧ r = -4 ∧ M' = T) ∨ (((0 ≤ y ∧ y ≤ 3) ∧ ¬ (T x 1 ≠ 0 ∨ T x 2 = 1 ∨ T x 13 ≠ -1 ∨ T 28 y = 0)) ∧ ((chf T V.toNat (T 26 y) (T 27 y) (T 28 y).toNat 0 = -1 ∧ r = -5 ∧ M' = T) ∨ (chf T V.toNat (T 26 y) (T 27 y) (T 28 y).toNat 0 ≠ -1 ∧ r = T 27 y + chf T V.toNat (T 26 y) (T 27 y) (T 28 y).toNat 0 ∧ M' = ju (ju (ju T x 13 y) x 14 (T 26 y)) x 15 (T 27 y + chf T V.toNat (T 26 y) (T 27 y) (T 28 y).toNat 0))))) → Q (some (.int (Int32.ofInt r))) M') : jc A 2 81 [.ref (15), .ref (x), .int (Int32.ofInt (y))] M Q := by
  refine jc_of (m := xm_81) rfl (Nat.le_of_ble_eq_true rfl) rfl ?_
  have b_V : 16 ≤ V ∧ V ≤ 17 := by rw [← g_V]; exact (CI.r hC_M (show kd 15 = 9 from rfl) (by decide) 0)
  have b_P : (-2147483648) ≤ P ∧ P ≤ 2147483647 := by rw [← g_P]; exact (CI.r hC_M (show kd 27 = 11 from rfl) (by decide) y)
  refine jr.iload_n rfl rfl ?_
  refine jr.if_lt rfl rfl (by first | (refine rgb (by assumption) ?_; exact rfl) | omega) (fun h1 => ?_) (fun h1 => ?_)
  · refine jr.bipush rfl (by decide) ?_
    exact jr.ireturn rfl rfl rfl (q _ _ hC_M ht_M (by first | exact rgq rfl | omega) (by rw [p0]; first | exact Or.inl ⟨by omega, by omega, rfl⟩ | exact Or.inr (Or.inl ⟨by omega, by omega, by omega, rfl⟩)))
  · refine jr.iload_n rfl rfl ?_
    refine jr.iconst rfl ?_
    refine jr.icmp_lt rfl rfl (by first | (refine rgb (by assumption) ?_; exact rfl) | omega) (rgl rfl) (fun h6 => ?_) (fun h6 => ?_)
    · refine jr.aload_n rfl rfl ?_
      obtain ⟨v1, e1⟩ : ∃ z_, M x 1 = z_ := ⟨_, rfl⟩
      have b1 : 0 ≤ v1 ∧ v1 ≤ 1 := by rw [← e1]; exact (CI.r hC_M k_x (by decide) 1)
      refine jr.getf (i := 1) (x := v1) (v := .int (Int32.ofInt (v1))) rfl rfl (Nat.lt_trans (kx_1 k_x).1 (by decide)) (kx_1 k_x).2 (by decide) rfl rfl e1 rfl ?_
      refine jr.if_ne rfl rfl (by first | (refine rgb (by assumption) ?_; exact rfl) | omega) (fun h16 => ?_) (fun h16 => ?_)
      · have sx16 : (1 : Int) ≤ v1 := by omega
        clear h16
        refine jr.bipush rfl (by decide) ?_
        exact jr.ireturn rfl rfl rfl (q _ _ hC_M ht_M (by first | exact rgq rfl | omega) (by rw [p0]; first | exact Or.inl ⟨by omega, by omega, rfl⟩ | exact Or.inr (Or.inl ⟨by omega, by omega, by omega, rfl⟩)))
      · refine jr.aload_n rfl rfl ?_
        obtain ⟨v2, e2⟩ : ∃ z_, M x 2 = z_ := ⟨_, rfl⟩
        have b2 : (-2147483648) ≤ v2 ∧ v2 ≤ 2147483647 := by rw [← e2]; exact (CI.r hC_M k_x (by decide) 2)
        refine jr.getf (i := 2) (x := v2) (v := .int (Int32.ofInt (v2))) rfl rfl (Nat.lt_trans (kx_1 k_x).1 (by decide)) (kx_1 k_x).2 (by decide) rfl rfl e2 rfl ?_
        refine jr.iconst rfl ?_
        refine jr.icmp_eq rfl rfl (by first | (refine rgb (by assumption) ?_; exact rfl) | omega) (rgl rfl) (fun h24 => ?_) (fun h24 => ?_)
        · refine jr.bipush rfl (by decide) ?_
          exact jr.ireturn rfl rfl rfl (q _ _ hC_M ht_M (by first | exact rgq rfl | omega) (by rw [p0]; first | exact Or.inl ⟨by omega, by omega, rfl⟩ | exact Or.inr (Or.inl ⟨by omega, by omega, by omega, rfl⟩)))
        · refine jr.aload_n rfl rfl ?_
          obtain ⟨v3, e3⟩ : ∃ z_, M x 13 = z_ := ⟨_, rfl⟩
          have b3 : (-2147483648) ≤ v3 ∧ v3 ≤ 2147483647 := by rw [← e3]; exact (CI.r hC_M k_x (by decide) 13)
          refine jr.getf (i := 13) (x := v3) (v := .int (Int32.ofInt (v3))) rfl rfl (Nat.lt_trans (kx_1 k_x).1 (by decide)) (kx_1 k_x).2 (by decide) rfl rfl e3 rfl ?_
          refine jr.iconst rfl ?_
          refine jr.icmp_ne rfl rfl (by first | (refine rgb (by assumption) ?_; exact rfl) | omega) (rgl rfl) (fun h32 => ?_) (fun h32 => ?_)
          · refine jr.bipush rfl (by decide) ?_
            exact jr.ireturn rfl rfl rfl (q _ _ hC_M ht_M (by first | exact rgq rfl | omega) (by rw [p0]; first | exact Or.inl ⟨by omega, by omega, rfl⟩ | exact Or.inr (Or.inl ⟨by omega, by omega, by omega, rfl⟩)))
          · refine jr.aload_n rfl rfl ?_
            refine jr.getf (i := 8) (v := .ref 28) rfl rfl (nlt rfl) rfl (nlt rfl) rfl rfl rfl rfl ?_
            refine jr.iload_n rfl rfl ?_
            obtain ⟨v4, e4⟩ : ∃ z_, M 28 y = z_ := ⟨_, rfl⟩
            have b4 : 0 ≤ v4 ∧ v4 ≤ 32 := by rw [← e4]; exact (CI.r hC_M (show kd 28 = 12 from rfl) (by decide) y)
            refine jr.iald (i := y) (x := v4) rfl (nlt rfl) rfl (Nat.le_of_ble_eq_true rfl) (by omega) (by omega) e4 ?_
            refine jr.if_ne rfl rfl (by first | (refine rgb (by assumption) ?_; exact rfl) | omega) (fun h41 => ?_) (fun h41 => ?_)
            · have sx41 : (1 : Int) ≤ v4 := by omega
              clear h41
              refine jr.iconst rfl ?_
              refine jr.istore_n (ls' := [_, _, _, _]) rfl (nlt rfl) rfl ?_
              refine jr.pick (ls := [_, _, _, _]) [3, 0, 1, 2] rfl rfl ?_
              exact c_Flows_changeBy_x_L49 k_x q 32 M 0 hC_M ht_M (by omega) (by omega) g_V g_P (by rw [show T 28 y - 0 = T 28 y from by omega]) p0.symm (by omega) (by rw [p0]; omega) (by omega)
            · refine jr.bipush rfl (by decide) ?_
              exact jr.ireturn rfl rfl rfl (q _ _ hC_M ht_M (by first | exact rgq rfl | omega) (by rw [p0]; first | exact Or.inl ⟨by omega, by omega, rfl⟩ | exact Or.inr (Or.inl ⟨by omega, by omega, by omega, rfl⟩)))
    · refine jr.bipush rfl (by decide) ?_
      exact jr.ireturn rfl rfl rfl (q _ _ hC_M ht_M (by first | exact rgq rfl | omega) (by rw [p0]; first | exact Or.inl ⟨by omega, by omega, rfl⟩ | exact Or.inr (Or.inl ⟨by omega, by omega, by omega, rfl⟩)))
noncomputable def W_c_PacketWall_change_x : List (Nat × Nat) := [(1, 13), (1, 14), (1, 15)]
theorem c_PacketWall_change_x {A : Nat → Option (Nat × (Nat → Int32))} {Q : Option Value → jm → Prop} {T : jm} {M : jm} (hC_M : CI M) (ht_M : FR W_c_PacketWall_change_x T M) {x : Int} (h_x : (-2147483648) ≤ x ∧ x ≤ 2147483647) {y : Int} (h_y : (-2147483648) ≤ y ∧ y ≤ 2147483647) {V : Int} (g_V : M 15 0 = V) {P : Int} (g_P : M 27 y = P) (p0 : T = M) (p1 : 0 ≤ P ∧ P ≤ 65535) (q : ∀ (r : Int) (M' : jm), CI M' → FR W_c_PacketWall_change_x T M' → (-2147483648) ≤ r ∧ r ≤ 2147483647 → (((x < 0 ∨ 23 < x ∨ T (xe (V.toNat) x) 0 = 0) ∧ r = -2 ∧ M' = T) ∨ (((0 ≤ x ∧ x ≤ 23) ∧ T (xe (V.toNat) x) 0 ≠ 0) ∧ (((y < 0 ∨ 3 < y) ∧ r = -3 ∧ M' = T) ∨ ((0 ≤ y ∧ y ≤ 3) ∧ (T (xe (V.toNat) x) 1 ≠ 0 ∨ T (xe (V.toNat) x) 2 = 1 ∨ T (xe (V.toNat) x) 13 ≠ -1 ∨ T 28 y = 0) ∧ r = -4 ∧ M' = T) ∨ (((0 ≤ y ∧ y ≤ 3) ∧ ¬ (T (xe (V.toNat) x) 1 ≠ 0 ∨ T (xe (V.toNat) x) 2 = 1 ∨ T (xe (V.toNat) x) 13 ≠ -1 ∨ T 28 y = 0)) ∧ ((chf T V.toNat (T 26 y) (T 27 y) (T 28 y).toNat 0 = -1 ∧ r = -5 ∧ M' = T) ∨ (chf T V.toNat (T 26 y) (T 27 y) (T 28 y).toNat 0 ≠ -1 ∧ r = T 27 y + chf T V.toNat (T 26 y) (T 27 y) (T 28 y).toNat 0 ∧ M' = ju (ju (ju T (xe (V.toNat) x) 13 y) (xe (V.toNat) x) 14 (T 26 y)) (xe (V.toNat) x) 15 (T 27 y + chf T V.toNat (T 26 y) (T 27 y) (T 28 y).toNat 0))))))) → Q (some (.int (Int32.ofInt r))) M') : jc A 3 24 [.ref (0), .int (Int32.ofInt (x)), .int (Int32.ofInt (y))] M Q := by
  refine jc_of (m := xm_24) rfl (Nat.le_of_ble_eq_true rfl) rfl ?_
  have b_V : 16 ≤ V ∧ V ≤ 17 := by rw [← g_V]; exact (CI.r hC_M (show kd 15 = 9 from rfl) (by decide) 0)
  have b_P : (-2147483648) ≤ P ∧ P ≤ 2147483647 := by rw [← g_P]; exact (CI.r hC_M (show kd 27 = 11 from rfl) (by decide) y)
  refine jr.aload_n rfl rfl ?_
  refine jr.getf (i := 9) (v := .ref 15) rfl rfl (nlt rfl) rfl (nlt rfl) rfl rfl rfl rfl ?_
  refine jr.iload_n rfl rfl ?_
  refine jr_v rfl rfl (Or.inl rfl) rfl rfl (nlt rfl) rfl ⟨rfl, Nat.le_of_ble_eq_true rfl, Nat.le_of_ble_eq_true rfl⟩ rfl (jc.deep (c_Flows_isLive_x hC_M (by omega) g_V (fun r1 z1 w1_0 w1_1 => ?_)) (Nat.le_of_ble_eq_true rfl))
  refine jr.if_ne rfl rfl (by first | (refine rgb (by assumption) ?_; exact rfl) | omega) (fun h8 => ?_) (fun h8 => ?_)
  · have sx8 : (1 : Int) ≤ r1 := by omega
    clear h8
    refine jr.aload_n rfl rfl ?_
    refine jr.getf (i := 9) (v := .ref 15) rfl rfl (nlt rfl) rfl (nlt rfl) rfl rfl rfl rfl ?_
    refine jr.aload_n rfl rfl ?_
    refine jr.getf (i := 9) (v := .ref 15) rfl rfl (nlt rfl) rfl (nlt rfl) rfl rfl rfl rfl ?_
    have k2 : kd (V).toNat = 13 := by rcases (show V = 16 ∨ V = 17 by omega) with h | h <;> (rw [h]; rfl)
    refine jr.getf (i := 0) (x := V) (v := .ref (V.toNat)) rfl rfl (nlt rfl) rfl (nlt rfl) rfl rfl g_V rfl ?_
    refine jr.iload_n rfl rfl ?_
    have k3 := kxe_13 k2 (i := x) (by omega) (by omega)
    refine jr.aald (c := (xe ((V.toNat)) x)) rfl (Nat.lt_trans (kx_13 k2).1 (by decide)) (kx_13 k2).2 (by decide) (by decide) rfl (by decide) (by omega) (by omega) k3.1 ?_
    refine jr.iload_n rfl rfl ?_
    refine jr_v rfl rfl (Or.inl rfl) rfl rfl (nlt rfl) rfl ⟨rfl, Nat.le_of_ble_eq_true rfl, Nat.le_of_ble_eq_true rfl⟩ rfl (jc.deep (c_Flows_changeBy_x hC_M (FR.rfl _ M) k3.2 (by omega) g_V g_P rfl (by omega) (fun r4 M4 hC_M4 hf_M4 z4 w4_0 => ?_)) (Nat.le_of_ble_eq_true rfl))
    have ht_M4 : FR W_c_PacketWall_change_x T M4 := FR.t ht_M hf_M4 (kw_sub rfl)
    exact jr.ireturn rfl rfl rfl (q _ _ hC_M4 ht_M4 (by omega) (Or.inr ⟨by rw [p0]; omega, by rw [p0]; exact w4_0⟩))
  · refine jr.bipush rfl (by decide) ?_
    exact jr.ireturn rfl rfl rfl (q _ _ hC_M ht_M (by first | exact rgq rfl | omega) (Or.inl ⟨by rw [p0]; omega, by omega, p0.symm⟩))
end
section
/-! ===== the reference: flows: figures, pools, change ===== -/
noncomputable def fg6 (M : jm) (f w : Int) : Int := if w = 0 then M 629 f else if w = 1 then M 638 f else if w = 2 then M 631 (2 * f) else if w = 3 then M 631 (2 * f + 1) else if w = 4 then j_w (M 639 f - M 598 2) else if w = 5 then (if M 632 (2 * f) = 0 then 0 else M 633 (2 * f)) else if w = 6 then (if M 632 (2 * f + 1) = 0 then 0 else M 633 (2 * f + 1)) else if w = 7 then M 635 (2 * f) else if w = 8 then M 635 (2 * f + 1) else if w = 9 then (if M 640 f = -1 then -1 else M 642 f) else if w = 10 then (if M 628 f = 0 then 0 else 1) else -3
noncomputable def fl6 (M : jm) (f w : Int) : Int := if w = 0 then M 630 (2 * f) else if w = 1 then M 630 (2 * f + 1) else if w = 2 then M 636 (2 * f) else if w = 3 then M 636 (2 * f + 1) else if w = 4 then M 637 (2 * f) else if w = 5 then M 637 (2 * f + 1) else -1
noncomputable def pu6 (M : jm) (k : Int) : Nat → Int → Int
  | 0, _ => 0
  | n + 1, i => if M 627 i ≠ 0 ∧ M 640 i = k then 1 else pu6 M k n (i + 1)
theorem pu6_s {M : jm} {k i : Int} (h : i < 24) : pu6 M k (24 - i).toNat i = if M 627 i ≠ 0 ∧ M 640 i = k then 1 else pu6 M k (24 - (i + 1)).toNat (i + 1) := by
  obtain ⟨n, hn⟩ : ∃ n : Nat, i = 23 - n := ⟨(23 - i).toNat, by omega⟩
  subst hn
  rw [show (24 - (23 - (n : Int))).toNat = n + 1 by omega, show (24 - (23 - (n : Int) + 1)).toNat = n by omega]
  rfl
noncomputable def tk6 (M : jm) (a o : Int) : Nat → Int → Int
  | 0, _ => 0
  | n + 1, i => if M 627 i ≠ 0 ∧ M 640 i ≠ -1 ∧ M 641 i = a ∧ M 642 i = o then 1 else tk6 M a o n (i + 1)
theorem tk6_s {M : jm} {a o i : Int} (h : i < 24) : tk6 M a o (24 - i).toNat i = if M 627 i ≠ 0 ∧ M 640 i ≠ -1 ∧ M 641 i = a ∧ M 642 i = o then 1 else tk6 M a o (24 - (i + 1)).toNat (i + 1) := by
  obtain ⟨n, hn⟩ : ∃ n : Nat, i = 23 - n := ⟨(23 - i).toNat, by omega⟩
  subst hn
  rw [show (24 - (23 - (n : Int))).toNat = n + 1 by omega, show (24 - (23 - (n : Int) + 1)).toNat = n by omega]
  rfl
theorem r_flow_x {A : Nat → Option (Nat × (Nat → Int32))} {Q : Option Value → jm → Prop} {M : jm} (hI_M : RI M) (hH_M : RH M) (hS_M : RF M) {f : Int} (h_f : (-2147483648) ≤ f ∧ f ≤ 2147483647) {w : Int} (h_w : (-2147483648) ≤ w ∧ w ≤ 2147483647) (q : ∀ (r : Int) (M' : jm), RI M' → RH M' → RF M' → (-2147483648) ≤ r ∧ r ≤ 2147483647 → (((f < 0 ∨ 23 < f ∨ M 627 f = 0) ∧ r = -2) ∨ (((0 ≤ f ∧ f ≤ 23) ∧ M 627 f ≠ 0) ∧ r = fg6 M f w)) → M' = M → (∀ (a : Nat) (i : Int), a ≠ 598 → M' a i = M a i) → (∀ (i : Int), i ≠ 1 → M' 598 i = M 598 i) → Q (some (.int (Int32.ofInt r))) M') : jc A 3 316 [.ref (598), .int (Int32.ofInt (f)), .int (Int32.ofInt (w))] M Q := by
  refine jc_of (m := xm_316) rfl (Nat.le_of_ble_eq_true rfl) rfl ?_
  refine jr.aload_n rfl rfl ?_
  refine jr.iload_n rfl rfl ?_
  refine jr_v rfl rfl (Or.inl rfl) rfl rfl (nlt rfl) rfl ⟨rfl, Nat.le_of_ble_eq_true rfl, Nat.le_of_ble_eq_true rfl⟩ rfl (jc.deep (c_isFlow hI_M (by omega) (fun l2 u2 t2 => ?_) (fun n2 => ?_)) (Nat.le_of_ble_eq_true rfl))
  · refine jr.if_ne rfl rfl (by first | exact rgl rfl | omega) (fun _ => ?_) (fun h => absurd (by decide) h)
    refine jr.iload_n rfl rfl ?_
    rcases (show w = 0 ∨ w = 1 ∨ w = 2 ∨ w = 3 ∨ w = 4 ∨ w = 5 ∨ w = 6 ∨ w = 7 ∨ w = 8 ∨ w = 9 ∨ (w ≠ 0 ∧ w ≠ 1 ∧ w ≠ 2 ∧ w ≠ 3 ∧ w ≠ 4 ∧ w ≠ 5 ∧ w ≠ 6 ∧ w ≠ 7 ∧ w ≠ 8 ∧ w ≠ 9) by omega) with h12 | h12 | h12 | h12 | h12 | h12 | h12 | h12 | h12 | h12 | h12
    · refine jr.tsw_k 0 rfl h12 rfl ?_
      refine jr.aload_n rfl rfl ?_
      refine jr.getf (i := 41) (v := .ref 629) rfl rfl (nlt rfl) rfl (nlt rfl) rfl rfl rfl rfl ?_
      refine jr.iload_n rfl rfl ?_
      obtain ⟨v1, e1⟩ : ∃ z, M 629 f = z := ⟨_, rfl⟩
      have b1 : 0 ≤ v1 ∧ v1 ≤ 255 := by rw [← e1]; exact (by have q := hI_M 629 f (Nat.le_of_ble_eq_true rfl); rw [xri_row rfl rfl] at q; exact q)
      refine jr.iald (i := f) (x := v1) rfl (nlt rfl) rfl (Nat.le_of_ble_eq_true rfl) (by omega) (by omega) e1 ?_
      exact jr.ireturn rfl rfl rfl (q _ _ hI_M hH_M hS_M  (by omega) (Or.inr ⟨by omega, by unfold fg6; rw [if_pos (by omega)]; omega⟩) rfl (fun a i f598 => rfl) (fun i g1 => rfl))
    · refine jr.tsw_k 1 rfl h12 rfl ?_
      refine jr.aload_n rfl rfl ?_
      refine jr.getf (i := 50) (v := .ref 638) rfl rfl (nlt rfl) rfl (nlt rfl) rfl rfl rfl rfl ?_
      refine jr.iload_n rfl rfl ?_
      obtain ⟨v2, e2⟩ : ∃ z, M 638 f = z := ⟨_, rfl⟩
      have b2 : 0 ≤ v2 ∧ v2 ≤ 15 := by rw [← e2]; exact (by have q := hI_M 638 f (Nat.le_of_ble_eq_true rfl); rw [xri_row rfl rfl] at q; exact q)
      refine jr.iald (i := f) (x := v2) rfl (nlt rfl) rfl (Nat.le_of_ble_eq_true rfl) (by omega) (by omega) e2 ?_
      exact jr.ireturn rfl rfl rfl (q _ _ hI_M hH_M hS_M  (by omega) (Or.inr ⟨by omega, by unfold fg6; rw [if_neg (by omega), if_pos (by omega)]; omega⟩) rfl (fun a i f598 => rfl) (fun i g1 => rfl))
    · refine jr.tsw_k 2 rfl h12 rfl ?_
      refine jr.aload_n rfl rfl ?_
      refine jr.getf (i := 43) (v := .ref 631) rfl rfl (nlt rfl) rfl (nlt rfl) rfl rfl rfl rfl ?_
      refine jr.iconst rfl ?_
      refine jr.iload_n rfl rfl ?_
      refine jr.imul rfl ?_
      refine jr.iload_n rfl rfl ?_
      refine jr.iadd rfl ?_
      refine jr.iconst rfl ?_
      refine jr.isub rfl ?_
      obtain ⟨v3, e3⟩ : ∃ z, M 631 (((2 * f) + w) - 2) = z := ⟨_, rfl⟩
      have b3 : 0 ≤ v3 ∧ v3 ≤ 65535 := by rw [← e3]; exact (by have q := hI_M 631 (((2 * f) + w) - 2) (by decide); rw [xri_row rfl rfl] at q; exact q)
      refine jr.iald (i := (((2 * f) + w) - 2)) (x := v3) rfl (nlt rfl) rfl (Nat.le_of_ble_eq_true rfl) (by omega) (by omega) e3 ?_
      exact jr.ireturn rfl rfl rfl (q _ _ hI_M hH_M hS_M  (by omega) (Or.inr ⟨by omega, by have x0 : M 631 (((2 * f) + w) - 2) = v3 := e3; rw [show ((2 * f) + w) - 2 = 2 * f from by omega] at x0; unfold fg6; rw [if_neg (by omega), if_neg (by omega), if_pos (by omega)]; omega⟩) rfl (fun a i f598 => rfl) (fun i g1 => rfl))
    · refine jr.tsw_k 3 rfl h12 rfl ?_
      refine jr.aload_n rfl rfl ?_
      refine jr.getf (i := 43) (v := .ref 631) rfl rfl (nlt rfl) rfl (nlt rfl) rfl rfl rfl rfl ?_
      refine jr.iconst rfl ?_
      refine jr.iload_n rfl rfl ?_
      refine jr.imul rfl ?_
      refine jr.iload_n rfl rfl ?_
      refine jr.iadd rfl ?_
      refine jr.iconst rfl ?_
      refine jr.isub rfl ?_
      obtain ⟨v4, e4⟩ : ∃ z, M 631 (((2 * f) + w) - 2) = z := ⟨_, rfl⟩
      have b4 : 0 ≤ v4 ∧ v4 ≤ 65535 := by rw [← e4]; exact (by have q := hI_M 631 (((2 * f) + w) - 2) (by decide); rw [xri_row rfl rfl] at q; exact q)
      refine jr.iald (i := (((2 * f) + w) - 2)) (x := v4) rfl (nlt rfl) rfl (Nat.le_of_ble_eq_true rfl) (by omega) (by omega) e4 ?_
      exact jr.ireturn rfl rfl rfl (q _ _ hI_M hH_M hS_M  (by omega) (Or.inr ⟨by omega, by have x0 : M 631 (((2 * f) + w) - 2) = v4 := e4; rw [show ((2 * f) + w) - 2 = 2 * f + 1 from by omega] at x0; unfold fg6; rw [if_neg (by omega), if_neg (by omega), if_neg (by omega), if_pos (by omega)]; omega⟩) rfl (fun a i f598 => rfl) (fun i g1 => rfl))
    · refine jr.tsw_k 4 rfl h12 rfl ?_
      refine jr.aload_n rfl rfl ?_
      refine jr.getf (i := 51) (v := .ref 639) rfl rfl (nlt rfl) rfl (nlt rfl) rfl rfl rfl rfl ?_
      refine jr.iload_n rfl rfl ?_
      obtain ⟨v5, e5⟩ : ∃ z, M 639 f = z := ⟨_, rfl⟩
      have b5 : (-2147483648) ≤ v5 ∧ v5 ≤ 2147483647 := by rw [← e5]; exact (by have q := hI_M 639 f (Nat.le_of_ble_eq_true rfl); rw [xri_row rfl rfl] at q; exact q)
      refine jr.iald (i := f) (x := v5) rfl (nlt rfl) rfl (Nat.le_of_ble_eq_true rfl) (by omega) (by omega) e5 ?_
      refine jr.aload_n rfl rfl ?_
      obtain ⟨v6, e6⟩ : ∃ z, M 598 2 = z := ⟨_, rfl⟩
      have b6 : 0 ≤ v6 ∧ v6 ≤ 2000000 := by rw [← e6]; exact hI_M 598 2 (Nat.le_of_ble_eq_true rfl)
      refine jr.getf (i := 2) (x := v6) (v := .int (Int32.ofInt (v6))) rfl rfl (nlt rfl) rfl (nlt rfl) rfl rfl e6 rfl ?_
      refine jr.isub rfl ?_
      refine jr.iw (j_w (v5 - v6)) (j_w_eq _) ?_
      have b7 : -2147483648 ≤ j_w (v5 - v6) ∧ j_w (v5 - v6) ≤ 2147483647 := jb_any _
      exact jr.ireturn rfl rfl rfl (q _ _ hI_M hH_M hS_M  (by omega) (Or.inr ⟨by omega, by unfold fg6; rw [if_neg (by omega), if_neg (by omega), if_neg (by omega), if_neg (by omega), if_pos (by omega)]; rw [e5, e6]⟩) rfl (fun a i f598 => rfl) (fun i g1 => rfl))
    · refine jr.tsw_k 5 rfl h12 rfl ?_
      refine jr.aload_n rfl rfl ?_
      refine jr.getf (i := 44) (v := .ref 632) rfl rfl (nlt rfl) rfl (nlt rfl) rfl rfl rfl rfl ?_
      refine jr.iconst rfl ?_
      refine jr.iload_n rfl rfl ?_
      refine jr.imul rfl ?_
      refine jr.iload_n rfl rfl ?_
      refine jr.iadd rfl ?_
      refine jr.iconst rfl ?_
      refine jr.isub rfl ?_
      obtain ⟨v8, e8⟩ : ∃ z, M 632 (((2 * f) + w) - 5) = z := ⟨_, rfl⟩
      have b8 : 0 ≤ v8 ∧ v8 ≤ 1 := by rw [← e8]; exact (by have q := hI_M 632 (((2 * f) + w) - 5) (by decide); rw [xri_row rfl rfl] at q; exact q)
      refine jr.zald (i := (((2 * f) + w) - 5)) (x := v8) rfl (nlt rfl) rfl (Nat.le_of_ble_eq_true rfl) (by omega) (by omega) e8 ?_
      refine jr.if_eq rfl rfl (by first | (refine rgb (by assumption) ?_; exact rfl) | omega) (fun h119 => ?_) (fun h119 => ?_)
      · refine jr.iconst rfl ?_
        exact jr.ireturn rfl rfl rfl (q _ _ hI_M hH_M hS_M  (by first | exact rgq rfl | omega) (Or.inr ⟨by omega, by have x0 : M 632 (((2 * f) + w) - 5) = v8 := e8; rw [show ((2 * f) + w) - 5 = 2 * f from by omega] at x0; unfold fg6; rw [if_neg (by omega), if_neg (by omega), if_neg (by omega), if_neg (by omega), if_neg (by omega), if_pos (by omega)]; first | (rw [if_pos (by omega)]; done) | (rw [if_neg (by omega)]; done) | (rw [if_pos (by omega)]; omega) | (rw [if_neg (by omega)]; omega)⟩) rfl (fun a i f598 => rfl) (fun i g1 => rfl))
      · have sx119 : (1 : Int) ≤ v8 := by omega
        clear h119
        refine jr.aload_n rfl rfl ?_
        refine jr.getf (i := 45) (v := .ref 633) rfl rfl (nlt rfl) rfl (nlt rfl) rfl rfl rfl rfl ?_
        refine jr.iconst rfl ?_
        refine jr.iload_n rfl rfl ?_
        refine jr.imul rfl ?_
        refine jr.iload_n rfl rfl ?_
        refine jr.iadd rfl ?_
        refine jr.iconst rfl ?_
        refine jr.isub rfl ?_
        obtain ⟨v9, e9⟩ : ∃ z, M 633 (((2 * f) + w) - 5) = z := ⟨_, rfl⟩
        have b9 : (-2147483648) ≤ v9 ∧ v9 ≤ 2147483647 := by rw [← e9]; exact (by have q := hI_M 633 (((2 * f) + w) - 5) (by decide); rw [xri_row rfl rfl] at q; exact q)
        refine jr.iald (i := (((2 * f) + w) - 5)) (x := v9) rfl (nlt rfl) rfl (Nat.le_of_ble_eq_true rfl) (by omega) (by omega) e9 ?_
        refine jr.goto rfl rfl ?_
        exact jr.ireturn rfl rfl rfl (q _ _ hI_M hH_M hS_M  (by omega) (Or.inr ⟨by omega, by have x0 : M 632 (((2 * f) + w) - 5) = v8 := e8; rw [show ((2 * f) + w) - 5 = 2 * f from by omega] at x0; have x1 : M 633 (((2 * f) + w) - 5) = v9 := e9; rw [show ((2 * f) + w) - 5 = 2 * f from by omega] at x1; unfold fg6; rw [if_neg (by omega), if_neg (by omega), if_neg (by omega), if_neg (by omega), if_neg (by omega), if_pos (by omega)]; first | (rw [if_pos (by omega)]; done) | (rw [if_neg (by omega)]; done) | (rw [if_pos (by omega)]; omega) | (rw [if_neg (by omega)]; omega)⟩) rfl (fun a i f598 => rfl) (fun i g1 => rfl))
    · refine jr.tsw_k 6 rfl h12 rfl ?_
      refine jr.aload_n rfl rfl ?_
      refine jr.getf (i := 44) (v := .ref 632) rfl rfl (nlt rfl) rfl (nlt rfl) rfl rfl rfl rfl ?_
      refine jr.iconst rfl ?_
      refine jr.iload_n rfl rfl ?_
      refine jr.imul rfl ?_
      refine jr.iload_n rfl rfl ?_
      refine jr.iadd rfl ?_
      refine jr.iconst rfl ?_
      refine jr.isub rfl ?_
      obtain ⟨v10, e10⟩ : ∃ z, M 632 (((2 * f) + w) - 5) = z := ⟨_, rfl⟩
      have b10 : 0 ≤ v10 ∧ v10 ≤ 1 := by rw [← e10]; exact (by have q := hI_M 632 (((2 * f) + w) - 5) (by decide); rw [xri_row rfl rfl] at q; exact q)
      refine jr.zald (i := (((2 * f) + w) - 5)) (x := v10) rfl (nlt rfl) rfl (Nat.le_of_ble_eq_true rfl) (by omega) (by omega) e10 ?_
      refine jr.if_eq rfl rfl (by first | (refine rgb (by assumption) ?_; exact rfl) | omega) (fun h119 => ?_) (fun h119 => ?_)
      · refine jr.iconst rfl ?_
        exact jr.ireturn rfl rfl rfl (q _ _ hI_M hH_M hS_M  (by first | exact rgq rfl | omega) (Or.inr ⟨by omega, by have x0 : M 632 (((2 * f) + w) - 5) = v10 := e10; rw [show ((2 * f) + w) - 5 = 2 * f + 1 from by omega] at x0; unfold fg6; rw [if_neg (by omega), if_neg (by omega), if_neg (by omega), if_neg (by omega), if_neg (by omega), if_neg (by omega), if_pos (by omega)]; first | (rw [if_pos (by omega)]; done) | (rw [if_neg (by omega)]; done) | (rw [if_pos (by omega)]; omega) | (rw [if_neg (by omega)]; omega)⟩) rfl (fun a i f598 => rfl) (fun i g1 => rfl))
      · have sx119 : (1 : Int) ≤ v10 := by omega
        clear h119
        refine jr.aload_n rfl rfl ?_
        refine jr.getf (i := 45) (v := .ref 633) rfl rfl (nlt rfl) rfl (nlt rfl) rfl rfl rfl rfl ?_
        refine jr.iconst rfl ?_
        refine jr.iload_n rfl rfl ?_
        refine jr.imul rfl ?_
        refine jr.iload_n rfl rfl ?_
        refine jr.iadd rfl ?_
        refine jr.iconst rfl ?_
        refine jr.isub rfl ?_
        obtain ⟨v11, e11⟩ : ∃ z, M 633 (((2 * f) + w) - 5) = z := ⟨_, rfl⟩
        have b11 : (-2147483648) ≤ v11 ∧ v11 ≤ 2147483647 := by rw [← e11]; exact (by have q := hI_M 633 (((2 * f) + w) - 5) (by decide); rw [xri_row rfl rfl] at q; exact q)
        refine jr.iald (i := (((2 * f) + w) - 5)) (x := v11) rfl (nlt rfl) rfl (Nat.le_of_ble_eq_true rfl) (by omega) (by omega) e11 ?_
        refine jr.goto rfl rfl ?_
        exact jr.ireturn rfl rfl rfl (q _ _ hI_M hH_M hS_M  (by omega) (Or.inr ⟨by omega, by have x0 : M 632 (((2 * f) + w) - 5) = v10 := e10; rw [show ((2 * f) + w) - 5 = 2 * f + 1 from by omega] at x0; have x1 : M 633 (((2 * f) + w) - 5) = v11 := e11; rw [show ((2 * f) + w) - 5 = 2 * f + 1 from by omega] at x1; unfold fg6; rw [if_neg (by omega), if_neg (by omega), if_neg (by omega), if_neg (by omega), if_neg (by omega), if_neg (by omega), if_pos (by omega)]; first | (rw [if_pos (by omega)]; done) | (rw [if_neg (by omega)]; done) | (rw [if_pos (by omega)]; omega) | (rw [if_neg (by omega)]; omega)⟩) rfl (fun a i f598 => rfl) (fun i g1 => rfl))
    · refine jr.tsw_k 7 rfl h12 rfl ?_
      refine jr.aload_n rfl rfl ?_
      refine jr.getf (i := 47) (v := .ref 635) rfl rfl (nlt rfl) rfl (nlt rfl) rfl rfl rfl rfl ?_
      refine jr.iconst rfl ?_
      refine jr.iload_n rfl rfl ?_
      refine jr.imul rfl ?_
      refine jr.iload_n rfl rfl ?_
      refine jr.iadd rfl ?_
      refine jr.bipush rfl (jbp _ (nlt rfl)) ?_
      refine jr.isub rfl ?_
      obtain ⟨v12, e12⟩ : ∃ z, M 635 (((2 * f) + w) - 7) = z := ⟨_, rfl⟩
      have b12 : 0 ≤ v12 ∧ v12 ≤ 65535 := by rw [← e12]; exact (by have q := hI_M 635 (((2 * f) + w) - 7) (by decide); rw [xri_row rfl rfl] at q; exact q)
      refine jr.iald (i := (((2 * f) + w) - 7)) (x := v12) rfl (nlt rfl) rfl (Nat.le_of_ble_eq_true rfl) (by omega) (by omega) e12 ?_
      exact jr.ireturn rfl rfl rfl (q _ _ hI_M hH_M hS_M  (by omega) (Or.inr ⟨by omega, by have x0 : M 635 (((2 * f) + w) - 7) = v12 := e12; rw [show ((2 * f) + w) - 7 = 2 * f from by omega] at x0; unfold fg6; rw [if_neg (by omega), if_neg (by omega), if_neg (by omega), if_neg (by omega), if_neg (by omega), if_neg (by omega), if_neg (by omega), if_pos (by omega)]; omega⟩) rfl (fun a i f598 => rfl) (fun i g1 => rfl))
    · refine jr.tsw_k 8 rfl h12 rfl ?_
      refine jr.aload_n rfl rfl ?_
      refine jr.getf (i := 47) (v := .ref 635) rfl rfl (nlt rfl) rfl (nlt rfl) rfl rfl rfl rfl ?_
      refine jr.iconst rfl ?_
      refine jr.iload_n rfl rfl ?_
      refine jr.imul rfl ?_
      refine jr.iload_n rfl rfl ?_
      refine jr.iadd rfl ?_
      refine jr.bipush rfl (jbp _ (nlt rfl)) ?_
      refine jr.isub rfl ?_
      obtain ⟨v13, e13⟩ : ∃ z, M 635 (((2 * f) + w) - 7) = z := ⟨_, rfl⟩
      have b13 : 0 ≤ v13 ∧ v13 ≤ 65535 := by rw [← e13]; exact (by have q := hI_M 635 (((2 * f) + w) - 7) (by decide); rw [xri_row rfl rfl] at q; exact q)
      refine jr.iald (i := (((2 * f) + w) - 7)) (x := v13) rfl (nlt rfl) rfl (Nat.le_of_ble_eq_true rfl) (by omega) (by omega) e13 ?_
      exact jr.ireturn rfl rfl rfl (q _ _ hI_M hH_M hS_M  (by omega) (Or.inr ⟨by omega, by have x0 : M 635 (((2 * f) + w) - 7) = v13 := e13; rw [show ((2 * f) + w) - 7 = 2 * f + 1 from by omega] at x0; unfold fg6; rw [if_neg (by omega), if_neg (by omega), if_neg (by omega), if_neg (by omega), if_neg (by omega), if_neg (by omega), if_neg (by omega), if_neg (by omega), if_pos (by omega)]; omega⟩) rfl (fun a i f598 => rfl) (fun i g1 => rfl))
    · refine jr.tsw_k 9 rfl h12 rfl ?_
      refine jr.aload_n rfl rfl ?_
      refine jr.getf (i := 52) (v := .ref 640) rfl rfl (nlt rfl) rfl (nlt rfl) rfl rfl rfl rfl ?_
      refine jr.iload_n rfl rfl ?_
      obtain ⟨v14, e14⟩ : ∃ z, M 640 f = z := ⟨_, rfl⟩
      have b14 : (-1) ≤ v14 ∧ v14 ≤ 3 := by rw [← e14]; exact (by have q := hI_M 640 f (Nat.le_of_ble_eq_true rfl); rw [xri_row rfl rfl] at q; exact q)
      refine jr.iald (i := f) (x := v14) rfl (nlt rfl) rfl (Nat.le_of_ble_eq_true rfl) (by omega) (by omega) e14 ?_
      refine jr.iconst rfl ?_
      refine jr.icmp_ne rfl rfl (by first | (refine rgb (by assumption) ?_; exact rfl) | omega) (rgl rfl) (fun h160 => ?_) (fun h160 => ?_)
      · have sx160 : (0 : Int) ≤ v14 := by omega
        clear h160
        refine jr.aload_n rfl rfl ?_
        refine jr.getf (i := 54) (v := .ref 642) rfl rfl (nlt rfl) rfl (nlt rfl) rfl rfl rfl rfl ?_
        refine jr.iload_n rfl rfl ?_
        obtain ⟨v15, e15⟩ : ∃ z, M 642 f = z := ⟨_, rfl⟩
        have b15 : 0 ≤ v15 ∧ v15 ≤ 70000 := by rw [← e15]; exact (by have q := hI_M 642 f (Nat.le_of_ble_eq_true rfl); rw [xri_row rfl rfl] at q; exact q)
        refine jr.iald (i := f) (x := v15) rfl (nlt rfl) rfl (Nat.le_of_ble_eq_true rfl) (by omega) (by omega) e15 ?_
        exact jr.ireturn rfl rfl rfl (q _ _ hI_M hH_M hS_M  (by omega) (Or.inr ⟨by omega, by unfold fg6; rw [if_neg (by omega), if_neg (by omega), if_neg (by omega), if_neg (by omega), if_neg (by omega), if_neg (by omega), if_neg (by omega), if_neg (by omega), if_neg (by omega), if_pos (by omega)]; first | (rw [if_pos (by omega)]; done) | (rw [if_neg (by omega)]; done) | (rw [if_pos (by omega)]; omega) | (rw [if_neg (by omega)]; omega)⟩) rfl (fun a i f598 => rfl) (fun i g1 => rfl))
      · refine jr.iconst rfl ?_
        refine jr.goto rfl rfl ?_
        exact jr.ireturn rfl rfl rfl (q _ _ hI_M hH_M hS_M  (by first | exact rgq rfl | omega) (Or.inr ⟨by omega, by unfold fg6; rw [if_neg (by omega), if_neg (by omega), if_neg (by omega), if_neg (by omega), if_neg (by omega), if_neg (by omega), if_neg (by omega), if_neg (by omega), if_neg (by omega), if_pos (by omega)]; first | (rw [if_pos (by omega)]; done) | (rw [if_neg (by omega)]; done) | (rw [if_pos (by omega)]; omega) | (rw [if_neg (by omega)]; omega)⟩) rfl (fun a i f598 => rfl) (fun i g1 => rfl))
    · refine jr.tsw_d rfl (by omega) (by omega) rfl ?_
      refine jr.iload_n rfl rfl ?_
      refine jr.bipush rfl (jbp _ (nlt rfl)) ?_
      refine jr.icmp_eq rfl rfl (by first | (refine rgb (by assumption) ?_; exact rfl) | omega) (rgl rfl) (fun h177 => ?_) (fun h177 => ?_)
      · refine jr.aload_n rfl rfl ?_
        refine jr.getf (i := 40) (v := .ref 628) rfl rfl (nlt rfl) rfl (nlt rfl) rfl rfl rfl rfl ?_
        refine jr.iload_n rfl rfl ?_
        obtain ⟨v16, e16⟩ : ∃ z, M 628 f = z := ⟨_, rfl⟩
        have b16 : 0 ≤ v16 ∧ v16 ≤ 1 := by rw [← e16]; exact (by have q := hI_M 628 f (Nat.le_of_ble_eq_true rfl); rw [xri_row rfl rfl] at q; exact q)
        refine jr.zald (i := f) (x := v16) rfl (nlt rfl) rfl (Nat.le_of_ble_eq_true rfl) (by omega) (by omega) e16 ?_
        refine jr.if_eq rfl rfl (by first | (refine rgb (by assumption) ?_; exact rfl) | omega) (fun h191 => ?_) (fun h191 => ?_)
        · refine jr.iconst rfl ?_
          exact jr.ireturn rfl rfl rfl (q _ _ hI_M hH_M hS_M  (by first | exact rgq rfl | omega) (Or.inr ⟨by omega, by unfold fg6; rw [if_neg (by omega), if_neg (by omega), if_neg (by omega), if_neg (by omega), if_neg (by omega), if_neg (by omega), if_neg (by omega), if_neg (by omega), if_neg (by omega), if_neg (by omega), if_pos (by omega)]; first | (rw [if_pos (by omega)]; done) | (rw [if_neg (by omega)]; done) | (rw [if_pos (by omega)]; omega) | (rw [if_neg (by omega)]; omega)⟩) rfl (fun a i f598 => rfl) (fun i g1 => rfl))
        · have sx191 : (1 : Int) ≤ v16 := by omega
          clear h191
          refine jr.iconst rfl ?_
          refine jr.goto rfl rfl ?_
          exact jr.ireturn rfl rfl rfl (q _ _ hI_M hH_M hS_M  (by first | exact rgq rfl | omega) (Or.inr ⟨by omega, by unfold fg6; rw [if_neg (by omega), if_neg (by omega), if_neg (by omega), if_neg (by omega), if_neg (by omega), if_neg (by omega), if_neg (by omega), if_neg (by omega), if_neg (by omega), if_neg (by omega), if_pos (by omega)]; first | (rw [if_pos (by omega)]; done) | (rw [if_neg (by omega)]; done) | (rw [if_pos (by omega)]; omega) | (rw [if_neg (by omega)]; omega)⟩) rfl (fun a i f598 => rfl) (fun i g1 => rfl))
      · refine jr.bipush rfl (by decide) ?_
        refine jr.goto rfl rfl ?_
        exact jr.ireturn rfl rfl rfl (q _ _ hI_M hH_M hS_M  (by first | exact rgq rfl | omega) (Or.inr ⟨by omega, by unfold fg6; rw [if_neg (by omega), if_neg (by omega), if_neg (by omega), if_neg (by omega), if_neg (by omega), if_neg (by omega), if_neg (by omega), if_neg (by omega), if_neg (by omega), if_neg (by omega), if_neg (by omega)]⟩) rfl (fun a i f598 => rfl) (fun i g1 => rfl))
  · refine jr.if_ne rfl rfl (by first | exact rgl rfl | omega) (fun h => absurd h (by decide)) (fun _ => ?_)
    refine jr.bipush rfl (by decide) ?_
    exact jr.ireturn rfl rfl rfl (q _ _ hI_M hH_M hS_M  (by first | exact rgq rfl | omega) (Or.inl ⟨by omega, by omega⟩) rfl (fun a i f598 => rfl) (fun i g1 => rfl))
theorem r_flowed_x {A : Nat → Option (Nat × (Nat → Int32))} {Q : Option Value → jm → Prop} {M : jm} (hI_M : RI M) (hH_M : RH M) (hS_M : RF M) {f : Int} (h_f : (-2147483648) ≤ f ∧ f ≤ 2147483647) {w : Int} (h_w : (-2147483648) ≤ w ∧ w ≤ 2147483647) (q : ∀ (r : Int) (M' : jm), RI M' → RH M' → RF M' → (-9223372036854775808) ≤ r ∧ r ≤ 9223372036854775807 → (((f < 0 ∨ 23 < f ∨ M 627 f = 0) ∧ r = -1) ∨ (((0 ≤ f ∧ f ≤ 23) ∧ M 627 f ≠ 0) ∧ r = fl6 M f w)) → M' = M → (∀ (a : Nat) (i : Int), a ≠ 598 → M' a i = M a i) → (∀ (i : Int), i ≠ 1 → M' 598 i = M 598 i) → Q (some (.long (Int64.ofInt r))) M') : jc A 3 317 [.ref (598), .int (Int32.ofInt (f)), .int (Int32.ofInt (w))] M Q := by
  refine jc_of (m := xm_317) rfl (Nat.le_of_ble_eq_true rfl) rfl ?_
  refine jr.aload_n rfl rfl ?_
  refine jr.iload_n rfl rfl ?_
  refine jr_v rfl rfl (Or.inl rfl) rfl rfl (nlt rfl) rfl ⟨rfl, Nat.le_of_ble_eq_true rfl, Nat.le_of_ble_eq_true rfl⟩ rfl (jc.deep (c_isFlow hI_M (by omega) (fun l2 u2 t2 => ?_) (fun n2 => ?_)) (Nat.le_of_ble_eq_true rfl))
  · refine jr.if_eq rfl rfl (by first | exact rgl rfl | omega) (fun h => absurd h (by decide)) (fun _ => ?_)
    refine jr.iload_n rfl rfl ?_
    refine jr.i2l rfl (by omega) ?_
    refine jr.lconst (x := 0) rfl (by decide) ?_
    refine jr.ldc2 (x := 5) rfl rfl (by decide) ?_
    refine jr_s rfl rfl (Or.inl rfl) ⟨Nat.le_of_ble_eq_true rfl, Nat.le_of_ble_eq_true rfl⟩ rfl rfl (jc.deep (c_within (by omega) (by omega) (by omega) (fun l14 u14 => ?_) (fun n14 => ?_)) (Nat.le_of_ble_eq_true rfl))
    · refine jr.if_ne rfl rfl (by first | exact rgl rfl | omega) (fun _ => ?_) (fun h => absurd (by decide) h)
      refine jr.iconst rfl ?_
      refine jr.iload_n rfl rfl ?_
      refine jr.imul rfl ?_
      refine jr.iload_n rfl rfl ?_
      refine jr.iconst rfl ?_
      refine jr.irem rfl (by decide) ?_
      have b1 : j_rem w 2 = w % 2 := j_rem_ex (by omega) (by omega)
      generalize j_rem w 2 = v1 at b1 ⊢
      refine jr.iadd rfl ?_
      refine jr.istore_n (ls' := [_, _, _, _]) rfl (nlt rfl) rfl ?_
      refine jr.iload_n rfl rfl ?_
      refine jr.iconst rfl ?_
      refine jr.icmp_ge rfl rfl (by first | (refine rgb (by assumption) ?_; exact rfl) | omega) (rgl rfl) (fun h34 => ?_) (fun h34 => ?_)
      · refine jr.iload_n rfl rfl ?_
        refine jr.iconst rfl ?_
        refine jr.icmp_ge rfl rfl (by first | (refine rgb (by assumption) ?_; exact rfl) | omega) (rgl rfl) (fun h48 => ?_) (fun h48 => ?_)
        · refine jr.aload_n rfl rfl ?_
          refine jr.getf (i := 49) (v := .ref 637) rfl rfl (nlt rfl) rfl (nlt rfl) rfl rfl rfl rfl ?_
          refine jr.iload_n rfl rfl ?_
          obtain ⟨v2, e2⟩ : ∃ z, M 637 ((2 * f) + v1) = z := ⟨_, rfl⟩
          have b2 : (-9223372036854775808) ≤ v2 ∧ v2 ≤ 9223372036854775807 := by rw [← e2]; exact (by have q := hI_M 637 ((2 * f) + v1) (by decide); rw [xri_row rfl rfl] at q; exact q)
          refine jr.lald (i := ((2 * f) + v1)) (x := v2) rfl (nlt rfl) rfl (Nat.le_of_ble_eq_true rfl) (by omega) (by omega) e2 ?_
          exact jr.lreturn rfl rfl (q _ _ hI_M hH_M hS_M  (by omega) (by exact Or.elim (show v1 = 0 ∨ v1 = 1 by omega) (fun hz => by have h8 : (2 * f) + v1 = 2 * f := (by omega); have h9 := e2; rw [h8] at h9; exact Or.inr ⟨by omega, by unfold fl6; rw [if_neg (by omega), if_neg (by omega), if_neg (by omega), if_neg (by omega), if_pos (by omega)]; omega⟩) (fun hz => by have h8 : (2 * f) + v1 = 2 * f + 1 := (by omega); have h9 := e2; rw [h8] at h9; exact Or.inr ⟨by omega, by unfold fl6; rw [if_neg (by omega), if_neg (by omega), if_neg (by omega), if_neg (by omega), if_neg (by omega), if_pos (by omega)]; omega⟩)) rfl (fun a i f598 => rfl) (fun i g1 => rfl))
        · refine jr.aload_n rfl rfl ?_
          refine jr.getf (i := 48) (v := .ref 636) rfl rfl (nlt rfl) rfl (nlt rfl) rfl rfl rfl rfl ?_
          refine jr.iload_n rfl rfl ?_
          obtain ⟨v3, e3⟩ : ∃ z, M 636 ((2 * f) + v1) = z := ⟨_, rfl⟩
          have b3 : (-9223372036854775808) ≤ v3 ∧ v3 ≤ 9223372036854775807 := by rw [← e3]; exact (by have q := hI_M 636 ((2 * f) + v1) (by decide); rw [xri_row rfl rfl] at q; exact q)
          refine jr.lald (i := ((2 * f) + v1)) (x := v3) rfl (nlt rfl) rfl (Nat.le_of_ble_eq_true rfl) (by omega) (by omega) e3 ?_
          refine jr.goto rfl rfl ?_
          exact jr.lreturn rfl rfl (q _ _ hI_M hH_M hS_M  (by omega) (by exact Or.elim (show v1 = 0 ∨ v1 = 1 by omega) (fun hz => by have h8 : (2 * f) + v1 = 2 * f := (by omega); have h9 := e3; rw [h8] at h9; exact Or.inr ⟨by omega, by unfold fl6; rw [if_neg (by omega), if_neg (by omega), if_pos (by omega)]; omega⟩) (fun hz => by have h8 : (2 * f) + v1 = 2 * f + 1 := (by omega); have h9 := e3; rw [h8] at h9; exact Or.inr ⟨by omega, by unfold fl6; rw [if_neg (by omega), if_neg (by omega), if_neg (by omega), if_pos (by omega)]; omega⟩)) rfl (fun a i f598 => rfl) (fun i g1 => rfl))
      · refine jr.aload_n rfl rfl ?_
        refine jr.getf (i := 42) (v := .ref 630) rfl rfl (nlt rfl) rfl (nlt rfl) rfl rfl rfl rfl ?_
        refine jr.iload_n rfl rfl ?_
        obtain ⟨v4, e4⟩ : ∃ z, M 630 ((2 * f) + v1) = z := ⟨_, rfl⟩
        have b4 : (-9223372036854775808) ≤ v4 ∧ v4 ≤ 9223372036854775807 := by rw [← e4]; exact (by have q := hI_M 630 ((2 * f) + v1) (by decide); rw [xri_row rfl rfl] at q; exact q)
        refine jr.lald (i := ((2 * f) + v1)) (x := v4) rfl (nlt rfl) rfl (Nat.le_of_ble_eq_true rfl) (by omega) (by omega) e4 ?_
        refine jr.goto rfl rfl ?_
        exact jr.lreturn rfl rfl (q _ _ hI_M hH_M hS_M  (by omega) (by exact Or.elim (show v1 = 0 ∨ v1 = 1 by omega) (fun hz => by have h8 : (2 * f) + v1 = 2 * f := (by omega); have h9 := e4; rw [h8] at h9; exact Or.inr ⟨by omega, by unfold fl6; rw [if_pos (by omega)]; omega⟩) (fun hz => by have h8 : (2 * f) + v1 = 2 * f + 1 := (by omega); have h9 := e4; rw [h8] at h9; exact Or.inr ⟨by omega, by unfold fl6; rw [if_neg (by omega), if_pos (by omega)]; omega⟩)) rfl (fun a i f598 => rfl) (fun i g1 => rfl))
    · refine jr.if_ne rfl rfl (by first | exact rgl rfl | omega) (fun h => absurd h (by decide)) (fun _ => ?_)
      refine jr.ldc2 (x := (-1)) rfl rfl (by decide) ?_
      exact jr.lreturn rfl rfl (q _ _ hI_M hH_M hS_M  (by omega) (by first | exact Or.inl ⟨by omega, by omega⟩ | exact Or.inr ⟨by omega, by unfold fl6; rw [if_neg (by omega), if_neg (by omega), if_neg (by omega), if_neg (by omega), if_neg (by omega), if_neg (by omega)]⟩) rfl (fun a i f598 => rfl) (fun i g1 => rfl))
  · refine jr.if_eq rfl rfl (by first | exact rgl rfl | omega) (fun _ => ?_) (fun h => absurd (by decide) h)
    refine jr.ldc2 (x := (-1)) rfl rfl (by decide) ?_
    exact jr.lreturn rfl rfl (q _ _ hI_M hH_M hS_M  (by omega) (by first | exact Or.inl ⟨by omega, by omega⟩ | exact Or.inr ⟨by omega, by unfold fl6; rw [if_neg (by omega), if_neg (by omega), if_neg (by omega), if_neg (by omega), if_neg (by omega), if_neg (by omega)]⟩) rfl (fun a i f598 => rfl) (fun i g1 => rfl))
theorem r_close_x {A : Nat → Option (Nat × (Nat → Int32))} {Q : Option Value → jm → Prop} {M : jm} (hI_M : RI M) (hH_M : RH M) (hS_M : RF M) {f : Int} (h_f : (-2147483648) ≤ f ∧ f ≤ 2147483647) (q : ∀ (r : Int) (M' : jm), RI M' → RH M' → RF M' → (-2) ≤ r ∧ r ≤ 1 → (((f < 0 ∨ 23 < f ∨ M 627 f = 0) ∧ r = -2 ∧ M' = M) ∨ (((0 ≤ f ∧ f ≤ 23) ∧ M 627 f ≠ 0) ∧ r = 1 ∧ M' = ju M 627 f 0)) → (∀ (a : Nat) (i : Int), a ≠ 627 → M' a i = M a i) → Q (some (.int (Int32.ofInt r))) M') : jc A 3 318 [.ref (598), .int (Int32.ofInt (f))] M Q := by
  refine jc_of (m := xm_318) rfl (Nat.le_of_ble_eq_true rfl) rfl ?_
  refine jr.aload_n rfl rfl ?_
  refine jr.iload_n rfl rfl ?_
  refine jr_v rfl rfl (Or.inl rfl) rfl rfl (nlt rfl) rfl ⟨rfl, Nat.le_of_ble_eq_true rfl, Nat.le_of_ble_eq_true rfl⟩ rfl (jc.deep (c_isFlow hI_M (by omega) (fun l2 u2 t2 => ?_) (fun n2 => ?_)) (Nat.le_of_ble_eq_true rfl))
  · refine jr.if_ne rfl rfl (by first | exact rgl rfl | omega) (fun _ => ?_) (fun h => absurd (by decide) h)
    refine jr.aload_n rfl rfl ?_
    refine jr.getf (i := 39) (v := .ref 627) rfl rfl (nlt rfl) rfl (nlt rfl) rfl rfl rfl rfl ?_
    refine jr.iload_n rfl rfl ?_
    refine jr.iconst rfl ?_
    refine jr.zast (i := f) (x := 0) rfl (nlt rfl) rfl (Nat.le_of_ble_eq_true rfl) (by omega) (by omega) (j_zn (by omega)) ?_
    refine jr.iconst rfl ?_
    exact jr.ireturn rfl rfl rfl (q _ _ (RI.u hI_M (a := 627) (i := f) (by rw [xri_row rfl rfl]; show (0 : Int) ≤ _ ∧ _ ≤ (1 : Int); omega)) (RH.o hH_M (by decide) (by decide) (by decide)) (RF.o hS_M (by decide) (by decide))  (by omega) (Or.inr ⟨by omega, by omega, rfl⟩) (fun a i f627 => ((ju_c _ _ f627).trans rfl)))
  · refine jr.if_ne rfl rfl (by first | exact rgl rfl | omega) (fun h => absurd h (by decide)) (fun _ => ?_)
    refine jr.bipush rfl (by decide) ?_
    exact jr.ireturn rfl rfl rfl (q _ _ hI_M hH_M hS_M  (by first | exact rgq rfl | omega) (Or.inl ⟨by omega, by omega, rfl⟩) (fun a i f627 => rfl))
end
section
/-! ===== the reference: pools, change ===== -/
theorem r_pool_L55_x {A : Nat → Option (Nat × (Nat → Int32))} {Q : Option Value → jm → Prop} {M0 : jm} {k0 : Int} {a0 : Int} {o0 : Int} {c0 : Int} (q : ∀ (r : Int) (M' : jm), RI M' → RH M' → RF M' → (-4) ≤ r ∧ r ≤ 32 → ((¬ ((0 ≤ k0 ∧ k0 ≤ 3) ∧ (1 ≤ c0 ∧ c0 ≤ 32) ∧ (1 ≤ o0 ∧ o0 + c0 ≤ 65536)) ∧ r = -3 ∧ M' = M0) ∨ (((0 ≤ k0 ∧ k0 ≤ 3) ∧ (1 ≤ c0 ∧ c0 ≤ 32) ∧ (1 ≤ o0 ∧ o0 + c0 ≤ 65536)) ∧ pu6 M0 k0 24 0 = 1 ∧ r = -4 ∧ M' = M0) ∨ (((0 ≤ k0 ∧ k0 ≤ 3) ∧ (1 ≤ c0 ∧ c0 ≤ 32) ∧ (1 ≤ o0 ∧ o0 + c0 ≤ 65536)) ∧ pu6 M0 k0 24 0 ≠ 1 ∧ r = c0 ∧ M' = ju (ju (ju (ju M0 643 k0 1) 644 k0 (a0 % 4294967296)) 645 k0 o0) 646 k0 c0)) → (∀ (a0 : Nat) (i : Int), a0 ≠ 643 → a0 ≠ 644 → a0 ≠ 645 → a0 ≠ 646 → M' a0 i = M0 a0 i) → Q (some (.int (Int32.ofInt r))) M') : ∀ (nM : Nat) (M : jm) (f : Int) (c : Int) (o : Int) (a : Int) (k : Int), RI M → RH M → RF M → (∀ (a : Nat) (i : Int), a ≠ 643 → a ≠ 644 → a ≠ 645 → a ≠ 646 → M a i = M0 a i) → 0 ≤ f ∧ f ≤ 24 → 1 ≤ c ∧ c ≤ 32 → 1 ≤ o ∧ o ≤ 65535 → (-2147483648) ≤ a ∧ a ≤ 2147483647 → 0 ≤ k ∧ k ≤ 3 → M = M0 → pu6 M0 k 24 0 = pu6 M0 k (24 - f).toNat f → o + c ≤ 65536 → k = k0 → a = a0 → o = o0 → c = c0 → 24 - f ≤ nM → jr A 1 xm_319 55 [(5, .int (Int32.ofInt (f))), (4, .int (Int32.ofInt (c))), (3, .int (Int32.ofInt (o))), (2, .int (Int32.ofInt (a))), (1, .int (Int32.ofInt (k))), (0, .ref (598))] [] M Q := by
  intro nM
  induction nM using Nat.strongRecOn with
  | ind nM ih =>
    intro M f c o a k hI_M hH_M hS_M hF_M h_f h_c h_o h_a h_k hy0 hy1 hy2 hy3 hy4 hy5 hy6 hm
    subst hy3
    subst hy4
    subst hy5
    subst hy6
    refine jr.iload rfl rfl ?_
    refine jr.bipush rfl (jbp _ (nlt rfl)) ?_
    refine jr.icmp_ge rfl rfl (by first | (refine rgb (by assumption) ?_; exact rfl) | omega) (rgl rfl) (fun h59 => ?_) (fun h59 => ?_)
    · refine jr.aload_n rfl rfl ?_
      refine jr.getf (i := 55) (v := .ref 643) rfl rfl (nlt rfl) rfl (nlt rfl) rfl rfl rfl rfl ?_
      refine jr.iload_n rfl rfl ?_
      refine jr.iconst rfl ?_
      refine jr.zast (i := k) (x := 1) rfl (nlt rfl) rfl (Nat.le_of_ble_eq_true rfl) (by omega) (by omega) (j_zn (by omega)) ?_
      refine jr.aload_n rfl rfl ?_
      refine jr.getf (i := 56) (v := .ref 644) rfl rfl (nlt rfl) rfl (nlt rfl) rfl rfl rfl rfl ?_
      refine jr.iload_n rfl rfl ?_
      refine jr.iload_n rfl rfl ?_
      refine jr.i2l rfl (by omega) ?_
      refine jr.ldc2 (x := 4294967295) rfl rfl (by decide) ?_
      refine jr.land rfl ?_
      have b1 : jl_and a 4294967295 = a % 4294967296 ∧ 0 ≤ jl_and a 4294967295 ∧ jl_and a 4294967295 ≤ 4294967295 := ⟨jl_and_32 _, by rw [jl_and_32]; omega⟩
      generalize jl_and a 4294967295 = v1 at b1 ⊢
      refine jr.last (i := k) (x := v1) rfl (nlt rfl) rfl (Nat.le_of_ble_eq_true rfl) (by omega) (by omega) ?_
      refine jr.aload_n rfl rfl ?_
      refine jr.getf (i := 57) (v := .ref 645) rfl rfl (nlt rfl) rfl (nlt rfl) rfl rfl rfl rfl ?_
      refine jr.iload_n rfl rfl ?_
      refine jr.iload_n rfl rfl ?_
      refine jr.iast (i := k) (x := o) rfl (nlt rfl) rfl (Nat.le_of_ble_eq_true rfl) (by omega) (by omega) ?_
      refine jr.aload_n rfl rfl ?_
      refine jr.getf (i := 58) (v := .ref 646) rfl rfl (nlt rfl) rfl (nlt rfl) rfl rfl rfl rfl ?_
      refine jr.iload_n rfl rfl ?_
      refine jr.iload rfl rfl ?_
      refine jr.iast (i := k) (x := c) rfl (nlt rfl) rfl (Nat.le_of_ble_eq_true rfl) (by omega) (by omega) ?_
      refine jr.iload rfl rfl ?_
      exact jr.ireturn rfl rfl rfl (q _ _ (RI.u (RI.u (RI.u (RI.u hI_M (a := 643) (i := k) (by rw [xri_row rfl rfl]; show (0 : Int) ≤ _ ∧ _ ≤ (1 : Int); omega)) (a := 644) (i := k) (by rw [xri_row rfl rfl]; show (-9223372036854775808 : Int) ≤ _ ∧ _ ≤ (9223372036854775807 : Int); omega)) (a := 645) (i := k) (by rw [xri_row rfl rfl]; show (0 : Int) ≤ _ ∧ _ ≤ (65535 : Int); omega)) (a := 646) (i := k) (by rw [xri_row rfl rfl]; show (0 : Int) ≤ _ ∧ _ ≤ (32 : Int); omega)) (RH.o (RH.o (RH.o (RH.o hH_M (by decide) (by decide) (by decide)) (by decide) (by decide) (by decide)) (by decide) (by decide) (by decide)) (by decide) (by decide) (by decide)) (RF.o (RF.o (RF.o (RF.o hS_M (by decide) (by decide)) (by decide) (by decide)) (by decide) (by decide)) (by decide) (by decide))  (by omega) (Or.inr (Or.inr ⟨by omega, by rw [hy1, show (24 - f).toNat = 0 from by omega]; show (0 : Int) ≠ 1; decide, by omega, by rw [b1.1, hy0]⟩)) (fun a i f643 f644 f645 f646 => ((ju_c _ _ f646).trans ((ju_c _ _ f645).trans ((ju_c _ _ f644).trans ((ju_c _ _ f643).trans (hF_M a i f643 f644 f645 f646)))))))
    · refine jr.aload_n rfl rfl ?_
      refine jr.getf (i := 39) (v := .ref 627) rfl rfl (nlt rfl) rfl (nlt rfl) rfl rfl rfl rfl ?_
      refine jr.iload rfl rfl ?_
      obtain ⟨v2, e2⟩ : ∃ z, M 627 f = z := ⟨_, rfl⟩
      have b2 : 0 ≤ v2 ∧ v2 ≤ 1 := by rw [← e2]; exact (by have q := hI_M 627 f (Nat.le_of_ble_eq_true rfl); rw [xri_row rfl rfl] at q; exact q)
      refine jr.zald (i := f) (x := v2) rfl (nlt rfl) rfl (Nat.le_of_ble_eq_true rfl) (by omega) (by omega) e2 ?_
      refine jr.if_eq rfl rfl (by first | (refine rgb (by assumption) ?_; exact rfl) | omega) (fun h69 => ?_) (fun h69 => ?_)
      · refine jr.iinc (ls' := [_, _, _, _, _, _]) rfl rfl (nlt rfl) rfl ?_
        refine jr.goto rfl rfl ?_
        refine jr.pick (ls := [_, _, _, _, _, _]) [0, 1, 2, 3, 4, 5] rfl rfl ?_
        exact ih (nM - 1) (by omega) M (f + 1) c o a k hI_M hH_M hS_M  (fun a i f643 f644 f645 f646 => (hF_M a i f643 f644 f645 f646)) (by omega) (by omega) (by omega) (by omega) (by omega) hy0 (by rw [hy1, ← hy0, pu6_s (by omega), if_neg (by omega)]) (by omega) (by omega) (by omega) (by omega) (by omega) (by omega)
      · have sx69 : (1 : Int) ≤ v2 := by omega
        clear h69
        refine jr.aload_n rfl rfl ?_
        refine jr.getf (i := 52) (v := .ref 640) rfl rfl (nlt rfl) rfl (nlt rfl) rfl rfl rfl rfl ?_
        refine jr.iload rfl rfl ?_
        obtain ⟨v3, e3⟩ : ∃ z, M 640 f = z := ⟨_, rfl⟩
        have b3 : (-1) ≤ v3 ∧ v3 ≤ 3 := by rw [← e3]; exact (by have q := hI_M 640 f (Nat.le_of_ble_eq_true rfl); rw [xri_row rfl rfl] at q; exact q)
        refine jr.iald (i := f) (x := v3) rfl (nlt rfl) rfl (Nat.le_of_ble_eq_true rfl) (by omega) (by omega) e3 ?_
        refine jr.iload_n rfl rfl ?_
        refine jr.icmp_ne rfl rfl (by first | (refine rgb (by assumption) ?_; exact rfl) | omega) (by first | (refine rgb (by assumption) ?_; exact rfl) | omega) (fun h80 => ?_) (fun h80 => ?_)
        · refine jr.iinc (ls' := [_, _, _, _, _, _]) rfl rfl (nlt rfl) rfl ?_
          refine jr.goto rfl rfl ?_
          refine jr.pick (ls := [_, _, _, _, _, _]) [0, 1, 2, 3, 4, 5] rfl rfl ?_
          exact ih (nM - 1) (by omega) M (f + 1) c o a k hI_M hH_M hS_M  (fun a i f643 f644 f645 f646 => (hF_M a i f643 f644 f645 f646)) (by omega) (by omega) (by omega) (by omega) (by omega) hy0 (by rw [hy1, ← hy0, pu6_s (by omega), if_neg (by omega)]) (by omega) (by omega) (by omega) (by omega) (by omega) (by omega)
        · refine jr.bipush rfl (by decide) ?_
          exact jr.ireturn rfl rfl rfl (q _ _ hI_M hH_M hS_M  (by first | exact rgq rfl | omega) (Or.inr (Or.inl ⟨by omega, by rw [hy1, ← hy0, pu6_s (by omega), if_pos (by omega)], by omega, hy0⟩)) (fun a i f643 f644 f645 f646 => (hF_M a i f643 f644 f645 f646)))
theorem r_pool_x {A : Nat → Option (Nat × (Nat → Int32))} {Q : Option Value → jm → Prop} {M : jm} (hI_M : RI M) (hH_M : RH M) (hS_M : RF M) {k : Int} (h_k : (-2147483648) ≤ k ∧ k ≤ 2147483647) {a : Int} (h_a : (-2147483648) ≤ a ∧ a ≤ 2147483647) {o : Int} (h_o : (-2147483648) ≤ o ∧ o ≤ 2147483647) {c : Int} (h_c : (-2147483648) ≤ c ∧ c ≤ 2147483647) (q : ∀ (r : Int) (M' : jm), RI M' → RH M' → RF M' → (-4) ≤ r ∧ r ≤ 32 → ((¬ ((0 ≤ k ∧ k ≤ 3) ∧ (1 ≤ c ∧ c ≤ 32) ∧ (1 ≤ o ∧ o + c ≤ 65536)) ∧ r = -3 ∧ M' = M) ∨ (((0 ≤ k ∧ k ≤ 3) ∧ (1 ≤ c ∧ c ≤ 32) ∧ (1 ≤ o ∧ o + c ≤ 65536)) ∧ pu6 M k 24 0 = 1 ∧ r = -4 ∧ M' = M) ∨ (((0 ≤ k ∧ k ≤ 3) ∧ (1 ≤ c ∧ c ≤ 32) ∧ (1 ≤ o ∧ o + c ≤ 65536)) ∧ pu6 M k 24 0 ≠ 1 ∧ r = c ∧ M' = ju (ju (ju (ju M 643 k 1) 644 k (a % 4294967296)) 645 k o) 646 k c)) → (∀ (a : Nat) (i : Int), a ≠ 643 → a ≠ 644 → a ≠ 645 → a ≠ 646 → M' a i = M a i) → Q (some (.int (Int32.ofInt r))) M') : jc A 2 319 [.ref (598), .int (Int32.ofInt (k)), .int (Int32.ofInt (a)), .int (Int32.ofInt (o)), .int (Int32.ofInt (c))] M Q := by
  refine jc_of (m := xm_319) rfl (Nat.le_of_ble_eq_true rfl) rfl ?_
  refine jr.iload_n rfl rfl ?_
  refine jr.i2l rfl (by omega) ?_
  refine jr.lconst (x := 0) rfl (by decide) ?_
  refine jr.ldc2 (x := 3) rfl rfl (by decide) ?_
  refine jr_s rfl rfl (Or.inl rfl) ⟨Nat.le_of_ble_eq_true rfl, Nat.le_of_ble_eq_true rfl⟩ rfl rfl (jc.deep (c_within (by omega) (by omega) (by omega) (fun l6 u6 => ?_) (fun n6 => ?_)) (Nat.le_of_ble_eq_true rfl))
  · refine jr.if_eq rfl rfl (by first | exact rgl rfl | omega) (fun h => absurd h (by decide)) (fun _ => ?_)
    refine jr.iload rfl rfl ?_
    refine jr.i2l rfl (by omega) ?_
    refine jr.lconst (x := 1) rfl (by decide) ?_
    refine jr.ldc2 (x := 32) rfl rfl (by decide) ?_
    refine jr_s rfl rfl (Or.inl rfl) ⟨Nat.le_of_ble_eq_true rfl, Nat.le_of_ble_eq_true rfl⟩ rfl rfl (jc.deep (c_within (by omega) (by omega) (by omega) (fun l19 u19 => ?_) (fun n19 => ?_)) (Nat.le_of_ble_eq_true rfl))
    · refine jr.if_eq rfl rfl (by first | exact rgl rfl | omega) (fun h => absurd h (by decide)) (fun _ => ?_)
      refine jr.iload_n rfl rfl ?_
      refine jr.iconst rfl ?_
      refine jr.icmp_lt rfl rfl (by first | (refine rgb (by assumption) ?_; exact rfl) | omega) (rgl rfl) (fun h27 => ?_) (fun h27 => ?_)
      · refine jr.bipush rfl (by decide) ?_
        exact jr.ireturn rfl rfl rfl (q _ _ hI_M hH_M hS_M  (by first | exact rgq rfl | omega) (Or.inl ⟨by omega, by omega, rfl⟩) (fun a i f643 f644 f645 f646 => rfl))
      · refine jr.iload_n rfl rfl ?_
        refine jr.ldcw (x := 65535) rfl rfl (by decide) ?_
        refine jr.icmp_gt rfl rfl (by first | (refine rgb (by assumption) ?_; exact rfl) | omega) (by first | (refine rgb (by assumption) ?_; exact rfl) | omega) (fun h34 => ?_) (fun h34 => ?_)
        · refine jr.bipush rfl (by decide) ?_
          exact jr.ireturn rfl rfl rfl (q _ _ hI_M hH_M hS_M  (by first | exact rgq rfl | omega) (Or.inl ⟨by omega, by omega, rfl⟩) (fun a i f643 f644 f645 f646 => rfl))
        · refine jr.iload_n rfl rfl ?_
          refine jr.iload rfl rfl ?_
          refine jr.iadd rfl ?_
          refine jr.iconst rfl ?_
          refine jr.isub rfl ?_
          refine jr.ldcw (x := 65535) rfl rfl (by decide) ?_
          refine jr.icmp_le rfl rfl (by first | (refine rgb (by assumption) ?_; exact rfl) | omega) (by first | (refine rgb (by assumption) ?_; exact rfl) | omega) (fun h46 => ?_) (fun h46 => ?_)
          · refine jr.iconst rfl ?_
            refine jr.istore (ls' := [_, _, _, _, _, _]) rfl (nlt rfl) rfl ?_
            refine jr.pick (ls := [_, _, _, _, _, _]) [0, 5, 4, 3, 2, 1] rfl rfl ?_
            exact r_pool_L55_x q 24 M 0 c o a k hI_M hH_M hS_M  (fun a i f643 f644 f645 f646 => rfl) (by omega) (by omega) (by omega) (by omega) (by omega) rfl rfl (by omega) (by omega) (by omega) (by omega) (by omega) (by omega)
          · refine jr.bipush rfl (by decide) ?_
            exact jr.ireturn rfl rfl rfl (q _ _ hI_M hH_M hS_M  (by first | exact rgq rfl | omega) (Or.inl ⟨by omega, by omega, rfl⟩) (fun a i f643 f644 f645 f646 => rfl))
    · refine jr.if_eq rfl rfl (by first | exact rgl rfl | omega) (fun _ => ?_) (fun h => absurd (by decide) h)
      refine jr.bipush rfl (by decide) ?_
      exact jr.ireturn rfl rfl rfl (q _ _ hI_M hH_M hS_M  (by first | exact rgq rfl | omega) (Or.inl ⟨by omega, by omega, rfl⟩) (fun a i f643 f644 f645 f646 => rfl))
  · refine jr.if_eq rfl rfl (by first | exact rgl rfl | omega) (fun _ => ?_) (fun h => absurd (by decide) h)
    refine jr.bipush rfl (by decide) ?_
    exact jr.ireturn rfl rfl rfl (q _ _ hI_M hH_M hS_M  (by first | exact rgq rfl | omega) (Or.inl ⟨by omega, by omega, rfl⟩) (fun a i f643 f644 f645 f646 => rfl))
theorem r_isTaken_L6_x {A : Nat → Option (Nat × (Nat → Int32))} {Q : Option Value → jm → Prop} {a0 : Int} {o0 : Int} {M : jm} (hI_M : RI M) (hH_M : RH M) (hS_M : RF M) (q : ∀ (r : Int), 0 ≤ r ∧ r ≤ 1 → r = tk6 M a0 o0 24 0 → Q (some (.int (Int32.ofInt r))) M) : ∀ (nM : Nat) (f : Int) (b : Int) (o : Int) (a : Int), 0 ≤ f ∧ f ≤ 24 → 0 ≤ b ∧ b ≤ 1 → (-2147483648) ≤ o ∧ o ≤ 2147483647 → (-9223372036854775808) ≤ a ∧ a ≤ 9223372036854775807 → ((b = 1 ∧ tk6 M a o 24 0 = 1) ∨ (b = 0 ∧ tk6 M a o 24 0 = tk6 M a o (24 - f).toNat f)) → a = a0 → o = o0 → 24 - f ≤ nM → jr A 0 xm_320 6 [(5, .int (Int32.ofInt (f))), (4, .int (Int32.ofInt (b))), (3, .int (Int32.ofInt (o))), (1, .long (Int64.ofInt (a))), (0, .ref (598))] [] M Q := by
  intro nM
  induction nM using Nat.strongRecOn with
  | ind nM ih =>
    intro f b o a h_f h_b h_o h_a hy0 hy1 hy2 hm
    subst hy1
    subst hy2
    refine jr.iload rfl rfl ?_
    refine jr.bipush rfl (jbp _ (nlt rfl)) ?_
    refine jr.icmp_ge rfl rfl (by first | (refine rgb (by assumption) ?_; exact rfl) | omega) (rgl rfl) (fun h10 => ?_) (fun h10 => ?_)
    · refine jr.iload rfl rfl ?_
      exact jr.ireturn rfl rfl (j_zr (by omega)) (q _ (by omega) (by have h9 := hy0; rcases h9 with h9 | h9; (omega); (rw [h9.2, show (24 - f).toNat = 0 from by omega]; exact h9.1)))
    · refine jr.iload rfl rfl ?_
      refine jr.if_ne rfl rfl (by first | (refine rgb (by assumption) ?_; exact rfl) | omega) (fun h15 => ?_) (fun h15 => ?_)
      · refine jr.iconst rfl ?_
        refine jr.goto rfl rfl ?_
        refine jr.istore (ls' := [_, _, _, _, _]) rfl (nlt rfl) rfl ?_
        refine jr.iinc (ls' := [_, _, _, _, _]) rfl rfl (nlt rfl) rfl ?_
        refine jr.goto rfl rfl ?_
        refine jr.pick (ls := [_, _, _, _, _]) [0, 1, 2, 3, 4] rfl rfl ?_
        exact ih (nM - 1) (by omega) (f + 1) 1 o a (by omega) (by omega) (by omega) (by omega) (by have h9 := hy0; first | exact Or.inl ⟨rfl, by omega⟩ | exact Or.inl ⟨rfl, by rw [(h9.resolve_left (by omega)).2, tk6_s (by omega), if_pos (by omega)]⟩ | exact Or.inr ⟨rfl, by rw [(h9.resolve_left (by omega)).2, tk6_s (by omega), if_neg (by omega)]⟩) (by omega) (by omega) (by omega)
      · refine jr.aload_n rfl rfl ?_
        refine jr.getf (i := 39) (v := .ref 627) rfl rfl (nlt rfl) rfl (nlt rfl) rfl rfl rfl rfl ?_
        refine jr.iload rfl rfl ?_
        obtain ⟨v1, e1⟩ : ∃ z, M 627 f = z := ⟨_, rfl⟩
        have b1 : 0 ≤ v1 ∧ v1 ≤ 1 := by rw [← e1]; exact (by have q := hI_M 627 f (Nat.le_of_ble_eq_true rfl); rw [xri_row rfl rfl] at q; exact q)
        refine jr.zald (i := f) (x := v1) rfl (nlt rfl) rfl (Nat.le_of_ble_eq_true rfl) (by omega) (by omega) e1 ?_
        refine jr.if_eq rfl rfl (by first | (refine rgb (by assumption) ?_; exact rfl) | omega) (fun h25 => ?_) (fun h25 => ?_)
        · refine jr.iconst rfl ?_
          refine jr.istore (ls' := [_, _, _, _, _]) rfl (nlt rfl) rfl ?_
          refine jr.iinc (ls' := [_, _, _, _, _]) rfl rfl (nlt rfl) rfl ?_
          refine jr.goto rfl rfl ?_
          refine jr.pick (ls := [_, _, _, _, _]) [0, 1, 2, 3, 4] rfl rfl ?_
          exact ih (nM - 1) (by omega) (f + 1) 0 o a (by omega) (by omega) (by omega) (by omega) (by have h9 := hy0; first | exact Or.inl ⟨rfl, by omega⟩ | exact Or.inl ⟨rfl, by rw [(h9.resolve_left (by omega)).2, tk6_s (by omega), if_pos (by omega)]⟩ | exact Or.inr ⟨rfl, by rw [(h9.resolve_left (by omega)).2, tk6_s (by omega), if_neg (by omega)]⟩) (by omega) (by omega) (by omega)
        · refine jr.aload_n rfl rfl ?_
          refine jr.getf (i := 52) (v := .ref 640) rfl rfl (nlt rfl) rfl (nlt rfl) rfl rfl rfl rfl ?_
          refine jr.iload rfl rfl ?_
          obtain ⟨v2, e2⟩ : ∃ z, M 640 f = z := ⟨_, rfl⟩
          have b2 : (-1) ≤ v2 ∧ v2 ≤ 3 := by rw [← e2]; exact (by have q := hI_M 640 f (Nat.le_of_ble_eq_true rfl); rw [xri_row rfl rfl] at q; exact q)
          refine jr.iald (i := f) (x := v2) rfl (nlt rfl) rfl (Nat.le_of_ble_eq_true rfl) (by omega) (by omega) e2 ?_
          refine jr.iconst rfl ?_
          refine jr.icmp_eq rfl rfl (by first | (refine rgb (by assumption) ?_; exact rfl) | omega) (rgl rfl) (fun h36 => ?_) (fun h36 => ?_)
          · refine jr.iconst rfl ?_
            refine jr.istore (ls' := [_, _, _, _, _]) rfl (nlt rfl) rfl ?_
            refine jr.iinc (ls' := [_, _, _, _, _]) rfl rfl (nlt rfl) rfl ?_
            refine jr.goto rfl rfl ?_
            refine jr.pick (ls := [_, _, _, _, _]) [0, 1, 2, 3, 4] rfl rfl ?_
            exact ih (nM - 1) (by omega) (f + 1) 0 o a (by omega) (by omega) (by omega) (by omega) (by have h9 := hy0; first | exact Or.inl ⟨rfl, by omega⟩ | exact Or.inl ⟨rfl, by rw [(h9.resolve_left (by omega)).2, tk6_s (by omega), if_pos (by omega)]⟩ | exact Or.inr ⟨rfl, by rw [(h9.resolve_left (by omega)).2, tk6_s (by omega), if_neg (by omega)]⟩) (by omega) (by omega) (by omega)
          · refine jr.aload_n rfl rfl ?_
            refine jr.getf (i := 53) (v := .ref 641) rfl rfl (nlt rfl) rfl (nlt rfl) rfl rfl rfl rfl ?_
            refine jr.iload rfl rfl ?_
            obtain ⟨v3, e3⟩ : ∃ z, M 641 f = z := ⟨_, rfl⟩
            have b3 : (-9223372036854775808) ≤ v3 ∧ v3 ≤ 9223372036854775807 := by rw [← e3]; exact (by have q := hI_M 641 f (Nat.le_of_ble_eq_true rfl); rw [xri_row rfl rfl] at q; exact q)
            refine jr.lald (i := f) (x := v3) rfl (nlt rfl) rfl (Nat.le_of_ble_eq_true rfl) (by omega) (by omega) e3 ?_
            refine jr.lload_n rfl rfl ?_
            refine jr.lcmp_ne rfl rfl rfl (by omega) (by omega) (fun h47 => ?_) (fun h47 => ?_)
            · refine jr.iconst rfl ?_
              refine jr.istore (ls' := [_, _, _, _, _]) rfl (nlt rfl) rfl ?_
              refine jr.iinc (ls' := [_, _, _, _, _]) rfl rfl (nlt rfl) rfl ?_
              refine jr.goto rfl rfl ?_
              refine jr.pick (ls := [_, _, _, _, _]) [0, 1, 2, 3, 4] rfl rfl ?_
              exact ih (nM - 1) (by omega) (f + 1) 0 o a (by omega) (by omega) (by omega) (by omega) (by have h9 := hy0; first | exact Or.inl ⟨rfl, by omega⟩ | exact Or.inl ⟨rfl, by rw [(h9.resolve_left (by omega)).2, tk6_s (by omega), if_pos (by omega)]⟩ | exact Or.inr ⟨rfl, by rw [(h9.resolve_left (by omega)).2, tk6_s (by omega), if_neg (by omega)]⟩) (by omega) (by omega) (by omega)
            · refine jr.aload_n rfl rfl ?_
              refine jr.getf (i := 54) (v := .ref 642) rfl rfl (nlt rfl) rfl (nlt rfl) rfl rfl rfl rfl ?_
              refine jr.iload rfl rfl ?_
              obtain ⟨v4, e4⟩ : ∃ z, M 642 f = z := ⟨_, rfl⟩
              have b4 : 0 ≤ v4 ∧ v4 ≤ 70000 := by rw [← e4]; exact (by have q := hI_M 642 f (Nat.le_of_ble_eq_true rfl); rw [xri_row rfl rfl] at q; exact q)
              refine jr.iald (i := f) (x := v4) rfl (nlt rfl) rfl (Nat.le_of_ble_eq_true rfl) (by omega) (by omega) e4 ?_
              refine jr.iload_n rfl rfl ?_
              refine jr.icmp_ne rfl rfl (by first | (refine rgb (by assumption) ?_; exact rfl) | omega) (by first | (refine rgb (by assumption) ?_; exact rfl) | omega) (fun h59 => ?_) (fun h59 => ?_)
              · refine jr.iconst rfl ?_
                refine jr.istore (ls' := [_, _, _, _, _]) rfl (nlt rfl) rfl ?_
                refine jr.iinc (ls' := [_, _, _, _, _]) rfl rfl (nlt rfl) rfl ?_
                refine jr.goto rfl rfl ?_
                refine jr.pick (ls := [_, _, _, _, _]) [0, 1, 2, 3, 4] rfl rfl ?_
                exact ih (nM - 1) (by omega) (f + 1) 0 o a (by omega) (by omega) (by omega) (by omega) (by have h9 := hy0; first | exact Or.inl ⟨rfl, by omega⟩ | exact Or.inl ⟨rfl, by rw [(h9.resolve_left (by omega)).2, tk6_s (by omega), if_pos (by omega)]⟩ | exact Or.inr ⟨rfl, by rw [(h9.resolve_left (by omega)).2, tk6_s (by omega), if_neg (by omega)]⟩) (by omega) (by omega) (by omega)
              · refine jr.iconst rfl ?_
                refine jr.goto rfl rfl ?_
                refine jr.istore (ls' := [_, _, _, _, _]) rfl (nlt rfl) rfl ?_
                refine jr.iinc (ls' := [_, _, _, _, _]) rfl rfl (nlt rfl) rfl ?_
                refine jr.goto rfl rfl ?_
                refine jr.pick (ls := [_, _, _, _, _]) [0, 1, 2, 3, 4] rfl rfl ?_
                exact ih (nM - 1) (by omega) (f + 1) 1 o a (by omega) (by omega) (by omega) (by omega) (by have h9 := hy0; first | exact Or.inl ⟨rfl, by omega⟩ | exact Or.inl ⟨rfl, by rw [(h9.resolve_left (by omega)).2, tk6_s (by omega), if_pos (by omega)]⟩ | exact Or.inr ⟨rfl, by rw [(h9.resolve_left (by omega)).2, tk6_s (by omega), if_neg (by omega)]⟩) (by omega) (by omega) (by omega)
theorem r_isTaken_x {A : Nat → Option (Nat × (Nat → Int32))} {Q : Option Value → jm → Prop} {M : jm} (hI_M : RI M) (hH_M : RH M) (hS_M : RF M) {a : Int} (h_a : (-9223372036854775808) ≤ a ∧ a ≤ 9223372036854775807) {o : Int} (h_o : (-2147483648) ≤ o ∧ o ≤ 2147483647) (q : ∀ (r : Int), 0 ≤ r ∧ r ≤ 1 → r = tk6 M a o 24 0 → Q (some (.int (Int32.ofInt r))) M) : jc A 1 320 [.ref (598), .long (Int64.ofInt (a)), .int (Int32.ofInt (o))] M Q := by
  refine jc_of (m := xm_320) rfl (Nat.le_of_ble_eq_true rfl) rfl ?_
  refine jr.iconst rfl ?_
  refine jr.istore (ls' := [_, _, _, _]) rfl (nlt rfl) rfl ?_
  refine jr.iconst rfl ?_
  refine jr.istore (ls' := [_, _, _, _, _]) rfl (nlt rfl) rfl ?_
  refine jr.pick (ls := [_, _, _, _, _]) [0, 1, 4, 3, 2] rfl rfl ?_
  exact r_isTaken_L6_x hI_M hH_M hS_M q 24 0 0 o a (by omega) (by omega) (by omega) (by omega) (Or.inr ⟨rfl, rfl⟩) (by omega) (by omega) (by omega)
noncomputable def ch6 (M : jm) (a p : Int) : Nat → Int → Int
  | 0, _ => -1
  | n + 1, i => if tk6 M a (p + i) 24 0 = 0 then i else ch6 M a p n (i + 1)
theorem ch6_s {M : jm} {a p L i : Int} (h : i < L) : ch6 M a p (L - i).toNat i = if tk6 M a (p + i) 24 0 = 0 then i else ch6 M a p (L - (i + 1)).toNat (i + 1) := by
  obtain ⟨n, hn⟩ : ∃ n : Nat, L = i + 1 + n := ⟨(L - i - 1).toNat, by omega⟩
  subst hn
  rw [show (i + 1 + (n : Int) - i).toNat = n + 1 by omega, show (i + 1 + (n : Int) - (i + 1)).toNat = n by omega]
  rfl
theorem ch6_e {M : jm} {a p L i : Int} (h : L ≤ i) : ch6 M a p (L - i).toNat i = -1 := by
  rw [show (L - i).toNat = 0 by omega]
  rfl
theorem r_change_L74_x {A : Nat → Option (Nat × (Nat → Int32))} {Q : Option Value → jm → Prop} {M0 : jm} {f0 : Int} {k0 : Int} (q : ∀ (r : Int) (M' : jm), RI M' → RH M' → RF M' → (-5) ≤ r ∧ r ≤ 65567 → (((f0 < 0 ∨ 23 < f0 ∨ M0 627 f0 = 0) ∧ r = -2 ∧ M' = M0) ∨ (((0 ≤ f0 ∧ f0 ≤ 23) ∧ M0 627 f0 ≠ 0) ∧ (((k0 < 0 ∨ 3 < k0) ∧ r = -3 ∧ M' = M0) ∨ ((0 ≤ k0 ∧ k0 ≤ 3) ∧ (M0 628 f0 ≠ 0 ∨ M0 629 f0 = 1 ∨ M0 640 f0 ≠ -1 ∨ M0 643 k0 = 0) ∧ r = -4 ∧ M' = M0) ∨ (((0 ≤ k0 ∧ k0 ≤ 3) ∧ ¬ (M0 628 f0 ≠ 0 ∨ M0 629 f0 = 1 ∨ M0 640 f0 ≠ -1 ∨ M0 643 k0 = 0)) ∧ ((ch6 M0 (M0 644 k0) (M0 645 k0) (M0 646 k0).toNat 0 = -1 ∧ r = -5 ∧ M' = M0) ∨ (ch6 M0 (M0 644 k0) (M0 645 k0) (M0 646 k0).toNat 0 ≠ -1 ∧ r = M0 645 k0 + ch6 M0 (M0 644 k0) (M0 645 k0) (M0 646 k0).toNat 0 ∧ M' = ju (ju (ju M0 640 f0 k0) 641 f0 (M0 644 k0)) 642 f0 (M0 645 k0 + ch6 M0 (M0 644 k0) (M0 645 k0) (M0 646 k0).toNat 0))))))) → (∀ (a : Nat) (i : Int), a ≠ 640 → a ≠ 641 → a ≠ 642 → M' a i = M0 a i) → Q (some (.int (Int32.ofInt r))) M') : ∀ (nM : Nat) (M : jm) (o : Int) (k : Int) (f : Int), RI M → RH M → RF M → (∀ (a : Nat) (i : Int), a ≠ 640 → a ≠ 641 → a ≠ 642 → M a i = M0 a i) → 0 ≤ o ∧ o ≤ 65567 → 0 ≤ k ∧ k ≤ 3 → 0 ≤ f ∧ f ≤ 23 → M 645 k ≤ o → o ≤ M 645 k + M 646 k → M = M0 → ch6 M0 (M0 644 k) (M0 645 k) (M0 646 k).toNat 0 = ch6 M0 (M0 644 k) (M0 645 k) (M0 646 k - (o - M0 645 k)).toNat (o - M0 645 k) → (M0 627 f ≠ 0 ∧ ¬ (M0 628 f ≠ 0 ∨ M0 629 f = 1 ∨ M0 640 f ≠ -1 ∨ M0 643 k = 0)) → f = f0 → k = k0 → 65600 - o ≤ nM → jr A 2 xm_321 74 [(3, .int (Int32.ofInt (o))), (2, .int (Int32.ofInt (k))), (1, .int (Int32.ofInt (f))), (0, .ref (598))] [] M Q := by
  intro nM
  induction nM using Nat.strongRecOn with
  | ind nM ih =>
    intro M o k f hI_M hH_M hS_M hF_M h_o h_k h_f hy0 hy1 hy2 hy3 hy4 hy5 hy6 hm
    subst hy5
    subst hy6
    refine jr.iload_n rfl rfl ?_
    refine jr.aload_n rfl rfl ?_
    refine jr.getf (i := 57) (v := .ref 645) rfl rfl (nlt rfl) rfl (nlt rfl) rfl rfl rfl rfl ?_
    refine jr.iload_n rfl rfl ?_
    obtain ⟨v1, e1⟩ : ∃ z, M 645 k = z := ⟨_, rfl⟩
    have b1 : 0 ≤ v1 ∧ v1 ≤ 65535 := by rw [← e1]; exact (by have q := hI_M 645 k (Nat.le_of_ble_eq_true rfl); rw [xri_row rfl rfl] at q; exact q)
    refine jr.iald (i := k) (x := v1) rfl (nlt rfl) rfl (Nat.le_of_ble_eq_true rfl) (by omega) (by omega) e1 ?_
    refine jr.aload_n rfl rfl ?_
    refine jr.getf (i := 58) (v := .ref 646) rfl rfl (nlt rfl) rfl (nlt rfl) rfl rfl rfl rfl ?_
    refine jr.iload_n rfl rfl ?_
    obtain ⟨v2, e2⟩ : ∃ z, M 646 k = z := ⟨_, rfl⟩
    have b2 : 0 ≤ v2 ∧ v2 ≤ 32 := by rw [← e2]; exact (by have q := hI_M 646 k (Nat.le_of_ble_eq_true rfl); rw [xri_row rfl rfl] at q; exact q)
    refine jr.iald (i := k) (x := v2) rfl (nlt rfl) rfl (Nat.le_of_ble_eq_true rfl) (by omega) (by omega) e2 ?_
    refine jr.iadd rfl ?_
    refine jr.icmp_ge rfl rfl (by first | (refine rgb (by assumption) ?_; exact rfl) | omega) (by first | (refine rgb (by assumption) ?_; exact rfl) | omega) (fun h88 => ?_) (fun h88 => ?_)
    · refine jr.iload_n rfl rfl ?_
      refine jr.aload_n rfl rfl ?_
      refine jr.getf (i := 57) (v := .ref 645) rfl rfl (nlt rfl) rfl (nlt rfl) rfl rfl rfl rfl ?_
      refine jr.iload_n rfl rfl ?_
      refine jr.iald (i := k) (x := v1) rfl (nlt rfl) rfl (Nat.le_of_ble_eq_true rfl) (by omega) (by omega) e1 ?_
      refine jr.aload_n rfl rfl ?_
      refine jr.getf (i := 58) (v := .ref 646) rfl rfl (nlt rfl) rfl (nlt rfl) rfl rfl rfl rfl ?_
      refine jr.iload_n rfl rfl ?_
      refine jr.iald (i := k) (x := v2) rfl (nlt rfl) rfl (Nat.le_of_ble_eq_true rfl) (by omega) (by omega) e2 ?_
      refine jr.iadd rfl ?_
      refine jr.icmp_ne rfl rfl (by first | (refine rgb (by assumption) ?_; exact rfl) | omega) (by first | (refine rgb (by assumption) ?_; exact rfl) | omega) (fun h125 => ?_) (fun h125 => ?_)
      · refine jr.aload_n rfl rfl ?_
        refine jr.getf (i := 52) (v := .ref 640) rfl rfl (nlt rfl) rfl (nlt rfl) rfl rfl rfl rfl ?_
        refine jr.iload_n rfl rfl ?_
        refine jr.iload_n rfl rfl ?_
        refine jr.iast (i := f) (x := k) rfl (nlt rfl) rfl (Nat.le_of_ble_eq_true rfl) (by omega) (by omega) ?_
        refine jr.aload_n rfl rfl ?_
        refine jr.getf (i := 53) (v := .ref 641) rfl rfl (nlt rfl) rfl (nlt rfl) rfl rfl rfl rfl ?_
        refine jr.iload_n rfl rfl ?_
        refine jr.aload_n rfl rfl ?_
        refine jr.getf (i := 56) (v := .ref 644) rfl rfl (nlt rfl) rfl (nlt rfl) rfl rfl rfl rfl ?_
        refine jr.iload_n rfl rfl ?_
        obtain ⟨v3, e3⟩ : ∃ z, M 644 k = z := ⟨_, rfl⟩
        have b3 : (-9223372036854775808) ≤ v3 ∧ v3 ≤ 9223372036854775807 := by rw [← e3]; exact (by have q := hI_M 644 k (Nat.le_of_ble_eq_true rfl); rw [xri_row rfl rfl] at q; exact q)
        refine jr.lald (i := k) (x := v3) rfl (nlt rfl) rfl (Nat.le_of_ble_eq_true rfl) (by omega) (by omega) ((ju_c _ _ (by decide)).trans e3) ?_
        refine jr.last (i := f) (x := v3) rfl (nlt rfl) rfl (Nat.le_of_ble_eq_true rfl) (by omega) (by omega) ?_
        refine jr.aload_n rfl rfl ?_
        refine jr.getf (i := 54) (v := .ref 642) rfl rfl (nlt rfl) rfl (nlt rfl) rfl rfl rfl rfl ?_
        refine jr.iload_n rfl rfl ?_
        refine jr.iload_n rfl rfl ?_
        refine jr.iast (i := f) (x := o) rfl (nlt rfl) rfl (Nat.le_of_ble_eq_true rfl) (by omega) (by omega) ?_
        refine jr.iload_n rfl rfl ?_
        exact jr.ireturn rfl rfl rfl (q _ _ (RI.u (RI.u (RI.u hI_M (a := 640) (i := f) (by rw [xri_row rfl rfl]; show (-1 : Int) ≤ _ ∧ _ ≤ (3 : Int); omega)) (a := 641) (i := f) (by rw [xri_row rfl rfl]; show (-9223372036854775808 : Int) ≤ _ ∧ _ ≤ (9223372036854775807 : Int); omega)) (a := 642) (i := f) (by rw [xri_row rfl rfl]; show (0 : Int) ≤ _ ∧ _ ≤ (70000 : Int); omega)) (RH.o (RH.o (RH.o hH_M (by decide) (by decide) (by decide)) (by decide) (by decide) (by decide)) (by decide) (by decide) (by decide)) (RF.o (RF.o (RF.o hS_M (by decide) (by decide)) (by decide) (by decide)) (by decide) (by decide))  (by omega) (by exfalso; omega) (fun a i f640 f641 f642 => ((ju_c _ _ f642).trans ((ju_c _ _ f641).trans ((ju_c _ _ f640).trans (hF_M a i f640 f641 f642))))))
      · refine jr.bipush rfl (by decide) ?_
        exact jr.ireturn rfl rfl rfl (q _ _ hI_M hH_M hS_M  (by first | exact rgq rfl | omega) (by first | (exfalso; omega) | (have q1 : M0 646 k = v2 := (by rw [← hy2]; exact e2); have q2 : M0 645 k = v1 := (by rw [← hy2]; exact e1); exact Or.inr ⟨by have h9 := hy4.1; omega, Or.inr (Or.inr ⟨⟨by omega, hy4.2⟩, Or.inl ⟨by rw [hy3, ch6_e (by omega)], by omega, hy2⟩⟩)⟩)) (fun a i f640 f641 f642 => (hF_M a i f640 f641 f642)))
    · refine jr.aload_n rfl rfl ?_
      refine jr.aload_n rfl rfl ?_
      refine jr.getf (i := 56) (v := .ref 644) rfl rfl (nlt rfl) rfl (nlt rfl) rfl rfl rfl rfl ?_
      refine jr.iload_n rfl rfl ?_
      obtain ⟨v4, e4⟩ : ∃ z, M 644 k = z := ⟨_, rfl⟩
      have b4 : (-9223372036854775808) ≤ v4 ∧ v4 ≤ 9223372036854775807 := by rw [← e4]; exact (by have q := hI_M 644 k (Nat.le_of_ble_eq_true rfl); rw [xri_row rfl rfl] at q; exact q)
      refine jr.lald (i := k) (x := v4) rfl (nlt rfl) rfl (Nat.le_of_ble_eq_true rfl) (by omega) (by omega) e4 ?_
      refine jr.iload_n rfl rfl ?_
      refine jr_v rfl rfl (Or.inl rfl) rfl rfl (nlt rfl) rfl ⟨rfl, Nat.le_of_ble_eq_true rfl, Nat.le_of_ble_eq_true rfl⟩ rfl (jc.deep (r_isTaken_x hI_M hH_M hS_M  (by omega) (by omega)  (fun r5 z5 w5_0 => ?_)) (Nat.le_of_ble_eq_true rfl))
      refine jr.if_eq rfl rfl (by first | (refine rgb (by assumption) ?_; exact rfl) | omega) (fun h102 => ?_) (fun h102 => ?_)
      · refine jr.iload_n rfl rfl ?_
        refine jr.aload_n rfl rfl ?_
        refine jr.getf (i := 57) (v := .ref 645) rfl rfl (nlt rfl) rfl (nlt rfl) rfl rfl rfl rfl ?_
        refine jr.iload_n rfl rfl ?_
        refine jr.iald (i := k) (x := v1) rfl (nlt rfl) rfl (Nat.le_of_ble_eq_true rfl) (by omega) (by omega) e1 ?_
        refine jr.aload_n rfl rfl ?_
        refine jr.getf (i := 58) (v := .ref 646) rfl rfl (nlt rfl) rfl (nlt rfl) rfl rfl rfl rfl ?_
        refine jr.iload_n rfl rfl ?_
        refine jr.iald (i := k) (x := v2) rfl (nlt rfl) rfl (Nat.le_of_ble_eq_true rfl) (by omega) (by omega) e2 ?_
        refine jr.iadd rfl ?_
        refine jr.icmp_ne rfl rfl (by first | (refine rgb (by assumption) ?_; exact rfl) | omega) (by first | (refine rgb (by assumption) ?_; exact rfl) | omega) (fun h125 => ?_) (fun h125 => ?_)
        · refine jr.aload_n rfl rfl ?_
          refine jr.getf (i := 52) (v := .ref 640) rfl rfl (nlt rfl) rfl (nlt rfl) rfl rfl rfl rfl ?_
          refine jr.iload_n rfl rfl ?_
          refine jr.iload_n rfl rfl ?_
          refine jr.iast (i := f) (x := k) rfl (nlt rfl) rfl (Nat.le_of_ble_eq_true rfl) (by omega) (by omega) ?_
          refine jr.aload_n rfl rfl ?_
          refine jr.getf (i := 53) (v := .ref 641) rfl rfl (nlt rfl) rfl (nlt rfl) rfl rfl rfl rfl ?_
          refine jr.iload_n rfl rfl ?_
          refine jr.aload_n rfl rfl ?_
          refine jr.getf (i := 56) (v := .ref 644) rfl rfl (nlt rfl) rfl (nlt rfl) rfl rfl rfl rfl ?_
          refine jr.iload_n rfl rfl ?_
          refine jr.lald (i := k) (x := v4) rfl (nlt rfl) rfl (Nat.le_of_ble_eq_true rfl) (by omega) (by omega) ((ju_c _ _ (by decide)).trans e4) ?_
          refine jr.last (i := f) (x := v4) rfl (nlt rfl) rfl (Nat.le_of_ble_eq_true rfl) (by omega) (by omega) ?_
          refine jr.aload_n rfl rfl ?_
          refine jr.getf (i := 54) (v := .ref 642) rfl rfl (nlt rfl) rfl (nlt rfl) rfl rfl rfl rfl ?_
          refine jr.iload_n rfl rfl ?_
          refine jr.iload_n rfl rfl ?_
          refine jr.iast (i := f) (x := o) rfl (nlt rfl) rfl (Nat.le_of_ble_eq_true rfl) (by omega) (by omega) ?_
          refine jr.iload_n rfl rfl ?_
          exact jr.ireturn rfl rfl rfl (q _ _ (RI.u (RI.u (RI.u hI_M (a := 640) (i := f) (by rw [xri_row rfl rfl]; show (-1 : Int) ≤ _ ∧ _ ≤ (3 : Int); omega)) (a := 641) (i := f) (by rw [xri_row rfl rfl]; show (-9223372036854775808 : Int) ≤ _ ∧ _ ≤ (9223372036854775807 : Int); omega)) (a := 642) (i := f) (by rw [xri_row rfl rfl]; show (0 : Int) ≤ _ ∧ _ ≤ (70000 : Int); omega)) (RH.o (RH.o (RH.o hH_M (by decide) (by decide) (by decide)) (by decide) (by decide) (by decide)) (by decide) (by decide) (by decide)) (RF.o (RF.o (RF.o hS_M (by decide) (by decide)) (by decide) (by decide)) (by decide) (by decide))  (by omega) (by first | (exfalso; omega) | (have q1 : M0 646 k = v2 := (by rw [← hy2]; exact e2); have q2 : M0 645 k = v1 := (by rw [← hy2]; exact e1); have q3 : M0 644 k = v4 := (by rw [← hy2]; exact e4); have hz : ch6 M0 (M0 644 k) (M0 645 k) (M0 646 k).toNat 0 = o - v1 := (by rw [hy3, q1, q2, q3, ch6_s (by omega), if_pos (by rw [← hy2, show v1 + (o - v1) = o from by omega, ← w5_0]; omega)]); exact Or.inr ⟨by have h9 := hy4.1; omega, Or.inr (Or.inr ⟨⟨by omega, hy4.2⟩, Or.inr ⟨by rw [hz]; omega, by rw [hz, q2]; omega, by rw [hz, q2, q3, hy2, show v1 + (o - v1) = o from by omega]⟩⟩)⟩)) (fun a i f640 f641 f642 => ((ju_c _ _ f642).trans ((ju_c _ _ f641).trans ((ju_c _ _ f640).trans (hF_M a i f640 f641 f642))))))
        · refine jr.bipush rfl (by decide) ?_
          exact jr.ireturn rfl rfl rfl (q _ _ hI_M hH_M hS_M  (by first | exact rgq rfl | omega) (by first | (exfalso; omega) | (have q1 : M0 646 k = v2 := (by rw [← hy2]; exact e2); have q2 : M0 645 k = v1 := (by rw [← hy2]; exact e1); have q3 : M0 644 k = v4 := (by rw [← hy2]; exact e4); exact Or.inr ⟨by have h9 := hy4.1; omega, Or.inr (Or.inr ⟨⟨by omega, hy4.2⟩, Or.inl ⟨by rw [hy3, ch6_e (by omega)], by omega, hy2⟩⟩)⟩)) (fun a i f640 f641 f642 => (hF_M a i f640 f641 f642)))
      · have sx102 : (1 : Int) ≤ r5 := by omega
        clear h102
        refine jr.iinc (ls' := [_, _, _, _]) rfl rfl (nlt rfl) rfl ?_
        refine jr.goto rfl rfl ?_
        refine jr.pick (ls := [_, _, _, _]) [0, 1, 2, 3] rfl rfl ?_
        exact ih (nM - 1) (by omega) M (o + 1) k f hI_M hH_M hS_M  (fun a i f640 f641 f642 => (hF_M a i f640 f641 f642)) (by omega) (by omega) (by omega) (by omega) (by omega) hy2 (by have q1 : M0 646 k = v2 := (by rw [← hy2]; exact e2); have q2 : M0 645 k = v1 := (by rw [← hy2]; exact e1); have q3 : M0 644 k = v4 := (by rw [← hy2]; exact e4); rw [hy3, q1, q2, q3, ch6_s (by omega), if_neg (by rw [← hy2, show v1 + (o - v1) = o from by omega, ← w5_0]; omega), show o - v1 + 1 = o + 1 - v1 from by omega]) hy4 (by omega) (by omega) (by omega)
theorem r_change_x {A : Nat → Option (Nat × (Nat → Int32))} {Q : Option Value → jm → Prop} {M : jm} (hI_M : RI M) (hH_M : RH M) (hS_M : RF M) {f : Int} (h_f : (-2147483648) ≤ f ∧ f ≤ 2147483647) {k : Int} (h_k : (-2147483648) ≤ k ∧ k ≤ 2147483647) (q : ∀ (r : Int) (M' : jm), RI M' → RH M' → RF M' → (-5) ≤ r ∧ r ≤ 65567 → (((f < 0 ∨ 23 < f ∨ M 627 f = 0) ∧ r = -2 ∧ M' = M) ∨ (((0 ≤ f ∧ f ≤ 23) ∧ M 627 f ≠ 0) ∧ (((k < 0 ∨ 3 < k) ∧ r = -3 ∧ M' = M) ∨ ((0 ≤ k ∧ k ≤ 3) ∧ (M 628 f ≠ 0 ∨ M 629 f = 1 ∨ M 640 f ≠ -1 ∨ M 643 k = 0) ∧ r = -4 ∧ M' = M) ∨ (((0 ≤ k ∧ k ≤ 3) ∧ ¬ (M 628 f ≠ 0 ∨ M 629 f = 1 ∨ M 640 f ≠ -1 ∨ M 643 k = 0)) ∧ ((ch6 M (M 644 k) (M 645 k) (M 646 k).toNat 0 = -1 ∧ r = -5 ∧ M' = M) ∨ (ch6 M (M 644 k) (M 645 k) (M 646 k).toNat 0 ≠ -1 ∧ r = M 645 k + ch6 M (M 644 k) (M 645 k) (M 646 k).toNat 0 ∧ M' = ju (ju (ju M 640 f k) 641 f (M 644 k)) 642 f (M 645 k + ch6 M (M 644 k) (M 645 k) (M 646 k).toNat 0))))))) → (∀ (a : Nat) (i : Int), a ≠ 640 → a ≠ 641 → a ≠ 642 → M' a i = M a i) → Q (some (.int (Int32.ofInt r))) M') : jc A 3 321 [.ref (598), .int (Int32.ofInt (f)), .int (Int32.ofInt (k))] M Q := by
  have bq : (0 : Int) ≤ M 646 k ∧ M 646 k ≤ 32 := by have q := hI_M 646 k (Nat.le_of_ble_eq_true rfl); rw [xri_row rfl rfl] at q; exact q
  refine jc_of (m := xm_321) rfl (Nat.le_of_ble_eq_true rfl) rfl ?_
  refine jr.aload_n rfl rfl ?_
  refine jr.iload_n rfl rfl ?_
  refine jr_v rfl rfl (Or.inl rfl) rfl rfl (nlt rfl) rfl ⟨rfl, Nat.le_of_ble_eq_true rfl, Nat.le_of_ble_eq_true rfl⟩ rfl (jc.deep (c_isFlow hI_M (by omega) (fun l2 u2 t2 => ?_) (fun n2 => ?_)) (Nat.le_of_ble_eq_true rfl))
  · refine jr.if_ne rfl rfl (by first | exact rgl rfl | omega) (fun _ => ?_) (fun h => absurd (by decide) h)
    refine jr.iload_n rfl rfl ?_
    refine jr.i2l rfl (by omega) ?_
    refine jr.lconst (x := 0) rfl (by decide) ?_
    refine jr.ldc2 (x := 3) rfl rfl (by decide) ?_
    refine jr_s rfl rfl (Or.inl rfl) ⟨Nat.le_of_ble_eq_true rfl, Nat.le_of_ble_eq_true rfl⟩ rfl rfl (jc.deep (c_within (by omega) (by omega) (by omega) (fun l17 u17 => ?_) (fun n17 => ?_)) (Nat.le_of_ble_eq_true rfl))
    · refine jr.if_ne rfl rfl (by first | exact rgl rfl | omega) (fun _ => ?_) (fun h => absurd (by decide) h)
      refine jr.aload_n rfl rfl ?_
      refine jr.getf (i := 40) (v := .ref 628) rfl rfl (nlt rfl) rfl (nlt rfl) rfl rfl rfl rfl ?_
      refine jr.iload_n rfl rfl ?_
      obtain ⟨v1, e1⟩ : ∃ z, M 628 f = z := ⟨_, rfl⟩
      have b1 : 0 ≤ v1 ∧ v1 ≤ 1 := by rw [← e1]; exact (by have q := hI_M 628 f (Nat.le_of_ble_eq_true rfl); rw [xri_row rfl rfl] at q; exact q)
      refine jr.zald (i := f) (x := v1) rfl (nlt rfl) rfl (Nat.le_of_ble_eq_true rfl) (by omega) (by omega) e1 ?_
      refine jr.if_ne rfl rfl (by first | (refine rgb (by assumption) ?_; exact rfl) | omega) (fun h32 => ?_) (fun h32 => ?_)
      · have sx32 : (1 : Int) ≤ v1 := by omega
        clear h32
        refine jr.bipush rfl (by decide) ?_
        exact jr.ireturn rfl rfl rfl (q _ _ hI_M hH_M hS_M  (by first | exact rgq rfl | omega) (Or.inr ⟨by omega, by first | exact Or.inl ⟨by omega, by omega, rfl⟩ | exact Or.inr (Or.inl ⟨by omega, by omega, by omega, rfl⟩)⟩) (fun a i f640 f641 f642 => rfl))
      · refine jr.aload_n rfl rfl ?_
        refine jr.getf (i := 41) (v := .ref 629) rfl rfl (nlt rfl) rfl (nlt rfl) rfl rfl rfl rfl ?_
        refine jr.iload_n rfl rfl ?_
        obtain ⟨v2, e2⟩ : ∃ z, M 629 f = z := ⟨_, rfl⟩
        have b2 : 0 ≤ v2 ∧ v2 ≤ 255 := by rw [← e2]; exact (by have q := hI_M 629 f (Nat.le_of_ble_eq_true rfl); rw [xri_row rfl rfl] at q; exact q)
        refine jr.iald (i := f) (x := v2) rfl (nlt rfl) rfl (Nat.le_of_ble_eq_true rfl) (by omega) (by omega) e2 ?_
        refine jr.iconst rfl ?_
        refine jr.icmp_eq rfl rfl (by first | (refine rgb (by assumption) ?_; exact rfl) | omega) (rgl rfl) (fun h42 => ?_) (fun h42 => ?_)
        · refine jr.bipush rfl (by decide) ?_
          exact jr.ireturn rfl rfl rfl (q _ _ hI_M hH_M hS_M  (by first | exact rgq rfl | omega) (Or.inr ⟨by omega, by first | exact Or.inl ⟨by omega, by omega, rfl⟩ | exact Or.inr (Or.inl ⟨by omega, by omega, by omega, rfl⟩)⟩) (fun a i f640 f641 f642 => rfl))
        · refine jr.aload_n rfl rfl ?_
          refine jr.getf (i := 52) (v := .ref 640) rfl rfl (nlt rfl) rfl (nlt rfl) rfl rfl rfl rfl ?_
          refine jr.iload_n rfl rfl ?_
          obtain ⟨v3, e3⟩ : ∃ z, M 640 f = z := ⟨_, rfl⟩
          have b3 : (-1) ≤ v3 ∧ v3 ≤ 3 := by rw [← e3]; exact (by have q := hI_M 640 f (Nat.le_of_ble_eq_true rfl); rw [xri_row rfl rfl] at q; exact q)
          refine jr.iald (i := f) (x := v3) rfl (nlt rfl) rfl (Nat.le_of_ble_eq_true rfl) (by omega) (by omega) e3 ?_
          refine jr.iconst rfl ?_
          refine jr.icmp_ne rfl rfl (by first | (refine rgb (by assumption) ?_; exact rfl) | omega) (rgl rfl) (fun h52 => ?_) (fun h52 => ?_)
          · have sx52 : (0 : Int) ≤ v3 := by omega
            clear h52
            refine jr.bipush rfl (by decide) ?_
            exact jr.ireturn rfl rfl rfl (q _ _ hI_M hH_M hS_M  (by first | exact rgq rfl | omega) (Or.inr ⟨by omega, by first | exact Or.inl ⟨by omega, by omega, rfl⟩ | exact Or.inr (Or.inl ⟨by omega, by omega, by omega, rfl⟩)⟩) (fun a i f640 f641 f642 => rfl))
          · refine jr.aload_n rfl rfl ?_
            refine jr.getf (i := 55) (v := .ref 643) rfl rfl (nlt rfl) rfl (nlt rfl) rfl rfl rfl rfl ?_
            refine jr.iload_n rfl rfl ?_
            obtain ⟨v4, e4⟩ : ∃ z, M 643 k = z := ⟨_, rfl⟩
            have b4 : 0 ≤ v4 ∧ v4 ≤ 1 := by rw [← e4]; exact (by have q := hI_M 643 k (Nat.le_of_ble_eq_true rfl); rw [xri_row rfl rfl] at q; exact q)
            refine jr.zald (i := k) (x := v4) rfl (nlt rfl) rfl (Nat.le_of_ble_eq_true rfl) (by omega) (by omega) e4 ?_
            refine jr.if_ne rfl rfl (by first | (refine rgb (by assumption) ?_; exact rfl) | omega) (fun h61 => ?_) (fun h61 => ?_)
            · have sx61 : (1 : Int) ≤ v4 := by omega
              clear h61
              refine jr.aload_n rfl rfl ?_
              refine jr.getf (i := 57) (v := .ref 645) rfl rfl (nlt rfl) rfl (nlt rfl) rfl rfl rfl rfl ?_
              refine jr.iload_n rfl rfl ?_
              obtain ⟨v5, e5⟩ : ∃ z, M 645 k = z := ⟨_, rfl⟩
              have b5 : 0 ≤ v5 ∧ v5 ≤ 65535 := by rw [← e5]; exact (by have q := hI_M 645 k (Nat.le_of_ble_eq_true rfl); rw [xri_row rfl rfl] at q; exact q)
              refine jr.iald (i := k) (x := v5) rfl (nlt rfl) rfl (Nat.le_of_ble_eq_true rfl) (by omega) (by omega) e5 ?_
              refine jr.istore_n (ls' := [_, _, _, _]) rfl (nlt rfl) rfl ?_
              refine jr.pick (ls := [_, _, _, _]) [0, 3, 2, 1] rfl rfl ?_
              exact r_change_L74_x q 65600 M v5 k f hI_M hH_M hS_M  (fun a i f640 f641 f642 => rfl) (by omega) (by omega) (by omega) (by omega) (by omega) rfl (by rw [show v5 - M 645 k = 0 from by omega, show M 646 k - 0 = M 646 k from by omega]) ⟨by omega, by omega⟩ (by omega) (by omega) (by omega)
            · refine jr.bipush rfl (by decide) ?_
              exact jr.ireturn rfl rfl rfl (q _ _ hI_M hH_M hS_M  (by first | exact rgq rfl | omega) (Or.inr ⟨by omega, by first | exact Or.inl ⟨by omega, by omega, rfl⟩ | exact Or.inr (Or.inl ⟨by omega, by omega, by omega, rfl⟩)⟩) (fun a i f640 f641 f642 => rfl))
    · refine jr.if_ne rfl rfl (by first | exact rgl rfl | omega) (fun h => absurd h (by decide)) (fun _ => ?_)
      refine jr.bipush rfl (by decide) ?_
      exact jr.ireturn rfl rfl rfl (q _ _ hI_M hH_M hS_M  (by first | exact rgq rfl | omega) (Or.inr ⟨by omega, by first | exact Or.inl ⟨by omega, by omega, rfl⟩ | exact Or.inr (Or.inl ⟨by omega, by omega, by omega, rfl⟩)⟩) (fun a i f640 f641 f642 => rfl))
  · refine jr.if_ne rfl rfl (by first | exact rgl rfl | omega) (fun h => absurd h (by decide)) (fun _ => ?_)
    refine jr.bipush rfl (by decide) ?_
    exact jr.ireturn rfl rfl rfl (q _ _ hI_M hH_M hS_M  (by first | exact rgq rfl | omega) (Or.inl ⟨by omega, by omega, rfl⟩) (fun a i f640 f641 f642 => rfl))
end
