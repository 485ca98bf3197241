section
/-! ===== the class: ends, sides, the flow of ends ===== -/
noncomputable def sdF (M : jm) (t x : Nat) : Int := if M t 0 = 0 ∨ M t 1 ≠ M x 1 ∨ M t 2 ≠ M x 2 then -1 else if (M (x + 1) 0 = M (t + 1) 0 ∧ M (x + 2) 0 = M (t + 2) 0) ∧ (M (x + 1) 1 = M (t + 1) 1 ∧ M (x + 2) 1 = M (t + 2) 1) then 0 else if ((M t 13 = -1 ∧ M (x + 1) 1 = M (t + 1) 0 ∧ M (x + 2) 1 = M (t + 2) 0) ∨ (M t 13 ≠ -1 ∧ M (x + 1) 1 = M t 14 ∧ M (x + 2) 1 = M t 15)) ∧ (M (x + 1) 0 = M (t + 1) 1 ∧ M (x + 2) 0 = M (t + 2) 1) then 1 else -1
theorem sd_n {M : jm} {t x : Nat} (h : M t 0 = 0 ∨ M t 1 ≠ M x 1 ∨ M t 2 ≠ M x 2) : sdF M t x = -1 := by
  unfold sdF
  rw [if_pos h]
theorem sd_0 {M : jm} {t x : Nat} (h : ¬ (M t 0 = 0 ∨ M t 1 ≠ M x 1 ∨ M t 2 ≠ M x 2)) (h1 : (M (x + 1) 0 = M (t + 1) 0 ∧ M (x + 2) 0 = M (t + 2) 0) ∧ (M (x + 1) 1 = M (t + 1) 1 ∧ M (x + 2) 1 = M (t + 2) 1)) : sdF M t x = 0 := by
  unfold sdF
  rw [if_neg h, if_pos h1]
theorem sd_1 {M : jm} {t x : Nat} (h : ¬ (M t 0 = 0 ∨ M t 1 ≠ M x 1 ∨ M t 2 ≠ M x 2)) (h1 : ¬ ((M (x + 1) 0 = M (t + 1) 0 ∧ M (x + 2) 0 = M (t + 2) 0) ∧ (M (x + 1) 1 = M (t + 1) 1 ∧ M (x + 2) 1 = M (t + 2) 1))) (h2 : (M t 13 = -1 ∧ M (x + 1) 1 = M (t + 1) 0 ∧ M (x + 2) 1 = M (t + 2) 0) ∨ (M t 13 ≠ -1 ∧ M (x + 1) 1 = M t 14 ∧ M (x + 2) 1 = M t 15)) (h3 : M (x + 1) 0 = M (t + 1) 1 ∧ M (x + 2) 0 = M (t + 2) 1) : sdF M t x = 1 := by
  unfold sdF
  rw [if_neg h, if_neg h1, if_pos ⟨h2, h3⟩]
theorem sd_m {M : jm} {t x : Nat} (h : ¬ (M t 0 = 0 ∨ M t 1 ≠ M x 1 ∨ M t 2 ≠ M x 2)) (h1 : ¬ ((M (x + 1) 0 = M (t + 1) 0 ∧ M (x + 2) 0 = M (t + 2) 0) ∧ (M (x + 1) 1 = M (t + 1) 1 ∧ M (x + 2) 1 = M (t + 2) 1))) (h2 : ¬ (((M t 13 = -1 ∧ M (x + 1) 1 = M (t + 1) 0 ∧ M (x + 2) 1 = M (t + 2) 0) ∨ (M t 13 ≠ -1 ∧ M (x + 1) 1 = M t 14 ∧ M (x + 2) 1 = M t 15)) ∧ (M (x + 1) 0 = M (t + 1) 1 ∧ M (x + 2) 0 = M (t + 2) 1))) : sdF M t x = -1 := by
  unfold sdF
  rw [if_neg h, if_neg h1, if_neg h2]
theorem sd_r (M : jm) (t x : Nat) : sdF M t x = -1 ∨ (M t 0 ≠ 0 ∧ M t 2 = M x 2 ∧ (sdF M t x = 0 ∨ sdF M t x = 1)) := by
  unfold sdF
  (repeat' split) <;> omega
/-- the first flow that has these ends -/
noncomputable def feF (M : jm) (V : Nat) : Nat → Int → Int
  | 0, _ => -1
  | n + 1, i => if sdF M (xe V i) 18 ≠ -1 then i else feF M V n (i + 1)
theorem feF_s {M : jm} {V : Nat} {i : Int} (h : i < 24) : feF M V (24 - i).toNat i = if sdF M (xe V i) 18 ≠ -1 then i else feF M V (24 - (i + 1)).toNat (i + 1) := by
  obtain ⟨n, hn⟩ : ∃ n : Nat, i = 23 - n := ⟨(23 - i).toNat, by omega⟩
  subst hn
  rw [show (24 - (23 - (n : Int))).toNat = n + 1 by omega, show (24 - (23 - (n : Int) + 1)).toNat = n by omega]
  rfl
theorem c_Flow_hasEnd_x {A : Nat → Option (Nat × (Nat → Int32))} {Q : Option Value → jm → Prop} {M : jm} (hC_M : CI M) {x : Nat} (k_x : kd x = 1) {y : Int} (h_y : 0 ≤ y ∧ y ≤ 1) {z : Int} (h_z : (-9223372036854775808) ≤ z ∧ z ≤ 9223372036854775807) {u : Int} (h_u : (-2147483648) ≤ u ∧ u ≤ 2147483647) (q : ∀ (r : Int), 0 ≤ r ∧ r ≤ 1 → ((r = 1 ∧ (M (x + 1) y = z ∧ M (x + 2) y = u)) ∨ (r = 0 ∧ ¬ (M (x + 1) y = z ∧ M (x + 2) y = u))) → Q (some (.int (Int32.ofInt r))) M) : jc A 1 66 [.ref (x), .int (Int32.ofInt (y)), .long (Int64.ofInt (z)), .int (Int32.ofInt (u))] M Q := by
  refine jc_of (m := xm_66) rfl (Nat.le_of_ble_eq_true rfl) rfl ?_
  refine jr.aload_n rfl rfl ?_
  have k1 := kf_1_3 k_x
  refine jr.getf (i := 3) (v := .ref (x + 1)) rfl rfl (Nat.lt_trans (kx_1 k_x).1 (by decide)) (kx_1 k_x).2 (by decide) rfl rfl rfl (jval_ref rfl k1.1) ?_
  refine jr.iload_n rfl rfl ?_
  obtain ⟨v2, e2⟩ : ∃ z_, M ((x + 1)) y = z_ := ⟨_, rfl⟩
  have b2 : (-9223372036854775808) ≤ v2 ∧ v2 ≤ 9223372036854775807 := by rw [← e2]; exact (CI.r hC_M k1.2 (by decide) y)
  refine jr.lald (i := y) (x := v2) rfl (Nat.lt_trans (kx_2 k1.2).1 (by decide)) (kx_2 k1.2).2 (by decide) (by omega) (by omega) e2 ?_
  refine jr.lload_n rfl rfl ?_
  refine jr.lcmp_ne rfl rfl rfl (by omega) (by omega) (fun h7 => ?_) (fun h7 => ?_)
  · refine jr.iconst rfl ?_
    exact jr.ireturn rfl rfl rfl (q _ (by first | exact rgq rfl | omega) (by omega))
  · refine jr.aload_n rfl rfl ?_
    have k3 := kf_1_4 k_x
    refine jr.getf (i := 4) (v := .ref (x + 2)) rfl rfl (Nat.lt_trans (kx_1 k_x).1 (by decide)) (kx_1 k_x).2 (by decide) rfl rfl rfl (jval_ref rfl k3.1) ?_
    refine jr.iload_n rfl rfl ?_
    obtain ⟨v4, e4⟩ : ∃ z_, M ((x + 2)) y = z_ := ⟨_, rfl⟩
    have b4 : (-2147483648) ≤ v4 ∧ v4 ≤ 2147483647 := by rw [← e4]; exact (CI.r hC_M k3.2 (by decide) y)
    refine jr.iald (i := y) (x := v4) rfl (Nat.lt_trans (kx_7 k3.2).1 (by decide)) (kx_7 k3.2).2 (by decide) (by omega) (by omega) e4 ?_
    refine jr.iload rfl rfl ?_
    refine jr.icmp_ne rfl rfl (by first | (refine rgb (by assumption) ?_; exact rfl) | omega) (by first | (refine rgb (by assumption) ?_; exact rfl) | omega) (fun h19 => ?_) (fun h19 => ?_)
    · refine jr.iconst rfl ?_
      exact jr.ireturn rfl rfl rfl (q _ (by first | exact rgq rfl | omega) (by omega))
    · refine jr.iconst rfl ?_
      refine jr.goto rfl rfl ?_
      exact jr.ireturn rfl rfl rfl (q _ (by first | exact rgq rfl | omega) (by omega))
theorem c_Flow_sideOf_x {A : Nat → Option (Nat × (Nat → Int32))} {Q : Option Value → jm → Prop} {M : jm} (hC_M : CI M) {t : Nat} (k_t : kd t = 1) {x : Nat} (k_x : kd x = 1) (q : ∀ (r : Int), (-1) ≤ r ∧ r ≤ 1 → (r = sdF M t x) → Q (some (.int (Int32.ofInt r))) M) : jc A 2 60 [.ref (t), .ref (x)] M Q := by
  refine jc_of (m := xm_60) rfl (Nat.le_of_ble_eq_true rfl) rfl ?_
  refine jr.aload_n rfl rfl ?_
  obtain ⟨v1, e1⟩ : ∃ z_, M t 0 = z_ := ⟨_, rfl⟩
  have b1 : 0 ≤ v1 ∧ v1 ≤ 1 := by rw [← e1]; exact (CI.r hC_M k_t (by decide) 0)
  refine jr.getf (i := 0) (x := v1) (v := .int (Int32.ofInt (v1))) rfl rfl (Nat.lt_trans (kx_1 k_t).1 (by decide)) (kx_1 k_t).2 (by decide) rfl rfl e1 rfl ?_
  refine jr.if_eq rfl rfl (by first | (refine rgb (by assumption) ?_; exact rfl) | omega) (fun h4 => ?_) (fun h4 => ?_)
  · refine jr.iconst rfl ?_
    exact jr.ireturn rfl rfl rfl (q _ (by first | exact rgq rfl | omega) (by rw [sd_n (by omega)]))
  · have sx4 : (1 : Int) ≤ v1 := by omega
    clear h4
    refine jr.aload_n rfl rfl ?_
    obtain ⟨v2, e2⟩ : ∃ z_, M t 1 = z_ := ⟨_, rfl⟩
    have b2 : 0 ≤ v2 ∧ v2 ≤ 1 := by rw [← e2]; exact (CI.r hC_M k_t (by decide) 1)
    refine jr.getf (i := 1) (x := v2) (v := .int (Int32.ofInt (v2))) rfl rfl (Nat.lt_trans (kx_1 k_t).1 (by decide)) (kx_1 k_t).2 (by decide) rfl rfl e2 rfl ?_
    refine jr.aload_n rfl rfl ?_
    obtain ⟨v3, e3⟩ : ∃ z_, M x 1 = z_ := ⟨_, rfl⟩
    have b3 : 0 ≤ v3 ∧ v3 ≤ 1 := by rw [← e3]; exact (CI.r hC_M k_x (by decide) 1)
    refine jr.getf (i := 1) (x := v3) (v := .int (Int32.ofInt (v3))) rfl rfl (Nat.lt_trans (kx_1 k_x).1 (by decide)) (kx_1 k_x).2 (by decide) rfl rfl e3 rfl ?_
    refine jr.icmp_ne rfl rfl (by first | (refine rgb (by assumption) ?_; exact rfl) | omega) (by first | (refine rgb (by assumption) ?_; exact rfl) | omega) (fun h15 => ?_) (fun h15 => ?_)
    · refine jr.iconst rfl ?_
      exact jr.ireturn rfl rfl rfl (q _ (by first | exact rgq rfl | omega) (by rw [sd_n (by omega)]))
    · refine jr.aload_n rfl rfl ?_
      obtain ⟨v4, e4⟩ : ∃ z_, M t 2 = z_ := ⟨_, rfl⟩
      have b4 : (-2147483648) ≤ v4 ∧ v4 ≤ 2147483647 := by rw [← e4]; exact (CI.r hC_M k_t (by decide) 2)
      refine jr.getf (i := 2) (x := v4) (v := .int (Int32.ofInt (v4))) rfl rfl (Nat.lt_trans (kx_1 k_t).1 (by decide)) (kx_1 k_t).2 (by decide) rfl rfl e4 rfl ?_
      refine jr.aload_n rfl rfl ?_
      obtain ⟨v5, e5⟩ : ∃ z_, M x 2 = z_ := ⟨_, rfl⟩
      have b5 : (-2147483648) ≤ v5 ∧ v5 ≤ 2147483647 := by rw [← e5]; exact (CI.r hC_M k_x (by decide) 2)
      refine jr.getf (i := 2) (x := v5) (v := .int (Int32.ofInt (v5))) rfl rfl (Nat.lt_trans (kx_1 k_x).1 (by decide)) (kx_1 k_x).2 (by decide) rfl rfl e5 rfl ?_
      refine jr.icmp_eq rfl rfl (by first | (refine rgb (by assumption) ?_; exact rfl) | omega) (by first | (refine rgb (by assumption) ?_; exact rfl) | omega) (fun h26 => ?_) (fun h26 => ?_)
      · refine jr.aload_n rfl rfl ?_
        refine jr.iconst rfl ?_
        refine jr.aload_n rfl rfl ?_
        have k6 := kf_1_3 k_t
        refine jr.getf (i := 3) (v := .ref (t + 1)) rfl rfl (Nat.lt_trans (kx_1 k_t).1 (by decide)) (kx_1 k_t).2 (by decide) rfl rfl rfl (jval_ref rfl k6.1) ?_
        refine jr.iconst rfl ?_
        obtain ⟨v7, e7⟩ : ∃ z_, M ((t + 1)) 0 = z_ := ⟨_, rfl⟩
        have b7 : (-9223372036854775808) ≤ v7 ∧ v7 ≤ 9223372036854775807 := by rw [← e7]; exact (CI.r hC_M k6.2 (by decide) 0)
        refine jr.lald (i := 0) (x := v7) rfl (Nat.lt_trans (kx_2 k6.2).1 (by decide)) (kx_2 k6.2).2 (by decide) (by omega) (by omega) e7 ?_
        refine jr.aload_n rfl rfl ?_
        have k8 := kf_1_4 k_t
        refine jr.getf (i := 4) (v := .ref (t + 2)) rfl rfl (Nat.lt_trans (kx_1 k_t).1 (by decide)) (kx_1 k_t).2 (by decide) rfl rfl rfl (jval_ref rfl k8.1) ?_
        refine jr.iconst rfl ?_
        obtain ⟨v9, e9⟩ : ∃ z_, M ((t + 2)) 0 = z_ := ⟨_, rfl⟩
        have b9 : (-2147483648) ≤ v9 ∧ v9 ≤ 2147483647 := by rw [← e9]; exact (CI.r hC_M k8.2 (by decide) 0)
        refine jr.iald (i := 0) (x := v9) rfl (Nat.lt_trans (kx_7 k8.2).1 (by decide)) (kx_7 k8.2).2 (by decide) (by omega) (by omega) e9 ?_
        refine jr_s rfl rfl (Or.inl rfl) ⟨Nat.le_of_ble_eq_true rfl, Nat.le_of_ble_eq_true rfl⟩ rfl rfl (jc.deep (c_Flow_hasEnd_x hC_M k_x (by omega) (by omega) (by omega) (fun r10 z10 w10_0 => ?_)) (Nat.le_of_ble_eq_true rfl))
        refine jr.if_eq rfl rfl (by first | (refine rgb (by assumption) ?_; exact rfl) | omega) (fun h48 => ?_) (fun h48 => ?_)
        · refine jr.aload_n rfl rfl ?_
          obtain ⟨v11, e11⟩ : ∃ z_, M t 13 = z_ := ⟨_, rfl⟩
          have b11 : (-2147483648) ≤ v11 ∧ v11 ≤ 2147483647 := by rw [← e11]; exact (CI.r hC_M k_t (by decide) 13)
          refine jr.getf (i := 13) (x := v11) (v := .int (Int32.ofInt (v11))) rfl rfl (Nat.lt_trans (kx_1 k_t).1 (by decide)) (kx_1 k_t).2 (by decide) rfl rfl e11 rfl ?_
          refine jr.iconst rfl ?_
          refine jr.icmp_ne rfl rfl (by first | (refine rgb (by assumption) ?_; exact rfl) | omega) (rgl rfl) (fun h78 => ?_) (fun h78 => ?_)
          · refine jr.aload_n rfl rfl ?_
            refine jr.iconst rfl ?_
            refine jr.aload_n rfl rfl ?_
            obtain ⟨v12, e12⟩ : ∃ z_, M t 14 = z_ := ⟨_, rfl⟩
            have b12 : (-9223372036854775808) ≤ v12 ∧ v12 ≤ 9223372036854775807 := by rw [← e12]; exact (CI.r hC_M k_t (by decide) 14)
            refine jr.getf (i := 14) (x := v12) (v := .long (Int64.ofInt (v12))) rfl rfl (Nat.lt_trans (kx_1 k_t).1 (by decide)) (kx_1 k_t).2 (by decide) rfl rfl e12 rfl ?_
            refine jr.aload_n rfl rfl ?_
            obtain ⟨v13, e13⟩ : ∃ z_, M t 15 = z_ := ⟨_, rfl⟩
            have b13 : (-2147483648) ≤ v13 ∧ v13 ≤ 2147483647 := by rw [← e13]; exact (CI.r hC_M k_t (by decide) 15)
            refine jr.getf (i := 15) (x := v13) (v := .int (Int32.ofInt (v13))) rfl rfl (Nat.lt_trans (kx_1 k_t).1 (by decide)) (kx_1 k_t).2 (by decide) rfl rfl e13 rfl ?_
            refine jr_s rfl rfl (Or.inl rfl) ⟨Nat.le_of_ble_eq_true rfl, Nat.le_of_ble_eq_true rfl⟩ rfl rfl (jc.deep (c_Flow_hasEnd_x hC_M k_x (by omega) (by omega) (by omega) (fun r14 z14 w14_0 => ?_)) (Nat.le_of_ble_eq_true rfl))
            refine jr.istore_n (ls' := [_, _, _]) rfl (nlt rfl) rfl ?_
            refine jr.iload_n rfl rfl ?_
            refine jr.if_eq rfl rfl (by first | (refine rgb (by assumption) ?_; exact rfl) | omega) (fun h116 => ?_) (fun h116 => ?_)
            · refine jr.iconst rfl ?_
              exact jr.ireturn rfl rfl rfl (q _ (by first | exact rgq rfl | omega) (by rw [sd_m (by omega) (by omega) (by omega)]))
            · have sx116 : (1 : Int) ≤ r14 := by omega
              clear h116
              refine jr.aload_n rfl rfl ?_
              refine jr.iconst rfl ?_
              refine jr.aload_n rfl rfl ?_
              have k15 := kf_1_3 k_t
              refine jr.getf (i := 3) (v := .ref (t + 1)) rfl rfl (Nat.lt_trans (kx_1 k_t).1 (by decide)) (kx_1 k_t).2 (by decide) rfl rfl rfl (jval_ref rfl k15.1) ?_
              refine jr.iconst rfl ?_
              obtain ⟨v16, e16⟩ : ∃ z_, M ((t + 1)) 1 = z_ := ⟨_, rfl⟩
              have b16 : (-9223372036854775808) ≤ v16 ∧ v16 ≤ 9223372036854775807 := by rw [← e16]; exact (CI.r hC_M k15.2 (by decide) 1)
              refine jr.lald (i := 1) (x := v16) rfl (Nat.lt_trans (kx_2 k15.2).1 (by decide)) (kx_2 k15.2).2 (by decide) (by omega) (by omega) e16 ?_
              refine jr.aload_n rfl rfl ?_
              have k17 := kf_1_4 k_t
              refine jr.getf (i := 4) (v := .ref (t + 2)) rfl rfl (Nat.lt_trans (kx_1 k_t).1 (by decide)) (kx_1 k_t).2 (by decide) rfl rfl rfl (jval_ref rfl k17.1) ?_
              refine jr.iconst rfl ?_
              obtain ⟨v18, e18⟩ : ∃ z_, M ((t + 2)) 1 = z_ := ⟨_, rfl⟩
              have b18 : (-2147483648) ≤ v18 ∧ v18 ≤ 2147483647 := by rw [← e18]; exact (CI.r hC_M k17.2 (by decide) 1)
              refine jr.iald (i := 1) (x := v18) rfl (Nat.lt_trans (kx_7 k17.2).1 (by decide)) (kx_7 k17.2).2 (by decide) (by omega) (by omega) e18 ?_
              refine jr_s rfl rfl (Or.inl rfl) ⟨Nat.le_of_ble_eq_true rfl, Nat.le_of_ble_eq_true rfl⟩ rfl rfl (jc.deep (c_Flow_hasEnd_x hC_M k_x (by omega) (by omega) (by omega) (fun r19 z19 w19_0 => ?_)) (Nat.le_of_ble_eq_true rfl))
              refine jr.if_eq rfl rfl (by first | (refine rgb (by assumption) ?_; exact rfl) | omega) (fun h136 => ?_) (fun h136 => ?_)
              · refine jr.iconst rfl ?_
                exact jr.ireturn rfl rfl rfl (q _ (by first | exact rgq rfl | omega) (by rw [sd_m (by omega) (by omega) (by omega)]))
              · have sx136 : (1 : Int) ≤ r19 := by omega
                clear h136
                refine jr.iconst rfl ?_
                refine jr.goto rfl rfl ?_
                exact jr.ireturn rfl rfl rfl (q _ (by first | exact rgq rfl | omega) (by rw [sd_1 (by omega) (by omega) (by omega) (by omega)]))
          · refine jr.aload_n rfl rfl ?_
            refine jr.iconst rfl ?_
            refine jr.aload_n rfl rfl ?_
            have k20 := kf_1_3 k_t
            refine jr.getf (i := 3) (v := .ref (t + 1)) rfl rfl (Nat.lt_trans (kx_1 k_t).1 (by decide)) (kx_1 k_t).2 (by decide) rfl rfl rfl (jval_ref rfl k20.1) ?_
            refine jr.iconst rfl ?_
            refine jr.lald (i := 0) (x := v7) rfl (Nat.lt_trans (kx_2 k20.2).1 (by decide)) (kx_2 k20.2).2 (by decide) (by omega) (by omega) e7 ?_
            refine jr.aload_n rfl rfl ?_
            have k21 := kf_1_4 k_t
            refine jr.getf (i := 4) (v := .ref (t + 2)) rfl rfl (Nat.lt_trans (kx_1 k_t).1 (by decide)) (kx_1 k_t).2 (by decide) rfl rfl rfl (jval_ref rfl k21.1) ?_
            refine jr.iconst rfl ?_
            refine jr.iald (i := 0) (x := v9) rfl (Nat.lt_trans (kx_7 k21.2).1 (by decide)) (kx_7 k21.2).2 (by decide) (by omega) (by omega) e9 ?_
            refine jr_s rfl rfl (Or.inl rfl) ⟨Nat.le_of_ble_eq_true rfl, Nat.le_of_ble_eq_true rfl⟩ rfl rfl (jc.deep (c_Flow_hasEnd_x hC_M k_x (by omega) (by omega) (by omega) (fun r22 z22 w22_0 => ?_)) (Nat.le_of_ble_eq_true rfl))
            refine jr.goto rfl rfl ?_
            refine jr.istore_n (ls' := [_, _, _]) rfl (nlt rfl) rfl ?_
            refine jr.iload_n rfl rfl ?_
            refine jr.if_eq rfl rfl (by first | (refine rgb (by assumption) ?_; exact rfl) | omega) (fun h116 => ?_) (fun h116 => ?_)
            · refine jr.iconst rfl ?_
              exact jr.ireturn rfl rfl rfl (q _ (by first | exact rgq rfl | omega) (by rw [sd_m (by omega) (by omega) (by omega)]))
            · have sx116 : (1 : Int) ≤ r22 := by omega
              clear h116
              refine jr.aload_n rfl rfl ?_
              refine jr.iconst rfl ?_
              refine jr.aload_n rfl rfl ?_
              have k23 := kf_1_3 k_t
              refine jr.getf (i := 3) (v := .ref (t + 1)) rfl rfl (Nat.lt_trans (kx_1 k_t).1 (by decide)) (kx_1 k_t).2 (by decide) rfl rfl rfl (jval_ref rfl k23.1) ?_
              refine jr.iconst rfl ?_
              obtain ⟨v24, e24⟩ : ∃ z_, M ((t + 1)) 1 = z_ := ⟨_, rfl⟩
              have b24 : (-9223372036854775808) ≤ v24 ∧ v24 ≤ 9223372036854775807 := by rw [← e24]; exact (CI.r hC_M k23.2 (by decide) 1)
              refine jr.lald (i := 1) (x := v24) rfl (Nat.lt_trans (kx_2 k23.2).1 (by decide)) (kx_2 k23.2).2 (by decide) (by omega) (by omega) e24 ?_
              refine jr.aload_n rfl rfl ?_
              have k25 := kf_1_4 k_t
              refine jr.getf (i := 4) (v := .ref (t + 2)) rfl rfl (Nat.lt_trans (kx_1 k_t).1 (by decide)) (kx_1 k_t).2 (by decide) rfl rfl rfl (jval_ref rfl k25.1) ?_
              refine jr.iconst rfl ?_
              obtain ⟨v26, e26⟩ : ∃ z_, M ((t + 2)) 1 = z_ := ⟨_, rfl⟩
              have b26 : (-2147483648) ≤ v26 ∧ v26 ≤ 2147483647 := by rw [← e26]; exact (CI.r hC_M k25.2 (by decide) 1)
              refine jr.iald (i := 1) (x := v26) rfl (Nat.lt_trans (kx_7 k25.2).1 (by decide)) (kx_7 k25.2).2 (by decide) (by omega) (by omega) e26 ?_
              refine jr_s rfl rfl (Or.inl rfl) ⟨Nat.le_of_ble_eq_true rfl, Nat.le_of_ble_eq_true rfl⟩ rfl rfl (jc.deep (c_Flow_hasEnd_x hC_M k_x (by omega) (by omega) (by omega) (fun r27 z27 w27_0 => ?_)) (Nat.le_of_ble_eq_true rfl))
              refine jr.if_eq rfl rfl (by first | (refine rgb (by assumption) ?_; exact rfl) | omega) (fun h136 => ?_) (fun h136 => ?_)
              · refine jr.iconst rfl ?_
                exact jr.ireturn rfl rfl rfl (q _ (by first | exact rgq rfl | omega) (by rw [sd_m (by omega) (by omega) (by omega)]))
              · have sx136 : (1 : Int) ≤ r27 := by omega
                clear h136
                refine jr.iconst rfl ?_
                refine jr.goto rfl rfl ?_
                exact jr.ireturn rfl rfl rfl (q _ (by first | exact rgq rfl | omega) (by rw [sd_1 (by omega) (by omega) (by omega) (by omega)]))
        · have sx48 : (1 : Int) ≤ r10 := by omega
          clear h48
          refine jr.aload_n rfl rfl ?_
          refine jr.iconst rfl ?_
          refine jr.aload_n rfl rfl ?_
          have k28 := kf_1_3 k_t
          refine jr.getf (i := 3) (v := .ref (t + 1)) rfl rfl (Nat.lt_trans (kx_1 k_t).1 (by decide)) (kx_1 k_t).2 (by decide) rfl rfl rfl (jval_ref rfl k28.1) ?_
          refine jr.iconst rfl ?_
          obtain ⟨v29, e29⟩ : ∃ z_, M ((t + 1)) 1 = z_ := ⟨_, rfl⟩
          have b29 : (-9223372036854775808) ≤ v29 ∧ v29 ≤ 9223372036854775807 := by rw [← e29]; exact (CI.r hC_M k28.2 (by decide) 1)
          refine jr.lald (i := 1) (x := v29) rfl (Nat.lt_trans (kx_2 k28.2).1 (by decide)) (kx_2 k28.2).2 (by decide) (by omega) (by omega) e29 ?_
          refine jr.aload_n rfl rfl ?_
          have k30 := kf_1_4 k_t
          refine jr.getf (i := 4) (v := .ref (t + 2)) rfl rfl (Nat.lt_trans (kx_1 k_t).1 (by decide)) (kx_1 k_t).2 (by decide) rfl rfl rfl (jval_ref rfl k30.1) ?_
          refine jr.iconst rfl ?_
          obtain ⟨v31, e31⟩ : ∃ z_, M ((t + 2)) 1 = z_ := ⟨_, rfl⟩
          have b31 : (-2147483648) ≤ v31 ∧ v31 ≤ 2147483647 := by rw [← e31]; exact (CI.r hC_M k30.2 (by decide) 1)
          refine jr.iald (i := 1) (x := v31) rfl (Nat.lt_trans (kx_7 k30.2).1 (by decide)) (kx_7 k30.2).2 (by decide) (by omega) (by omega) e31 ?_
          refine jr_s rfl rfl (Or.inl rfl) ⟨Nat.le_of_ble_eq_true rfl, Nat.le_of_ble_eq_true rfl⟩ rfl rfl (jc.deep (c_Flow_hasEnd_x hC_M k_x (by omega) (by omega) (by omega) (fun r32 z32 w32_0 => ?_)) (Nat.le_of_ble_eq_true rfl))
          refine jr.if_eq rfl rfl (by first | (refine rgb (by assumption) ?_; exact rfl) | omega) (fun h68 => ?_) (fun h68 => ?_)
          · refine jr.aload_n rfl rfl ?_
            obtain ⟨v33, e33⟩ : ∃ z_, M t 13 = z_ := ⟨_, rfl⟩
            have b33 : (-2147483648) ≤ v33 ∧ v33 ≤ 2147483647 := by rw [← e33]; exact (CI.r hC_M k_t (by decide) 13)
            refine jr.getf (i := 13) (x := v33) (v := .int (Int32.ofInt (v33))) rfl rfl (Nat.lt_trans (kx_1 k_t).1 (by decide)) (kx_1 k_t).2 (by decide) rfl rfl e33 rfl ?_
            refine jr.iconst rfl ?_
            refine jr.icmp_ne rfl rfl (by first | (refine rgb (by assumption) ?_; exact rfl) | omega) (rgl rfl) (fun h78 => ?_) (fun h78 => ?_)
            · refine jr.aload_n rfl rfl ?_
              refine jr.iconst rfl ?_
              refine jr.aload_n rfl rfl ?_
              obtain ⟨v34, e34⟩ : ∃ z_, M t 14 = z_ := ⟨_, rfl⟩
              have b34 : (-9223372036854775808) ≤ v34 ∧ v34 ≤ 9223372036854775807 := by rw [← e34]; exact (CI.r hC_M k_t (by decide) 14)
              refine jr.getf (i := 14) (x := v34) (v := .long (Int64.ofInt (v34))) rfl rfl (Nat.lt_trans (kx_1 k_t).1 (by decide)) (kx_1 k_t).2 (by decide) rfl rfl e34 rfl ?_
              refine jr.aload_n rfl rfl ?_
              obtain ⟨v35, e35⟩ : ∃ z_, M t 15 = z_ := ⟨_, rfl⟩
              have b35 : (-2147483648) ≤ v35 ∧ v35 ≤ 2147483647 := by rw [← e35]; exact (CI.r hC_M k_t (by decide) 15)
              refine jr.getf (i := 15) (x := v35) (v := .int (Int32.ofInt (v35))) rfl rfl (Nat.lt_trans (kx_1 k_t).1 (by decide)) (kx_1 k_t).2 (by decide) rfl rfl e35 rfl ?_
              refine jr_s rfl rfl (Or.inl rfl) ⟨Nat.le_of_ble_eq_true rfl, Nat.le_of_ble_eq_true rfl⟩ rfl rfl (jc.deep (c_Flow_hasEnd_x hC_M k_x (by omega) (by omega) (by omega) (fun r36 z36 w36_0 => ?_)) (Nat.le_of_ble_eq_true rfl))
              refine jr.istore_n (ls' := [_, _, _]) rfl (nlt rfl) rfl ?_
              refine jr.iload_n rfl rfl ?_
              refine jr.if_eq rfl rfl (by first | (refine rgb (by assumption) ?_; exact rfl) | omega) (fun h116 => ?_) (fun h116 => ?_)
              · refine jr.iconst rfl ?_
                exact jr.ireturn rfl rfl rfl (q _ (by first | exact rgq rfl | omega) (by rw [sd_m (by omega) (by omega) (by omega)]))
              · have sx116 : (1 : Int) ≤ r36 := by omega
                clear h116
                refine jr.aload_n rfl rfl ?_
                refine jr.iconst rfl ?_
                refine jr.aload_n rfl rfl ?_
                have k37 := kf_1_3 k_t
                refine jr.getf (i := 3) (v := .ref (t + 1)) rfl rfl (Nat.lt_trans (kx_1 k_t).1 (by decide)) (kx_1 k_t).2 (by decide) rfl rfl rfl (jval_ref rfl k37.1) ?_
                refine jr.iconst rfl ?_
                refine jr.lald (i := 1) (x := v29) rfl (Nat.lt_trans (kx_2 k37.2).1 (by decide)) (kx_2 k37.2).2 (by decide) (by omega) (by omega) e29 ?_
                refine jr.aload_n rfl rfl ?_
                have k38 := kf_1_4 k_t
                refine jr.getf (i := 4) (v := .ref (t + 2)) rfl rfl (Nat.lt_trans (kx_1 k_t).1 (by decide)) (kx_1 k_t).2 (by decide) rfl rfl rfl (jval_ref rfl k38.1) ?_
                refine jr.iconst rfl ?_
                refine jr.iald (i := 1) (x := v31) rfl (Nat.lt_trans (kx_7 k38.2).1 (by decide)) (kx_7 k38.2).2 (by decide) (by omega) (by omega) e31 ?_
                refine jr_s rfl rfl (Or.inl rfl) ⟨Nat.le_of_ble_eq_true rfl, Nat.le_of_ble_eq_true rfl⟩ rfl rfl (jc.deep (c_Flow_hasEnd_x hC_M k_x (by omega) (by omega) (by omega) (fun r39 z39 w39_0 => ?_)) (Nat.le_of_ble_eq_true rfl))
                refine jr.if_eq rfl rfl (by first | (refine rgb (by assumption) ?_; exact rfl) | omega) (fun h136 => ?_) (fun h136 => ?_)
                · refine jr.iconst rfl ?_
                  exact jr.ireturn rfl rfl rfl (q _ (by first | exact rgq rfl | omega) (by rw [sd_m (by omega) (by omega) (by omega)]))
                · have sx136 : (1 : Int) ≤ r39 := by omega
                  clear h136
                  refine jr.iconst rfl ?_
                  refine jr.goto rfl rfl ?_
                  exact jr.ireturn rfl rfl rfl (q _ (by first | exact rgq rfl | omega) (by rw [sd_1 (by omega) (by omega) (by omega) (by omega)]))
            · refine jr.aload_n rfl rfl ?_
              refine jr.iconst rfl ?_
              refine jr.aload_n rfl rfl ?_
              have k40 := kf_1_3 k_t
              refine jr.getf (i := 3) (v := .ref (t + 1)) rfl rfl (Nat.lt_trans (kx_1 k_t).1 (by decide)) (kx_1 k_t).2 (by decide) rfl rfl rfl (jval_ref rfl k40.1) ?_
              refine jr.iconst rfl ?_
              refine jr.lald (i := 0) (x := v7) rfl (Nat.lt_trans (kx_2 k40.2).1 (by decide)) (kx_2 k40.2).2 (by decide) (by omega) (by omega) e7 ?_
              refine jr.aload_n rfl rfl ?_
              have k41 := kf_1_4 k_t
              refine jr.getf (i := 4) (v := .ref (t + 2)) rfl rfl (Nat.lt_trans (kx_1 k_t).1 (by decide)) (kx_1 k_t).2 (by decide) rfl rfl rfl (jval_ref rfl k41.1) ?_
              refine jr.iconst rfl ?_
              refine jr.iald (i := 0) (x := v9) rfl (Nat.lt_trans (kx_7 k41.2).1 (by decide)) (kx_7 k41.2).2 (by decide) (by omega) (by omega) e9 ?_
              refine jr_s rfl rfl (Or.inl rfl) ⟨Nat.le_of_ble_eq_true rfl, Nat.le_of_ble_eq_true rfl⟩ rfl rfl (jc.deep (c_Flow_hasEnd_x hC_M k_x (by omega) (by omega) (by omega) (fun r42 z42 w42_0 => ?_)) (Nat.le_of_ble_eq_true rfl))
              refine jr.goto rfl rfl ?_
              refine jr.istore_n (ls' := [_, _, _]) rfl (nlt rfl) rfl ?_
              refine jr.iload_n rfl rfl ?_
              refine jr.if_eq rfl rfl (by first | (refine rgb (by assumption) ?_; exact rfl) | omega) (fun h116 => ?_) (fun h116 => ?_)
              · refine jr.iconst rfl ?_
                exact jr.ireturn rfl rfl rfl (q _ (by first | exact rgq rfl | omega) (by rw [sd_m (by omega) (by omega) (by omega)]))
              · have sx116 : (1 : Int) ≤ r42 := by omega
                clear h116
                refine jr.aload_n rfl rfl ?_
                refine jr.iconst rfl ?_
                refine jr.aload_n rfl rfl ?_
                have k43 := kf_1_3 k_t
                refine jr.getf (i := 3) (v := .ref (t + 1)) rfl rfl (Nat.lt_trans (kx_1 k_t).1 (by decide)) (kx_1 k_t).2 (by decide) rfl rfl rfl (jval_ref rfl k43.1) ?_
                refine jr.iconst rfl ?_
                refine jr.lald (i := 1) (x := v29) rfl (Nat.lt_trans (kx_2 k43.2).1 (by decide)) (kx_2 k43.2).2 (by decide) (by omega) (by omega) e29 ?_
                refine jr.aload_n rfl rfl ?_
                have k44 := kf_1_4 k_t
                refine jr.getf (i := 4) (v := .ref (t + 2)) rfl rfl (Nat.lt_trans (kx_1 k_t).1 (by decide)) (kx_1 k_t).2 (by decide) rfl rfl rfl (jval_ref rfl k44.1) ?_
                refine jr.iconst rfl ?_
                refine jr.iald (i := 1) (x := v31) rfl (Nat.lt_trans (kx_7 k44.2).1 (by decide)) (kx_7 k44.2).2 (by decide) (by omega) (by omega) e31 ?_
                refine jr_s rfl rfl (Or.inl rfl) ⟨Nat.le_of_ble_eq_true rfl, Nat.le_of_ble_eq_true rfl⟩ rfl rfl (jc.deep (c_Flow_hasEnd_x hC_M k_x (by omega) (by omega) (by omega) (fun r45 z45 w45_0 => ?_)) (Nat.le_of_ble_eq_true rfl))
                refine jr.if_eq rfl rfl (by first | (refine rgb (by assumption) ?_; exact rfl) | omega) (fun h136 => ?_) (fun h136 => ?_)
                · refine jr.iconst rfl ?_
                  exact jr.ireturn rfl rfl rfl (q _ (by first | exact rgq rfl | omega) (by rw [sd_m (by omega) (by omega) (by omega)]))
                · have sx136 : (1 : Int) ≤ r45 := by omega
                  clear h136
                  refine jr.iconst rfl ?_
                  refine jr.goto rfl rfl ?_
                  exact jr.ireturn rfl rfl rfl (q _ (by first | exact rgq rfl | omega) (by rw [sd_1 (by omega) (by omega) (by omega) (by omega)]))
          · have sx68 : (1 : Int) ≤ r32 := by omega
            clear h68
            refine jr.iconst rfl ?_
            exact jr.ireturn rfl rfl rfl (q _ (by first | exact rgq rfl | omega) (by rw [sd_0 (by omega) (by omega)]))
      · refine jr.iconst rfl ?_
        exact jr.ireturn rfl rfl rfl (q _ (by first | exact rgq rfl | omega) (by rw [sd_n (by omega)]))
theorem c_Flows_flowOfEnds_x_L2 {A : Nat → Option (Nat × (Nat → Int32))} {Q : Option Value → jm → Prop} {M : jm} (hC_M : CI M) {V : Int} (q : ∀ (r : Int), (-1) ≤ r ∧ r ≤ 23 → (r = feF M V.toNat 24 0) → Q (some (.int (Int32.ofInt r))) M) : ∀ (nM : Nat) (i : Int), 0 ≤ i ∧ i ≤ 24 → M 15 0 = V → (feF M V.toNat 24 0 = feF M V.toNat (24 - i).toNat i) → 24 - i ≤ nM → jr A 2 xm_88 2 [(1, .int (Int32.ofInt (i))), (0, .ref (15))] [] M Q := by
  intro nM
  induction nM using Nat.strongRecOn with
  | ind nM ih =>
    intro i h_i g_V hy0 hm
    have b_V : 16 ≤ V ∧ V ≤ 17 := by rw [← g_V]; exact (CI.r hC_M (show kd 15 = 9 from rfl) (by decide) 0)
    refine jr.iload_n rfl rfl ?_
    refine jr.bipush rfl (jbp _ (nlt rfl)) ?_
    refine jr.icmp_ge rfl rfl (by first | (refine rgb (by assumption) ?_; exact rfl) | omega) (rgl rfl) (fun h5 => ?_) (fun h5 => ?_)
    · refine jr.iconst rfl ?_
      exact jr.ireturn rfl rfl rfl (q _ (by first | exact rgq rfl | omega) (by rw [hy0, show (24 - i).toNat = 0 from by omega]; rfl))
    · refine jr.aload_n rfl rfl ?_
      have k1 : kd (V).toNat = 13 := by rcases (show V = 16 ∨ V = 17 by omega) with h | h <;> (rw [h]; rfl)
      refine jr.getf (i := 0) (x := V) (v := .ref (V.toNat)) rfl rfl (nlt rfl) rfl (nlt rfl) rfl rfl g_V rfl ?_
      refine jr.iload_n rfl rfl ?_
      have k2 := kxe_13 k1 (i := i) (by omega) (by omega)
      refine jr.aald (c := (xe ((V.toNat)) i)) rfl (Nat.lt_trans (kx_13 k1).1 (by decide)) (kx_13 k1).2 (by decide) (by decide) rfl (by decide) (by omega) (by omega) k2.1 ?_
      refine jr.aload_n rfl rfl ?_
      refine jr.getf (i := 2) (v := .ref 18) rfl rfl (nlt rfl) rfl (nlt rfl) rfl rfl rfl rfl ?_
      refine jr_v rfl rfl (Or.inl rfl) rfl rfl (Nat.lt_trans (kx_1 k2.2).1 (by decide)) (kx_1 k2.2).2 ⟨rfl, Nat.le_of_ble_eq_true rfl, Nat.le_of_ble_eq_true rfl⟩ rfl (jc.deep (c_Flow_sideOf_x hC_M k2.2 (show kd 18 = 1 from rfl) (fun r3 z3 w3_0 => ?_)) (Nat.le_of_ble_eq_true rfl))
      refine jr.iconst rfl ?_
      refine jr.icmp_eq rfl rfl (by first | (refine rgb (by assumption) ?_; exact rfl) | omega) (rgl rfl) (fun h22 => ?_) (fun h22 => ?_)
      · refine jr.iinc (ls' := [_, _]) rfl rfl (nlt rfl) rfl ?_
        refine jr.goto rfl rfl ?_
        refine jr.pick (ls := [_, _]) [0, 1] rfl rfl ?_
        exact ih (nM - 1) (by omega) (i + 1) (by omega) g_V (by rw [hy0, feF_s (by omega), if_neg (by omega)]) (by omega)
      · have sx22 : (0 : Int) ≤ r3 := by omega
        clear h22
        refine jr.iload_n rfl rfl ?_
        exact jr.ireturn rfl rfl rfl (q _ (by omega) (by rw [hy0, feF_s (by omega), if_pos (by omega)]))
theorem c_Flows_flowOfEnds_x {A : Nat → Option (Nat × (Nat → Int32))} {Q : Option Value → jm → Prop} {M : jm} (hC_M : CI M) {V : Int} (g_V : M 15 0 = V) (q : ∀ (r : Int), (-1) ≤ r ∧ r ≤ 23 → (r = feF M V.toNat 24 0) → Q (some (.int (Int32.ofInt r))) M) : jc A 3 88 [.ref (15)] M Q := by
  refine jc_of (m := xm_88) rfl (Nat.le_of_ble_eq_true rfl) rfl ?_
  have b_V : 16 ≤ V ∧ V ≤ 17 := by rw [← g_V]; exact (CI.r hC_M (show kd 15 = 9 from rfl) (by decide) 0)
  refine jr.iconst rfl ?_
  refine jr.istore_n (ls' := [_, _]) rfl (nlt rfl) rfl ?_
  refine jr.pick (ls := [_, _]) [0, 1] rfl rfl ?_
  exact c_Flows_flowOfEnds_x_L2 hC_M  q 24 0 (by omega) g_V rfl (by omega)
end
section
/-! ===== the class: the ends that a packet tells ===== -/
noncomputable def nxk (k : Int) : Int := if k = 7 then 1 else if k = 8 then 6 else 17
noncomputable def epf (f : Int → Int) (N C z s : Int) : Int := if kA f N C z = 7 then vA f N C z 3 / 65536 else vA f N C z s
theorem kA_in {f : Int → Int} {N C x : Int} (h : kA f N C x ≠ -1) : 0 ≤ x ∧ x < C := by
  unfold kA at h
  split at h
  · assumption
  · exact absurd rfl h
theorem epf_r {f : Int → Int} {N C z s : Int} (h : 7 ≤ kA f N C z ∧ kA f N C z ≤ 9) (hs : s = 0 ∨ s = 1) : (0 ≤ epf f N C z s ∧ epf f N C z s ≤ 65535) ∧ (kA f N C z = 7 → 0 ≤ vA f N C z 3 ∧ vA f N C z 3 ≤ 4294967295) := by
  have hi := kA_in (f := f) (N := N) (C := C) (x := z) (by omega)
  have hk := kA_i (f := f) (N := N) hi
  unfold epf
  rw [hk] at h ⊢
  rcases (show hX f N z = 7 ∨ hX f N z = 8 ∨ hX f N z = 9 by omega) with e | e | e
  · rw [if_pos e, vA_k hi e (by decide +kernel), vof_7_3]
    omega
  · rw [if_neg (by omega)]
    rcases hs with hs | hs
    · subst hs; rw [vA_k (j := 0) hi e (by decide +kernel), vof_8_0]; omega
    · subst hs; rw [vA_k (j := 1) hi e (by decide +kernel), vof_8_1]; omega
  · rw [if_neg (by omega)]
    rcases hs with hs | hs
    · subst hs; rw [vA_k (j := 0) hi e (by decide +kernel), vof_9_0]; omega
    · subst hs; rw [vA_k (j := 1) hi e (by decide +kernel), vof_9_1]; omega
/-- ends told, as far as side i -/
noncomputable def DSL (T M : jm) (f : Int → Int) (N C y z i : Int) : Prop := (M 18 1 = (if kA f N C y = 3 then 1 else 0) ∧ M 18 2 = nxk (kA f N C z)) ∧ (∀ s : Int, 0 ≤ s → s < i → M 19 s = adf f N C y s ∧ M 20 s = epf f N C z s) ∧ ∀ (b : Nat) (k : Int), b ≠ 18 → b ≠ 19 → b ≠ 20 → M b k = T b k
theorem DSL.s {T M : jm} {f : Int → Int} {N C y z i a v : Int} (h : DSL T M f N C y z i) (h0 : 0 ≤ i) (ha : a = adf f N C y i) (hv : v = epf f N C z i) : DSL T (ju (ju M 19 i a) 20 i v) f N C y z (i + 1) := by
  obtain ⟨h1, h2, h3⟩ := h
  refine ⟨?_, fun s s0 s1 => ?_, fun b k b0 b1 b2 => ?_⟩
  · rw [ju_c _ _ (by decide), ju_c _ _ (by decide), ju_c _ _ (by decide), ju_c _ _ (by decide)]; exact h1
  · by_cases e : s = i
    · subst e
      rw [ju_c _ _ (by decide), ju_same, ju_same]
      exact ⟨ha, hv⟩
    · rw [ju_c _ _ (by decide), ju_i _ _ e, ju_i _ _ e, ju_c _ _ (by decide)]
      exact h2 s s0 (by omega)
  · rw [ju_c _ _ b2, ju_c _ _ b1]; exact h3 b k b0 b1 b2
noncomputable def W_c_Flow_describe_x : List (Nat × Nat) := [(1, 1), (1, 2), (2, 1000), (7, 1000)]
theorem c_Flow_describe_x_L57 {A : Nat → Option (Nat × (Nat → Int32))} {Q : Option Value → jm → Prop} {f : Int → Int} {N : Int} {T : jm} {C : Int} {y : Int} {z : Int} (q : ∀ (M' : jm), CI M' → FR W_c_Flow_describe_x T M' → (DSL T M' f N C y z 2) → Q none M') : ∀ (nM : Nat) (M : jm) (k : Int) (i : Int), CI M → FR W_c_Flow_describe_x T M → 0 ≤ y ∧ y ≤ 11 → 0 ≤ z ∧ z ≤ 11 → 7 ≤ k ∧ k ≤ 9 → 0 ≤ i ∧ i ≤ 2 → M 3 3 = C → (HS M 3 f N) → (DSL T M f N C y z i) → (k = kA f N C z ∧ 7 ≤ k ∧ k ≤ 9) → 2 - i ≤ nM → jr A 3 xm_57 57 [(2, .int (Int32.ofInt (y))), (3, .int (Int32.ofInt (z))), (4, .int (Int32.ofInt (k))), (5, .int (Int32.ofInt (i))), (0, .ref (18)), (1, .ref (3))] [] M Q := by
  intro nM
  induction nM using Nat.strongRecOn with
  | ind nM ih =>
    intro M k i hC_M ht_M h_y h_z h_k h_i g_C hy0 hy1 hy2 hm
    have b_C : 0 ≤ C ∧ C ≤ 12 := by rw [← g_C]; exact (CI.r hC_M (show kd 3 = 18 from rfl) (by decide) 3)
    refine jr.iload rfl rfl ?_
    refine jr.iconst rfl ?_
    refine jr.icmp_ge rfl rfl (by first | (refine rgb (by assumption) ?_; exact rfl) | omega) (rgl rfl) (fun h60 => ?_) (fun h60 => ?_)
    · exact jr.vreturn rfl rfl (q _ hC_M ht_M  (by have h9 := hy1; rw [show i = 2 from by omega] at h9; exact h9))
    · refine jr.aload_n rfl rfl ?_
      refine jr.getf (i := 3) (v := .ref 19) rfl rfl (nlt rfl) rfl (nlt rfl) rfl rfl rfl rfl ?_
      refine jr.iload rfl rfl ?_
      refine jr.aload_n rfl rfl ?_
      refine jr.iload_n rfl rfl ?_
      refine jr.iload rfl rfl ?_
      refine jr_v rfl rfl (Or.inl rfl) rfl rfl (nlt rfl) rfl ⟨rfl, Nat.le_of_ble_eq_true rfl, Nat.le_of_ble_eq_true rfl⟩ rfl (jc.deep (c_Headers_addressOf_x hC_M (show kd 3 = 18 from rfl) (by omega) (by omega) g_C hy0 (fun r1 z1 w1_0 => ?_)) (Nat.le_of_ble_eq_true rfl))
      refine jr.last (i := i) (x := r1) rfl (nlt rfl) rfl (Nat.le_of_ble_eq_true rfl) (by omega) (by omega) ?_
      refine jr.aload_n rfl rfl ?_
      refine jr.getf (i := 4) (v := .ref 20) rfl rfl (nlt rfl) rfl (nlt rfl) rfl rfl rfl rfl ?_
      refine jr.iload rfl rfl ?_
      refine jr.iload rfl rfl ?_
      refine jr.bipush rfl (jbp _ (nlt rfl)) ?_
      refine jr.icmp_ne rfl rfl (by first | (refine rgb (by assumption) ?_; exact rfl) | omega) (rgl rfl) (fun h87 => ?_) (fun h87 => ?_)
      · have sx87 : (8 : Int) ≤ k := by omega
        clear h87
        refine jr.aload_n rfl rfl ?_
        refine jr.iload_n rfl rfl ?_
        refine jr.iload rfl rfl ?_
        refine jr_v rfl rfl (Or.inl rfl) rfl rfl (nlt rfl) rfl ⟨rfl, Nat.le_of_ble_eq_true rfl, Nat.le_of_ble_eq_true rfl⟩ rfl (jc.deep (c_Headers_valueOf_x (CI.u hC_M (i := i) (show kd 19 = 2 from rfl) (show (-9223372036854775808 : Int) ≤ _ ∧ _ ≤ (9223372036854775807 : Int) from by omega) rfl) (show kd 3 = 18 from rfl) (by omega) (by omega) ((ju_c _ _ (by decide)).trans g_C) (HS.fr hy0 (show kd 3 = 18 from rfl) hC_M (FR.o (FR.rfl [(2, 1000)] M) (show kd 19 = 2 from rfl) rfl) rfl) (fun r2 z2 w2_0 => ?_)) (Nat.le_of_ble_eq_true rfl))
        have hv2 : 0 ≤ r2 ∧ r2 ≤ 65535 := (by have h9 := (epf_r (f := f) (N := N) (C := C) (z := z) (s := i) (by omega) (by omega)).1; unfold epf at h9; rw [if_neg (by omega), ← w2_0] at h9; exact h9)
        refine jr.l2i rfl ?_
        refine jr.iast (i := i) (x := r2) rfl (nlt rfl) rfl (Nat.le_of_ble_eq_true rfl) (by omega) (by omega) ?_
        refine jr.iinc (ls' := [_, _, _, _, _, _]) rfl rfl (nlt rfl) rfl ?_
        refine jr.goto rfl rfl ?_
        refine jr.pick (ls := [_, _, _, _, _, _]) [1, 2, 3, 0, 4, 5] rfl rfl ?_
        exact ih (nM - 1) (by omega) ((ju (ju M 19 i r1) 20 i r2)) k (i + 1) (CI.u (CI.u hC_M (i := i) (show kd 19 = 2 from rfl) (show (-9223372036854775808 : Int) ≤ _ ∧ _ ≤ (9223372036854775807 : Int) from by omega) rfl) (i := i) (show kd 20 = 7 from rfl) (show (-2147483648 : Int) ≤ _ ∧ _ ≤ (2147483647 : Int) from by omega) rfl) (FR.o (FR.o ht_M (show kd 19 = 2 from rfl) rfl) (show kd 20 = 7 from rfl) rfl) (by omega) (by omega) (by omega) (by omega) ((ju_c _ _ (by decide)).trans ((ju_c _ _ (by decide)).trans g_C)) (HS.fr hy0 (show kd 3 = 18 from rfl) hC_M (FR.o (FR.o (FR.rfl [(2, 1000), (7, 1000)] M) (show kd 19 = 2 from rfl) rfl) (show kd 20 = 7 from rfl) rfl) rfl) (DSL.s hy1 (by omega) w1_0 (by unfold epf; rw [if_neg (by omega)]; exact w2_0)) hy2 (by omega)
      · refine jr.aload_n rfl rfl ?_
        refine jr.iload_n rfl rfl ?_
        refine jr.iconst rfl ?_
        refine jr_v rfl rfl (Or.inl rfl) rfl rfl (nlt rfl) rfl ⟨rfl, Nat.le_of_ble_eq_true rfl, Nat.le_of_ble_eq_true rfl⟩ rfl (jc.deep (c_Headers_valueOf_x (CI.u hC_M (i := i) (show kd 19 = 2 from rfl) (show (-9223372036854775808 : Int) ≤ _ ∧ _ ≤ (9223372036854775807 : Int) from by omega) rfl) (show kd 3 = 18 from rfl) (by omega) (by omega) ((ju_c _ _ (by decide)).trans g_C) (HS.fr hy0 (show kd 3 = 18 from rfl) hC_M (FR.o (FR.rfl [(2, 1000)] M) (show kd 19 = 2 from rfl) rfl) rfl) (fun r3 z3 w3_0 => ?_)) (Nat.le_of_ble_eq_true rfl))
        have hv3 : 0 ≤ r3 ∧ r3 ≤ 4294967295 := (by have h9 := (epf_r (f := f) (N := N) (C := C) (z := z) (s := 0) (by omega) (Or.inl rfl)).2 (by omega); rw [← w3_0] at h9; exact h9)
        refine jr.bipush rfl (jbp _ (nlt rfl)) ?_
        refine jr.lushr rfl ?_
        have b4 : jl_ushr r3 16 = r3 / 65536 ∧ 0 ≤ jl_ushr r3 16 ∧ jl_ushr r3 16 ≤ 65535 := ⟨jl_ushr_16 (by omega), by rw [jl_ushr_16 (by omega)]; omega⟩
        generalize jl_ushr r3 16 = v4 at b4 ⊢
        refine jr.goto rfl rfl ?_
        refine jr.l2i rfl ?_
        refine jr.iast (i := i) (x := v4) rfl (nlt rfl) rfl (Nat.le_of_ble_eq_true rfl) (by omega) (by omega) ?_
        refine jr.iinc (ls' := [_, _, _, _, _, _]) rfl rfl (nlt rfl) rfl ?_
        refine jr.goto rfl rfl ?_
        refine jr.pick (ls := [_, _, _, _, _, _]) [1, 2, 3, 0, 4, 5] rfl rfl ?_
        exact ih (nM - 1) (by omega) ((ju (ju M 19 i r1) 20 i v4)) k (i + 1) (CI.u (CI.u hC_M (i := i) (show kd 19 = 2 from rfl) (show (-9223372036854775808 : Int) ≤ _ ∧ _ ≤ (9223372036854775807 : Int) from by omega) rfl) (i := i) (show kd 20 = 7 from rfl) (show (-2147483648 : Int) ≤ _ ∧ _ ≤ (2147483647 : Int) from by omega) rfl) (FR.o (FR.o ht_M (show kd 19 = 2 from rfl) rfl) (show kd 20 = 7 from rfl) rfl) (by omega) (by omega) (by omega) (by omega) ((ju_c _ _ (by decide)).trans ((ju_c _ _ (by decide)).trans g_C)) (HS.fr hy0 (show kd 3 = 18 from rfl) hC_M (FR.o (FR.o (FR.rfl [(2, 1000), (7, 1000)] M) (show kd 19 = 2 from rfl) rfl) (show kd 20 = 7 from rfl) rfl) rfl) (DSL.s hy1 (by omega) w1_0 (by unfold epf; rw [if_pos (by omega), ← w3_0]; omega)) hy2 (by omega)
theorem c_Flow_describe_x_L54 {A : Nat → Option (Nat × (Nat → Int32))} {Q : Option Value → jm → Prop} {f : Int → Int} {N : Int} {T : jm} {C : Int} {y : Int} {z : Int} (q : ∀ (M' : jm), CI M' → FR W_c_Flow_describe_x T M' → (DSL T M' f N C y z 2) → Q none M') : ∀ (nM : Nat) (M : jm) (k : Int), CI M → FR W_c_Flow_describe_x T M → 0 ≤ y ∧ y ≤ 11 → 0 ≤ z ∧ z ≤ 11 → 7 ≤ k ∧ k ≤ 9 → M 3 3 = C → (HS M 3 f N) → (DSL T M f N C y z 0) → (k = kA f N C z ∧ 7 ≤ k ∧ k ≤ 9) → 0 ≤ nM → jr A 3 xm_57 54 [(2, .int (Int32.ofInt (y))), (3, .int (Int32.ofInt (z))), (4, .int (Int32.ofInt (k))), (0, .ref (18)), (1, .ref (3))] [] M Q := by
  intro nM
  induction nM using Nat.strongRecOn with
  | ind nM ih =>
    intro M k hC_M ht_M h_y h_z h_k g_C hy0 hy1 hy2 hm
    have b_C : 0 ≤ C ∧ C ≤ 12 := by rw [← g_C]; exact (CI.r hC_M (show kd 3 = 18 from rfl) (by decide) 3)
    refine jr.iconst rfl ?_
    refine jr.istore (ls' := [_, _, _, _, _, _]) rfl (nlt rfl) rfl ?_
    refine jr.pick (ls := [_, _, _, _, _, _]) [1, 2, 3, 0, 4, 5] rfl rfl ?_
    exact c_Flow_describe_x_L57  q 2 M k 0 hC_M ht_M (by omega) (by omega) (by omega) (by omega) g_C hy0 hy1 hy2 (by omega)
theorem c_Flow_describe_x {A : Nat → Option (Nat × (Nat → Int32))} {Q : Option Value → jm → Prop} {f : Int → Int} {N : Int} {T : jm} {M : jm} (hC_M : CI M) (ht_M : FR W_c_Flow_describe_x T M) {y : Int} (h_y : 0 ≤ y ∧ y ≤ 11) {z : Int} (h_z : 0 ≤ z ∧ z ≤ 11) {C : Int} (g_C : M 3 3 = C) (p0 : T = M) (p1 : HS M 3 f N) (p2 : 7 ≤ kA f N C z ∧ kA f N C z ≤ 9) (q : ∀ (M' : jm), CI M' → FR W_c_Flow_describe_x T M' → (DSL T M' f N C y z 2) → Q none M') : jc A 4 57 [.ref (18), .ref (3), .int (Int32.ofInt (y)), .int (Int32.ofInt (z))] M Q := by
  refine jc_of (m := xm_57) rfl (Nat.le_of_ble_eq_true rfl) rfl ?_
  have b_C : 0 ≤ C ∧ C ≤ 12 := by rw [← g_C]; exact (CI.r hC_M (show kd 3 = 18 from rfl) (by decide) 3)
  refine jr.aload_n rfl rfl ?_
  refine jr.iload_n rfl rfl ?_
  refine jr_v rfl rfl (Or.inl rfl) rfl rfl (nlt rfl) rfl ⟨rfl, Nat.le_of_ble_eq_true rfl, Nat.le_of_ble_eq_true rfl⟩ rfl (jc.deep (c_Headers_kindAt_x hC_M (show kd 3 = 18 from rfl) (by omega) g_C p1 (fun r1 z1 w1_0 => ?_)) (Nat.le_of_ble_eq_true rfl))
  refine jr.istore (ls' := [_, _, _, _, _]) rfl (nlt rfl) rfl ?_
  refine jr.aload_n rfl rfl ?_
  refine jr.aload_n rfl rfl ?_
  refine jr.iload_n rfl rfl ?_
  refine jr_v rfl rfl (Or.inl rfl) rfl rfl (nlt rfl) rfl ⟨rfl, Nat.le_of_ble_eq_true rfl, Nat.le_of_ble_eq_true rfl⟩ rfl (jc.deep (c_Headers_kindAt_x hC_M (show kd 3 = 18 from rfl) (by omega) g_C p1 (fun r2 z2 w2_0 => ?_)) (Nat.le_of_ble_eq_true rfl))
  refine jr.iconst rfl ?_
  refine jr.icmp_ne rfl rfl (by first | (refine rgb (by assumption) ?_; exact rfl) | omega) (rgl rfl) (fun h14 => ?_) (fun h14 => ?_)
  · refine jr.iconst rfl ?_
    refine jr.putf (i := 1) (x := 0) rfl rfl (nlt rfl) rfl (nlt rfl) rfl rfl rfl rfl rfl ?_
    refine jr.aload_n rfl rfl ?_
    refine jr.iload rfl rfl ?_
    refine jr.bipush rfl (jbp _ (nlt rfl)) ?_
    refine jr.icmp_ne rfl rfl (by first | (refine rgb (by assumption) ?_; exact rfl) | omega) (rgl rfl) (fun h30 => ?_) (fun h30 => ?_)
    · refine jr.iload rfl rfl ?_
      refine jr.bipush rfl (jbp _ (nlt rfl)) ?_
      refine jr.icmp_ne rfl rfl (by first | (refine rgb (by assumption) ?_; exact rfl) | omega) (rgl rfl) (fun h41 => ?_) (fun h41 => ?_)
      · refine jr.bipush rfl (jbp _ (nlt rfl)) ?_
        refine jr.putf (i := 2) (x := 17) rfl rfl (nlt rfl) rfl (nlt rfl) rfl rfl rfl rfl rfl ?_
        refine jr.pick (ls := [_, _, _, _, _]) [3, 4, 0, 1, 2] rfl rfl ?_
        exact c_Flow_describe_x_L54  q 0 ((ju (ju M 18 1 0) 18 2 17)) r1 (CI.u (CI.u hC_M (i := 1) (show kd 18 = 1 from rfl) (show (0 : Int) ≤ _ ∧ _ ≤ (1 : Int) from by omega) rfl) (i := 2) (show kd 18 = 1 from rfl) (show (-2147483648 : Int) ≤ _ ∧ _ ≤ (2147483647 : Int) from by omega) rfl) (FR.o (FR.o ht_M (show kd 18 = 1 from rfl) rfl) (show kd 18 = 1 from rfl) rfl) (by omega) (by omega) (by omega) ((ju_c _ _ (by decide)).trans ((ju_c _ _ (by decide)).trans g_C)) (HS.fr p1 (show kd 3 = 18 from rfl) hC_M (FR.o (FR.o (FR.rfl [(1, 1), (1, 2)] M) (show kd 18 = 1 from rfl) rfl) (show kd 18 = 1 from rfl) rfl) rfl) ⟨⟨(by rw [show (ju (ju M 18 1 0) 18 2 17) 18 1 = 0 from ((ju_i _ _ (zne (by decide))).trans (ju_same _ _ _ _)), ← w2_0]; first | (rw [if_pos (by omega)]) | (rw [if_neg (by omega)])), (by rw [show (ju (ju M 18 1 0) 18 2 17) 18 2 = 17 from (ju_same _ _ _ _), ← w1_0]; unfold nxk; (repeat' split) <;> omega)⟩, fun s s0 s1 => absurd s1 (by omega), fun b k b0 _ _ => by rw [ju_c _ _ b0, ju_c _ _ b0, p0]⟩ ⟨w1_0, by omega, by omega⟩ (by omega)
      · refine jr.bipush rfl (jbp _ (nlt rfl)) ?_
        refine jr.goto rfl rfl ?_
        refine jr.putf (i := 2) (x := 6) rfl rfl (nlt rfl) rfl (nlt rfl) rfl rfl rfl rfl rfl ?_
        refine jr.pick (ls := [_, _, _, _, _]) [3, 4, 0, 1, 2] rfl rfl ?_
        exact c_Flow_describe_x_L54  q 0 ((ju (ju M 18 1 0) 18 2 6)) r1 (CI.u (CI.u hC_M (i := 1) (show kd 18 = 1 from rfl) (show (0 : Int) ≤ _ ∧ _ ≤ (1 : Int) from by omega) rfl) (i := 2) (show kd 18 = 1 from rfl) (show (-2147483648 : Int) ≤ _ ∧ _ ≤ (2147483647 : Int) from by omega) rfl) (FR.o (FR.o ht_M (show kd 18 = 1 from rfl) rfl) (show kd 18 = 1 from rfl) rfl) (by omega) (by omega) (by omega) ((ju_c _ _ (by decide)).trans ((ju_c _ _ (by decide)).trans g_C)) (HS.fr p1 (show kd 3 = 18 from rfl) hC_M (FR.o (FR.o (FR.rfl [(1, 1), (1, 2)] M) (show kd 18 = 1 from rfl) rfl) (show kd 18 = 1 from rfl) rfl) rfl) ⟨⟨(by rw [show (ju (ju M 18 1 0) 18 2 6) 18 1 = 0 from ((ju_i _ _ (zne (by decide))).trans (ju_same _ _ _ _)), ← w2_0]; first | (rw [if_pos (by omega)]) | (rw [if_neg (by omega)])), (by rw [show (ju (ju M 18 1 0) 18 2 6) 18 2 = 6 from (ju_same _ _ _ _), ← w1_0]; unfold nxk; (repeat' split) <;> omega)⟩, fun s s0 s1 => absurd s1 (by omega), fun b k b0 _ _ => by rw [ju_c _ _ b0, ju_c _ _ b0, p0]⟩ ⟨w1_0, by omega, by omega⟩ (by omega)
    · refine jr.iconst rfl ?_
      refine jr.goto rfl rfl ?_
      refine jr.putf (i := 2) (x := 1) rfl rfl (nlt rfl) rfl (nlt rfl) rfl rfl rfl rfl rfl ?_
      refine jr.pick (ls := [_, _, _, _, _]) [3, 4, 0, 1, 2] rfl rfl ?_
      exact c_Flow_describe_x_L54  q 0 ((ju (ju M 18 1 0) 18 2 1)) r1 (CI.u (CI.u hC_M (i := 1) (show kd 18 = 1 from rfl) (show (0 : Int) ≤ _ ∧ _ ≤ (1 : Int) from by omega) rfl) (i := 2) (show kd 18 = 1 from rfl) (show (-2147483648 : Int) ≤ _ ∧ _ ≤ (2147483647 : Int) from by omega) rfl) (FR.o (FR.o ht_M (show kd 18 = 1 from rfl) rfl) (show kd 18 = 1 from rfl) rfl) (by omega) (by omega) (by omega) ((ju_c _ _ (by decide)).trans ((ju_c _ _ (by decide)).trans g_C)) (HS.fr p1 (show kd 3 = 18 from rfl) hC_M (FR.o (FR.o (FR.rfl [(1, 1), (1, 2)] M) (show kd 18 = 1 from rfl) rfl) (show kd 18 = 1 from rfl) rfl) rfl) ⟨⟨(by rw [show (ju (ju M 18 1 0) 18 2 1) 18 1 = 0 from ((ju_i _ _ (zne (by decide))).trans (ju_same _ _ _ _)), ← w2_0]; first | (rw [if_pos (by omega)]) | (rw [if_neg (by omega)])), (by rw [show (ju (ju M 18 1 0) 18 2 1) 18 2 = 1 from (ju_same _ _ _ _), ← w1_0]; unfold nxk; (repeat' split) <;> omega)⟩, fun s s0 s1 => absurd s1 (by omega), fun b k b0 _ _ => by rw [ju_c _ _ b0, ju_c _ _ b0, p0]⟩ ⟨w1_0, by omega, by omega⟩ (by omega)
  · refine jr.iconst rfl ?_
    refine jr.goto rfl rfl ?_
    refine jr.putf (i := 1) (x := 1) rfl rfl (nlt rfl) rfl (nlt rfl) rfl rfl rfl rfl rfl ?_
    refine jr.aload_n rfl rfl ?_
    refine jr.iload rfl rfl ?_
    refine jr.bipush rfl (jbp _ (nlt rfl)) ?_
    refine jr.icmp_ne rfl rfl (by first | (refine rgb (by assumption) ?_; exact rfl) | omega) (rgl rfl) (fun h30 => ?_) (fun h30 => ?_)
    · refine jr.iload rfl rfl ?_
      refine jr.bipush rfl (jbp _ (nlt rfl)) ?_
      refine jr.icmp_ne rfl rfl (by first | (refine rgb (by assumption) ?_; exact rfl) | omega) (rgl rfl) (fun h41 => ?_) (fun h41 => ?_)
      · refine jr.bipush rfl (jbp _ (nlt rfl)) ?_
        refine jr.putf (i := 2) (x := 17) rfl rfl (nlt rfl) rfl (nlt rfl) rfl rfl rfl rfl rfl ?_
        refine jr.pick (ls := [_, _, _, _, _]) [3, 4, 0, 1, 2] rfl rfl ?_
        exact c_Flow_describe_x_L54  q 0 ((ju (ju M 18 1 1) 18 2 17)) r1 (CI.u (CI.u hC_M (i := 1) (show kd 18 = 1 from rfl) (show (0 : Int) ≤ _ ∧ _ ≤ (1 : Int) from by omega) rfl) (i := 2) (show kd 18 = 1 from rfl) (show (-2147483648 : Int) ≤ _ ∧ _ ≤ (2147483647 : Int) from by omega) rfl) (FR.o (FR.o ht_M (show kd 18 = 1 from rfl) rfl) (show kd 18 = 1 from rfl) rfl) (by omega) (by omega) (by omega) ((ju_c _ _ (by decide)).trans ((ju_c _ _ (by decide)).trans g_C)) (HS.fr p1 (show kd 3 = 18 from rfl) hC_M (FR.o (FR.o (FR.rfl [(1, 1), (1, 2)] M) (show kd 18 = 1 from rfl) rfl) (show kd 18 = 1 from rfl) rfl) rfl) ⟨⟨(by rw [show (ju (ju M 18 1 1) 18 2 17) 18 1 = 1 from ((ju_i _ _ (zne (by decide))).trans (ju_same _ _ _ _)), ← w2_0]; first | (rw [if_pos (by omega)]) | (rw [if_neg (by omega)])), (by rw [show (ju (ju M 18 1 1) 18 2 17) 18 2 = 17 from (ju_same _ _ _ _), ← w1_0]; unfold nxk; (repeat' split) <;> omega)⟩, fun s s0 s1 => absurd s1 (by omega), fun b k b0 _ _ => by rw [ju_c _ _ b0, ju_c _ _ b0, p0]⟩ ⟨w1_0, by omega, by omega⟩ (by omega)
      · refine jr.bipush rfl (jbp _ (nlt rfl)) ?_
        refine jr.goto rfl rfl ?_
        refine jr.putf (i := 2) (x := 6) rfl rfl (nlt rfl) rfl (nlt rfl) rfl rfl rfl rfl rfl ?_
        refine jr.pick (ls := [_, _, _, _, _]) [3, 4, 0, 1, 2] rfl rfl ?_
        exact c_Flow_describe_x_L54  q 0 ((ju (ju M 18 1 1) 18 2 6)) r1 (CI.u (CI.u hC_M (i := 1) (show kd 18 = 1 from rfl) (show (0 : Int) ≤ _ ∧ _ ≤ (1 : Int) from by omega) rfl) (i := 2) (show kd 18 = 1 from rfl) (show (-2147483648 : Int) ≤ _ ∧ _ ≤ (2147483647 : Int) from by omega) rfl) (FR.o (FR.o ht_M (show kd 18 = 1 from rfl) rfl) (show kd 18 = 1 from rfl) rfl) (by omega) (by omega) (by omega) ((ju_c _ _ (by decide)).trans ((ju_c _ _ (by decide)).trans g_C)) (HS.fr p1 (show kd 3 = 18 from rfl) hC_M (FR.o (FR.o (FR.rfl [(1, 1), (1, 2)] M) (show kd 18 = 1 from rfl) rfl) (show kd 18 = 1 from rfl) rfl) rfl) ⟨⟨(by rw [show (ju (ju M 18 1 1) 18 2 6) 18 1 = 1 from ((ju_i _ _ (zne (by decide))).trans (ju_same _ _ _ _)), ← w2_0]; first | (rw [if_pos (by omega)]) | (rw [if_neg (by omega)])), (by rw [show (ju (ju M 18 1 1) 18 2 6) 18 2 = 6 from (ju_same _ _ _ _), ← w1_0]; unfold nxk; (repeat' split) <;> omega)⟩, fun s s0 s1 => absurd s1 (by omega), fun b k b0 _ _ => by rw [ju_c _ _ b0, ju_c _ _ b0, p0]⟩ ⟨w1_0, by omega, by omega⟩ (by omega)
    · refine jr.iconst rfl ?_
      refine jr.goto rfl rfl ?_
      refine jr.putf (i := 2) (x := 1) rfl rfl (nlt rfl) rfl (nlt rfl) rfl rfl rfl rfl rfl ?_
      refine jr.pick (ls := [_, _, _, _, _]) [3, 4, 0, 1, 2] rfl rfl ?_
      exact c_Flow_describe_x_L54  q 0 ((ju (ju M 18 1 1) 18 2 1)) r1 (CI.u (CI.u hC_M (i := 1) (show kd 18 = 1 from rfl) (show (0 : Int) ≤ _ ∧ _ ≤ (1 : Int) from by omega) rfl) (i := 2) (show kd 18 = 1 from rfl) (show (-2147483648 : Int) ≤ _ ∧ _ ≤ (2147483647 : Int) from by omega) rfl) (FR.o (FR.o ht_M (show kd 18 = 1 from rfl) rfl) (show kd 18 = 1 from rfl) rfl) (by omega) (by omega) (by omega) ((ju_c _ _ (by decide)).trans ((ju_c _ _ (by decide)).trans g_C)) (HS.fr p1 (show kd 3 = 18 from rfl) hC_M (FR.o (FR.o (FR.rfl [(1, 1), (1, 2)] M) (show kd 18 = 1 from rfl) rfl) (show kd 18 = 1 from rfl) rfl) rfl) ⟨⟨(by rw [show (ju (ju M 18 1 1) 18 2 1) 18 1 = 1 from ((ju_i _ _ (zne (by decide))).trans (ju_same _ _ _ _)), ← w2_0]; first | (rw [if_pos (by omega)]) | (rw [if_neg (by omega)])), (by rw [show (ju (ju M 18 1 1) 18 2 1) 18 2 = 1 from (ju_same _ _ _ _), ← w1_0]; unfold nxk; (repeat' split) <;> omega)⟩, fun s s0 s1 => absurd s1 (by omega), fun b k b0 _ _ => by rw [ju_c _ _ b0, ju_c _ _ b0, p0]⟩ ⟨w1_0, by omega, by omega⟩ (by omega)
end
section
/-! ===== the class: a packet's ends ===== -/
noncomputable def qfF (f : Int → Int) (N C i : Int) : Prop := kA f N C i = 7 ∧ (vA f N C i 0 = 3 ∨ vA f N C i 0 = 11) ∧ (kA f N C (i + 1) = 2 ∨ kA f N C (i + 1) = 3) ∧ (7 ≤ kA f N C (i + 2) ∧ kA f N C (i + 2) ≤ 9)
noncomputable def heF (f : Int → Int) (N C F : Int) : Prop := F = 0 ∧ ntf f N C ≠ -1 ∧ pcf f N C = -1 ∧ (7 ≤ kA f N C (inf f N C (ntf f N C)) ∧ kA f N C (inf f N C (ntf f N C)) ≤ 9)
noncomputable def E2F (M : jm) (f : Int → Int) (N C y z : Int) : Prop := (M 18 1 = (if kA f N C y = 3 then 1 else 0) ∧ M 18 2 = nxk (kA f N C z)) ∧ ∀ s : Int, 0 ≤ s → s < 2 → M 19 s = adf f N C y s ∧ M 20 s = epf f N C z s
noncomputable def OT5 (T M : jm) : Prop := (∀ (b : Nat) (k : Int), b ≠ 15 → b ≠ 18 → b ≠ 19 → b ≠ 20 → M b k = T b k) ∧ ∀ k : Int, k ≠ 3 → k ≠ 4 → k ≠ 5 → M 15 k = T 15 k
noncomputable def FND (T M : jm) (f : Int → Int) (N C F r : Int) : Prop := (¬ heF f N C F ∧ r = 0 ∧ OT5 T M) ∨ (heF f N C F ∧ r = 1 ∧ OT5 T M ∧ (M 15 3 = ntf f N C ∧ M 15 4 = inf f N C (ntf f N C)) ∧ ((qfF f N C (inf f N C (ntf f N C)) ∧ M 15 5 = 1 ∧ E2F M f N C (inf f N C (ntf f N C) + 1) (inf f N C (ntf f N C) + 2)) ∨ (¬ qfF f N C (inf f N C (ntf f N C)) ∧ M 15 5 = 0 ∧ E2F M f N C (ntf f N C) (inf f N C (ntf f N C)))))
theorem c_Flows_isQuoting_x {A : Nat → Option (Nat × (Nat → Int32))} {Q : Option Value → jm → Prop} {f : Int → Int} {N : Int} {M : jm} (hC_M : CI M) {C : Int} (g_C : M 3 3 = C) {I : Int} (g_I : M 15 4 = I) (p0 : HS M 3 f N) (p1 : -1 ≤ I ∧ I ≤ 11) (q : ∀ (r : Int), 0 ≤ r ∧ r ≤ 1 → ((r = 1 ∧ qfF f N C I) ∨ (r = 0 ∧ ¬ qfF f N C I)) → Q (some (.int (Int32.ofInt r))) M) : jc A 3 90 [.ref (15), .ref (3)] M Q := by
  refine jc_of (m := xm_90) rfl (Nat.le_of_ble_eq_true rfl) rfl ?_
  have b_C : 0 ≤ C ∧ C ≤ 12 := by rw [← g_C]; exact (CI.r hC_M (show kd 3 = 18 from rfl) (by decide) 3)
  have b_I : (-2147483648) ≤ I ∧ I ≤ 2147483647 := by rw [← g_I]; exact (CI.r hC_M (show kd 15 = 9 from rfl) (by decide) 4)
  refine jr.aload_n rfl rfl ?_
  refine jr.aload_n rfl rfl ?_
  refine jr.getf (i := 4) (x := I) (v := .int (Int32.ofInt (I))) rfl rfl (nlt rfl) rfl (nlt rfl) rfl rfl g_I rfl ?_
  refine jr_v rfl rfl (Or.inl rfl) rfl rfl (nlt rfl) rfl ⟨rfl, Nat.le_of_ble_eq_true rfl, Nat.le_of_ble_eq_true rfl⟩ rfl (jc.deep (c_Headers_kindAt_x hC_M (show kd 3 = 18 from rfl) (by omega) g_C p0 (fun r1 z1 w1_0 => ?_)) (Nat.le_of_ble_eq_true rfl))
  refine jr.bipush rfl (jbp _ (nlt rfl)) ?_
  refine jr.icmp_eq rfl rfl (by first | (refine rgb (by assumption) ?_; exact rfl) | omega) (rgl rfl) (fun h10 => ?_) (fun h10 => ?_)
  · refine jr.aload_n rfl rfl ?_
    refine jr.aload_n rfl rfl ?_
    refine jr.getf (i := 4) (x := I) (v := .int (Int32.ofInt (I))) rfl rfl (nlt rfl) rfl (nlt rfl) rfl rfl g_I rfl ?_
    refine jr.iconst rfl ?_
    refine jr_v rfl rfl (Or.inl rfl) rfl rfl (nlt rfl) rfl ⟨rfl, Nat.le_of_ble_eq_true rfl, Nat.le_of_ble_eq_true rfl⟩ rfl (jc.deep (c_Headers_valueOf_x hC_M (show kd 3 = 18 from rfl) (by omega) (by omega) g_C p0 (fun r2 z2 w2_0 => ?_)) (Nat.le_of_ble_eq_true rfl))
    refine jr.lstore_n (ls' := [_, _, _]) rfl (nlt rfl) rfl ?_
    refine jr.aload_n rfl rfl ?_
    refine jr.aload_n rfl rfl ?_
    refine jr.getf (i := 4) (x := I) (v := .int (Int32.ofInt (I))) rfl rfl (nlt rfl) rfl (nlt rfl) rfl rfl g_I rfl ?_
    refine jr.iconst rfl ?_
    refine jr.iadd rfl ?_
    refine jr_v rfl rfl (Or.inl rfl) rfl rfl (nlt rfl) rfl ⟨rfl, Nat.le_of_ble_eq_true rfl, Nat.le_of_ble_eq_true rfl⟩ rfl (jc.deep (c_Headers_kindAt_x hC_M (show kd 3 = 18 from rfl) (by omega) g_C p0 (fun r3 z3 w3_0 => ?_)) (Nat.le_of_ble_eq_true rfl))
    skip
    refine jr_s rfl rfl (Or.inr rfl) ⟨Nat.le_of_ble_eq_true rfl, Nat.le_of_ble_eq_true rfl⟩ rfl rfl (jc.deep (c_PacketWall_isNetKind_x hC_M (by omega) (fun r4 z4 w4_0 w4_1 => ?_)) (Nat.le_of_ble_eq_true rfl))
    refine jr.if_eq rfl rfl (by first | (refine rgb (by assumption) ?_; exact rfl) | omega) (fun h38 => ?_) (fun h38 => ?_)
    · refine jr.iconst rfl ?_
      refine jr.istore (ls' := [_, _, _, _]) rfl (nlt rfl) rfl ?_
      refine jr.lload_n rfl rfl ?_
      refine jr.ldc2 (x := 3) rfl rfl (by decide) ?_
      refine jr.lcmp_eq rfl rfl rfl (by omega) (by omega) (fun h68 => ?_) (fun h68 => ?_)
      · refine jr.iload rfl rfl ?_
        refine jr.if_eq rfl rfl (by first | exact rgl rfl | omega) (fun _ => ?_) (fun h => absurd (by decide) h)
        refine jr.iconst rfl ?_
        exact jr.ireturn rfl rfl rfl (q _ (by first | exact rgq rfl | omega) (by have a0 : kA f N C I = r1 := w1_0.symm; have a1 : vA f N C I 0 = r2 := w2_0.symm; have c1 : kA f N C (I + 1) = r3 := w3_0.symm; exact Or.inr ⟨rfl, fun h => by unfold qfF at h; omega⟩))
      · refine jr.lload_n rfl rfl ?_
        refine jr.ldc2 (x := 11) rfl rfl (by decide) ?_
        refine jr.lcmp_ne rfl rfl rfl (by omega) (by omega) (fun h76 => ?_) (fun h76 => ?_)
        · refine jr.iconst rfl ?_
          exact jr.ireturn rfl rfl rfl (q _ (by first | exact rgq rfl | omega) (by have a0 : kA f N C I = r1 := w1_0.symm; have a1 : vA f N C I 0 = r2 := w2_0.symm; have c1 : kA f N C (I + 1) = r3 := w3_0.symm; exact Or.inr ⟨rfl, fun h => by unfold qfF at h; omega⟩))
        · refine jr.iload rfl rfl ?_
          refine jr.if_eq rfl rfl (by first | exact rgl rfl | omega) (fun _ => ?_) (fun h => absurd (by decide) h)
          refine jr.iconst rfl ?_
          exact jr.ireturn rfl rfl rfl (q _ (by first | exact rgq rfl | omega) (by have a0 : kA f N C I = r1 := w1_0.symm; have a1 : vA f N C I 0 = r2 := w2_0.symm; have c1 : kA f N C (I + 1) = r3 := w3_0.symm; exact Or.inr ⟨rfl, fun h => by unfold qfF at h; omega⟩))
    · refine jr.aload_n rfl rfl ?_
      refine jr.aload_n rfl rfl ?_
      refine jr.getf (i := 4) (x := I) (v := .int (Int32.ofInt (I))) rfl rfl (nlt rfl) rfl (nlt rfl) rfl rfl g_I rfl ?_
      refine jr.iconst rfl ?_
      refine jr.iadd rfl ?_
      refine jr_v rfl rfl (Or.inl rfl) rfl rfl (nlt rfl) rfl ⟨rfl, Nat.le_of_ble_eq_true rfl, Nat.le_of_ble_eq_true rfl⟩ rfl (jc.deep (c_Headers_kindAt_x hC_M (show kd 3 = 18 from rfl) (by omega) g_C p0 (fun r5 z5 w5_0 => ?_)) (Nat.le_of_ble_eq_true rfl))
      skip
      refine jr_s rfl rfl (Or.inr rfl) ⟨Nat.le_of_ble_eq_true rfl, Nat.le_of_ble_eq_true rfl⟩ rfl rfl (jc.deep (c_PacketWall_isCarriedKind_x hC_M (by omega) (fun r6 z6 w6_0 w6_1 => ?_)) (Nat.le_of_ble_eq_true rfl))
      refine jr.if_eq rfl rfl (by first | (refine rgb (by assumption) ?_; exact rfl) | omega) (fun h54 => ?_) (fun h54 => ?_)
      · refine jr.iconst rfl ?_
        refine jr.istore (ls' := [_, _, _, _]) rfl (nlt rfl) rfl ?_
        refine jr.lload_n rfl rfl ?_
        refine jr.ldc2 (x := 3) rfl rfl (by decide) ?_
        refine jr.lcmp_eq rfl rfl rfl (by omega) (by omega) (fun h68 => ?_) (fun h68 => ?_)
        · refine jr.iload rfl rfl ?_
          refine jr.if_eq rfl rfl (by first | exact rgl rfl | omega) (fun _ => ?_) (fun h => absurd (by decide) h)
          refine jr.iconst rfl ?_
          exact jr.ireturn rfl rfl rfl (q _ (by first | exact rgq rfl | omega) (by have a0 : kA f N C I = r1 := w1_0.symm; have a1 : vA f N C I 0 = r2 := w2_0.symm; have c1 : kA f N C (I + 1) = r3 := w3_0.symm; have c2 : kA f N C (I + 2) = r5 := w5_0.symm; exact Or.inr ⟨rfl, fun h => by unfold qfF at h; omega⟩))
        · refine jr.lload_n rfl rfl ?_
          refine jr.ldc2 (x := 11) rfl rfl (by decide) ?_
          refine jr.lcmp_ne rfl rfl rfl (by omega) (by omega) (fun h76 => ?_) (fun h76 => ?_)
          · refine jr.iconst rfl ?_
            exact jr.ireturn rfl rfl rfl (q _ (by first | exact rgq rfl | omega) (by have a0 : kA f N C I = r1 := w1_0.symm; have a1 : vA f N C I 0 = r2 := w2_0.symm; have c1 : kA f N C (I + 1) = r3 := w3_0.symm; have c2 : kA f N C (I + 2) = r5 := w5_0.symm; exact Or.inr ⟨rfl, fun h => by unfold qfF at h; omega⟩))
          · refine jr.iload rfl rfl ?_
            refine jr.if_eq rfl rfl (by first | exact rgl rfl | omega) (fun _ => ?_) (fun h => absurd (by decide) h)
            refine jr.iconst rfl ?_
            exact jr.ireturn rfl rfl rfl (q _ (by first | exact rgq rfl | omega) (by have a0 : kA f N C I = r1 := w1_0.symm; have a1 : vA f N C I 0 = r2 := w2_0.symm; have c1 : kA f N C (I + 1) = r3 := w3_0.symm; have c2 : kA f N C (I + 2) = r5 := w5_0.symm; exact Or.inr ⟨rfl, fun h => by unfold qfF at h; omega⟩))
      · refine jr.iconst rfl ?_
        refine jr.goto rfl rfl ?_
        refine jr.istore (ls' := [_, _, _, _]) rfl (nlt rfl) rfl ?_
        refine jr.lload_n rfl rfl ?_
        refine jr.ldc2 (x := 3) rfl rfl (by decide) ?_
        refine jr.lcmp_eq rfl rfl rfl (by omega) (by omega) (fun h68 => ?_) (fun h68 => ?_)
        · refine jr.iload rfl rfl ?_
          refine jr.if_eq rfl rfl (by first | exact rgl rfl | omega) (fun h => absurd h (by decide)) (fun _ => ?_)
          refine jr.iconst rfl ?_
          refine jr.goto rfl rfl ?_
          exact jr.ireturn rfl rfl rfl (q _ (by first | exact rgq rfl | omega) (by have a0 : kA f N C I = r1 := w1_0.symm; have a1 : vA f N C I 0 = r2 := w2_0.symm; have c1 : kA f N C (I + 1) = r3 := w3_0.symm; have c2 : kA f N C (I + 2) = r5 := w5_0.symm; exact Or.inl ⟨rfl, by unfold qfF; omega⟩))
        · refine jr.lload_n rfl rfl ?_
          refine jr.ldc2 (x := 11) rfl rfl (by decide) ?_
          refine jr.lcmp_ne rfl rfl rfl (by omega) (by omega) (fun h76 => ?_) (fun h76 => ?_)
          · refine jr.iconst rfl ?_
            exact jr.ireturn rfl rfl rfl (q _ (by first | exact rgq rfl | omega) (by have a0 : kA f N C I = r1 := w1_0.symm; have a1 : vA f N C I 0 = r2 := w2_0.symm; have c1 : kA f N C (I + 1) = r3 := w3_0.symm; have c2 : kA f N C (I + 2) = r5 := w5_0.symm; exact Or.inr ⟨rfl, fun h => by unfold qfF at h; omega⟩))
          · refine jr.iload rfl rfl ?_
            refine jr.if_eq rfl rfl (by first | exact rgl rfl | omega) (fun h => absurd h (by decide)) (fun _ => ?_)
            refine jr.iconst rfl ?_
            refine jr.goto rfl rfl ?_
            exact jr.ireturn rfl rfl rfl (q _ (by first | exact rgq rfl | omega) (by have a0 : kA f N C I = r1 := w1_0.symm; have a1 : vA f N C I 0 = r2 := w2_0.symm; have c1 : kA f N C (I + 1) = r3 := w3_0.symm; have c2 : kA f N C (I + 2) = r5 := w5_0.symm; exact Or.inl ⟨rfl, by unfold qfF; omega⟩))
  · refine jr.iconst rfl ?_
    exact jr.ireturn rfl rfl rfl (q _ (by first | exact rgq rfl | omega) (Or.inr ⟨rfl, fun h => by unfold qfF at h; rw [← w1_0] at h; omega⟩))
noncomputable def W_c_Flows_findEnds_x : List (Nat × Nat) := [(1, 1), (1, 2), (2, 1000), (7, 1000), (9, 3), (9, 4), (9, 5)]
theorem c_Flows_findEnds_x {A : Nat → Option (Nat × (Nat → Int32))} {Q : Option Value → jm → Prop} {f : Int → Int} {N : Int} {T : jm} {M : jm} (hC_M : CI M) (ht_M : FR W_c_Flows_findEnds_x T M) {C : Int} (g_C : M 3 3 = C) {F : Int} (g_F : M 3 4 = F) (p0 : T = M) (p1 : HS M 3 f N) (q : ∀ (r : Int) (M' : jm), CI M' → FR W_c_Flows_findEnds_x T M' → 0 ≤ r ∧ r ≤ 1 → (FND T M' f N C F r) → Q (some (.int (Int32.ofInt r))) M') : jc A 5 89 [.ref (15), .ref (3)] M Q := by
  refine jc_of (m := xm_89) rfl (Nat.le_of_ble_eq_true rfl) rfl ?_
  have b_C : 0 ≤ C ∧ C ≤ 12 := by rw [← g_C]; exact (CI.r hC_M (show kd 3 = 18 from rfl) (by decide) 3)
  have b_F : (-2147483648) ≤ F ∧ F ≤ 2147483647 := by rw [← g_F]; exact (CI.r hC_M (show kd 3 = 18 from rfl) (by decide) 4)
  refine jr.aload_n rfl rfl ?_
  refine jr.iconst rfl ?_
  refine jr.putf (i := 5) (x := 0) rfl rfl (nlt rfl) rfl (nlt rfl) rfl rfl rfl rfl rfl ?_
  refine jr.aload_n rfl rfl ?_
  refine jr.aload_n rfl rfl ?_
  refine jr.bipush rfl (jbp _ (nlt rfl)) ?_
  refine jr_v rfl rfl (Or.inl rfl) rfl rfl (nlt rfl) rfl ⟨rfl, Nat.le_of_ble_eq_true rfl, Nat.le_of_ble_eq_true rfl⟩ rfl (jc.deep (c_Headers_firstOf_x (CI.u hC_M (i := 5) (show kd 15 = 9 from rfl) (show (0 : Int) ≤ _ ∧ _ ≤ (1 : Int) from by omega) rfl) (show kd 3 = 18 from rfl) (by omega) ((ju_c _ _ (by decide)).trans g_C) (HS.fr p1 (show kd 3 = 18 from rfl) hC_M (FR.o (FR.rfl [(9, 5)] M) (show kd 15 = 9 from rfl) rfl) rfl) (fun r1 z1 w1_0 => ?_)) (Nat.le_of_ble_eq_true rfl))
  have hnr := ntf_r (f := f) (N := N) (C := C) (by omega)
  rw [← w1_0] at hnr
  refine jr.putf (i := 3) (x := r1) rfl rfl (nlt rfl) rfl (nlt rfl) rfl rfl rfl rfl rfl ?_
  refine jr.aload_n rfl rfl ?_
  refine jr.getf (i := 4) (x := F) (v := .int (Int32.ofInt (F))) rfl rfl (nlt rfl) rfl (nlt rfl) rfl rfl ((ju_c _ _ (by decide)).trans ((ju_c _ _ (by decide)).trans g_F)) rfl ?_
  refine jr.if_ne rfl rfl (by first | (refine rgb (by assumption) ?_; exact rfl) | omega) (fun h19 => ?_) (fun h19 => ?_)
  · refine jr.iconst rfl ?_
    exact jr.ireturn rfl rfl rfl (q _ _ (CI.u (CI.u hC_M (i := 5) (show kd 15 = 9 from rfl) (show (0 : Int) ≤ _ ∧ _ ≤ (1 : Int) from by omega) rfl) (i := 3) (show kd 15 = 9 from rfl) (show (-2147483648 : Int) ≤ _ ∧ _ ≤ (2147483647 : Int) from by omega) rfl) (FR.o (FR.o ht_M (show kd 15 = 9 from rfl) rfl) (show kd 15 = 9 from rfl) rfl) (by omega) (by have hn : ntf f N C = r1 := w1_0.symm; exact Or.inl ⟨fun h => by unfold heF at h; rw [hn] at h; omega, rfl, ⟨fun b k b0 b1 b2 b3 => by rw [ju_c _ _ b0, ju_c _ _ b0, p0], fun k k3 k4 k5 => by rw [ju_i _ _ k3, ju_i _ _ k5, p0]⟩⟩))
  · refine jr.aload_n rfl rfl ?_
    refine jr.getf (i := 3) (x := r1) (v := .int (Int32.ofInt (r1))) rfl rfl (nlt rfl) rfl (nlt rfl) rfl rfl (ju_same _ _ _ _) rfl ?_
    refine jr.iconst rfl ?_
    refine jr.icmp_eq rfl rfl (by first | (refine rgb (by assumption) ?_; exact rfl) | omega) (rgl rfl) (fun h27 => ?_) (fun h27 => ?_)
    · refine jr.iconst rfl ?_
      exact jr.ireturn rfl rfl rfl (q _ _ (CI.u (CI.u hC_M (i := 5) (show kd 15 = 9 from rfl) (show (0 : Int) ≤ _ ∧ _ ≤ (1 : Int) from by omega) rfl) (i := 3) (show kd 15 = 9 from rfl) (show (-2147483648 : Int) ≤ _ ∧ _ ≤ (2147483647 : Int) from by omega) rfl) (FR.o (FR.o ht_M (show kd 15 = 9 from rfl) rfl) (show kd 15 = 9 from rfl) rfl) (by omega) (by have hn : ntf f N C = r1 := w1_0.symm; exact Or.inl ⟨fun h => by unfold heF at h; rw [hn] at h; omega, rfl, ⟨fun b k b0 b1 b2 b3 => by rw [ju_c _ _ b0, ju_c _ _ b0, p0], fun k k3 k4 k5 => by rw [ju_i _ _ k3, ju_i _ _ k5, p0]⟩⟩))
    · have sx27 : (0 : Int) ≤ r1 := by omega
      clear h27
      refine jr.aload_n rfl rfl ?_
      refine jr_v rfl rfl (Or.inl rfl) rfl rfl (nlt rfl) rfl ⟨rfl, Nat.le_of_ble_eq_true rfl, Nat.le_of_ble_eq_true rfl⟩ rfl (jc.deep (c_Headers_pieceHeader_x (CI.u (CI.u hC_M (i := 5) (show kd 15 = 9 from rfl) (show (0 : Int) ≤ _ ∧ _ ≤ (1 : Int) from by omega) rfl) (i := 3) (show kd 15 = 9 from rfl) (show (-2147483648 : Int) ≤ _ ∧ _ ≤ (2147483647 : Int) from by omega) rfl) (show kd 3 = 18 from rfl) ((ju_c _ _ (by decide)).trans ((ju_c _ _ (by decide)).trans g_C)) ((ju_c _ _ (by decide)).trans ((ju_c _ _ (by decide)).trans g_F)) (HS.fr p1 (show kd 3 = 18 from rfl) hC_M (FR.o (FR.o (FR.rfl [(9, 3), (9, 5)] M) (show kd 15 = 9 from rfl) rfl) (show kd 15 = 9 from rfl) rfl) rfl) (fun r2 z2 w2_0 => ?_)) (Nat.le_of_ble_eq_true rfl))
      refine jr.iconst rfl ?_
      refine jr.icmp_eq rfl rfl (by first | (refine rgb (by assumption) ?_; exact rfl) | omega) (rgl rfl) (fun h35 => ?_) (fun h35 => ?_)
      · refine jr.aload_n rfl rfl ?_
        refine jr.aload_n rfl rfl ?_
        refine jr.aload_n rfl rfl ?_
        refine jr.getf (i := 3) (x := r1) (v := .int (Int32.ofInt (r1))) rfl rfl (nlt rfl) rfl (nlt rfl) rfl rfl (ju_same _ _ _ _) rfl ?_
        refine jr_v rfl rfl (Or.inl rfl) rfl rfl (nlt rfl) rfl ⟨rfl, Nat.le_of_ble_eq_true rfl, Nat.le_of_ble_eq_true rfl⟩ rfl (jc.deep (c_Headers_innerOf_x (CI.u (CI.u hC_M (i := 5) (show kd 15 = 9 from rfl) (show (0 : Int) ≤ _ ∧ _ ≤ (1 : Int) from by omega) rfl) (i := 3) (show kd 15 = 9 from rfl) (show (-2147483648 : Int) ≤ _ ∧ _ ≤ (2147483647 : Int) from by omega) rfl) (show kd 3 = 18 from rfl) (by omega) ((ju_c _ _ (by decide)).trans ((ju_c _ _ (by decide)).trans g_C)) (HS.fr p1 (show kd 3 = 18 from rfl) hC_M (FR.o (FR.o (FR.rfl [(9, 3), (9, 5)] M) (show kd 15 = 9 from rfl) rfl) (show kd 15 = 9 from rfl) rfl) rfl) (fun r3 z3 w3_0 => ?_)) (Nat.le_of_ble_eq_true rfl))
        have hir := inf_r (f := f) (N := N) (C := C) (x := r1) (by omega)
        rw [← w3_0] at hir
        refine jr.putf (i := 4) (x := r3) rfl rfl (nlt rfl) rfl (nlt rfl) rfl rfl rfl rfl rfl ?_
        refine jr.aload_n rfl rfl ?_
        refine jr.aload_n rfl rfl ?_
        refine jr.getf (i := 4) (x := r3) (v := .int (Int32.ofInt (r3))) rfl rfl (nlt rfl) rfl (nlt rfl) rfl rfl (ju_same _ _ _ _) rfl ?_
        refine jr_v rfl rfl (Or.inl rfl) rfl rfl (nlt rfl) rfl ⟨rfl, Nat.le_of_ble_eq_true rfl, Nat.le_of_ble_eq_true rfl⟩ rfl (jc.deep (c_Headers_kindAt_x (CI.u (CI.u (CI.u hC_M (i := 5) (show kd 15 = 9 from rfl) (show (0 : Int) ≤ _ ∧ _ ≤ (1 : Int) from by omega) rfl) (i := 3) (show kd 15 = 9 from rfl) (show (-2147483648 : Int) ≤ _ ∧ _ ≤ (2147483647 : Int) from by omega) rfl) (i := 4) (show kd 15 = 9 from rfl) (show (-2147483648 : Int) ≤ _ ∧ _ ≤ (2147483647 : Int) from by omega) rfl) (show kd 3 = 18 from rfl) (by omega) ((ju_c _ _ (by decide)).trans ((ju_c _ _ (by decide)).trans ((ju_c _ _ (by decide)).trans g_C))) (HS.fr p1 (show kd 3 = 18 from rfl) hC_M (FR.o (FR.o (FR.o (FR.rfl [(9, 3), (9, 4), (9, 5)] M) (show kd 15 = 9 from rfl) rfl) (show kd 15 = 9 from rfl) rfl) (show kd 15 = 9 from rfl) rfl) rfl) (fun r4 z4 w4_0 => ?_)) (Nat.le_of_ble_eq_true rfl))
        have hkr : r4 = -1 ∨ (0 ≤ r3 ∧ r3 < C) := Or.elim (Decidable.em (r4 = -1)) (fun h => Or.inl h) (fun h => Or.inr (kA_in (by rw [← w4_0]; exact h)))
        refine jr_s rfl rfl (Or.inr rfl) ⟨Nat.le_of_ble_eq_true rfl, Nat.le_of_ble_eq_true rfl⟩ rfl rfl (jc.deep (c_PacketWall_isCarriedKind_x (CI.u (CI.u (CI.u hC_M (i := 5) (show kd 15 = 9 from rfl) (show (0 : Int) ≤ _ ∧ _ ≤ (1 : Int) from by omega) rfl) (i := 3) (show kd 15 = 9 from rfl) (show (-2147483648 : Int) ≤ _ ∧ _ ≤ (2147483647 : Int) from by omega) rfl) (i := 4) (show kd 15 = 9 from rfl) (show (-2147483648 : Int) ≤ _ ∧ _ ≤ (2147483647 : Int) from by omega) rfl) (by omega) (fun r5 z5 w5_0 w5_1 => ?_)) (Nat.le_of_ble_eq_true rfl))
        refine jr.if_ne rfl rfl (by first | (refine rgb (by assumption) ?_; exact rfl) | omega) (fun h63 => ?_) (fun h63 => ?_)
        · have sx63 : (1 : Int) ≤ r5 := by omega
          clear h63
          refine jr.aload_n rfl rfl ?_
          refine jr.aload_n rfl rfl ?_
          refine jr.aload_n rfl rfl ?_
          refine jr_v rfl rfl (Or.inl rfl) rfl rfl (nlt rfl) rfl ⟨rfl, Nat.le_of_ble_eq_true rfl, Nat.le_of_ble_eq_true rfl⟩ rfl (jc.deep (c_Flows_isQuoting_x (CI.u (CI.u (CI.u hC_M (i := 5) (show kd 15 = 9 from rfl) (show (0 : Int) ≤ _ ∧ _ ≤ (1 : Int) from by omega) rfl) (i := 3) (show kd 15 = 9 from rfl) (show (-2147483648 : Int) ≤ _ ∧ _ ≤ (2147483647 : Int) from by omega) rfl) (i := 4) (show kd 15 = 9 from rfl) (show (-2147483648 : Int) ≤ _ ∧ _ ≤ (2147483647 : Int) from by omega) rfl)  ((ju_c _ _ (by decide)).trans ((ju_c _ _ (by decide)).trans ((ju_c _ _ (by decide)).trans g_C))) (ju_same _ _ _ _) (HS.fr p1 (show kd 3 = 18 from rfl) hC_M (FR.o (FR.o (FR.o (FR.rfl [(9, 3), (9, 4), (9, 5)] M) (show kd 15 = 9 from rfl) rfl) (show kd 15 = 9 from rfl) rfl) (show kd 15 = 9 from rfl) rfl) rfl) (by omega) (fun r6 z6 w6_0 => ?_)) (Nat.le_of_ble_eq_true rfl))
          refine jr.putf (i := 5) (x := r6) rfl rfl (nlt rfl) rfl (nlt rfl) rfl rfl rfl (j_zr (by omega)) (j_fz (by omega)) ?_
          refine jr.aload_n rfl rfl ?_
          refine jr.getf (i := 5) (x := r6) (v := .int (Int32.ofInt (r6))) rfl rfl (nlt rfl) rfl (nlt rfl) rfl rfl (ju_same _ _ _ _) rfl ?_
          refine jr.if_eq rfl rfl (by first | (refine rgb (by assumption) ?_; exact rfl) | omega) (fun h81 => ?_) (fun h81 => ?_)
          · refine jr.aload_n rfl rfl ?_
            refine jr.getf (i := 2) (v := .ref 18) rfl rfl (nlt rfl) rfl (nlt rfl) rfl rfl rfl rfl ?_
            refine jr.aload_n rfl rfl ?_
            refine jr.aload_n rfl rfl ?_
            refine jr.getf (i := 3) (x := r1) (v := .int (Int32.ofInt (r1))) rfl rfl (nlt rfl) rfl (nlt rfl) rfl rfl ((ju_i _ _ (zne (by decide))).trans ((ju_i _ _ (zne (by decide))).trans (ju_same _ _ _ _))) rfl ?_
            refine jr.aload_n rfl rfl ?_
            refine jr.getf (i := 4) (x := r3) (v := .int (Int32.ofInt (r3))) rfl rfl (nlt rfl) rfl (nlt rfl) rfl rfl ((ju_i _ _ (zne (by decide))).trans (ju_same _ _ _ _)) rfl ?_
            refine jr_v rfl rfl (Or.inl rfl) rfl rfl (nlt rfl) rfl ⟨rfl, Nat.le_of_ble_eq_true rfl, Nat.le_of_ble_eq_true rfl⟩ rfl (jc.deep (c_Flow_describe_x (CI.u (CI.u (CI.u (CI.u hC_M (i := 5) (show kd 15 = 9 from rfl) (show (0 : Int) ≤ _ ∧ _ ≤ (1 : Int) from by omega) rfl) (i := 3) (show kd 15 = 9 from rfl) (show (-2147483648 : Int) ≤ _ ∧ _ ≤ (2147483647 : Int) from by omega) rfl) (i := 4) (show kd 15 = 9 from rfl) (show (-2147483648 : Int) ≤ _ ∧ _ ≤ (2147483647 : Int) from by omega) rfl) (i := 5) (show kd 15 = 9 from rfl) (show (0 : Int) ≤ _ ∧ _ ≤ (1 : Int) from by omega) rfl) (FR.rfl _ ((ju (ju (ju (ju M 15 5 0) 15 3 r1) 15 4 r3) 15 5 r6))) (by omega) (by omega) ((ju_c _ _ (by decide)).trans ((ju_c _ _ (by decide)).trans ((ju_c _ _ (by decide)).trans ((ju_c _ _ (by decide)).trans g_C)))) rfl (HS.fr p1 (show kd 3 = 18 from rfl) hC_M (FR.o (FR.o (FR.o (FR.o (FR.rfl [(9, 3), (9, 4), (9, 5)] M) (show kd 15 = 9 from rfl) rfl) (show kd 15 = 9 from rfl) rfl) (show kd 15 = 9 from rfl) rfl) (show kd 15 = 9 from rfl) rfl) rfl) (by rw [← w4_0]; omega) (fun M7 hC_M7 hf_M7 w7_0 => ?_)) (Nat.le_of_ble_eq_true rfl))
            have ht_M7 : FR W_c_Flows_findEnds_x T M7 := FR.t (FR.o (FR.o (FR.o (FR.o ht_M (show kd 15 = 9 from rfl) rfl) (show kd 15 = 9 from rfl) rfl) (show kd 15 = 9 from rfl) rfl) (show kd 15 = 9 from rfl) rfl) hf_M7 (kw_sub rfl)
            refine jr.iconst rfl ?_
            have e8 : M7 15 5 = r6 := (hf_M7.g (show kd 15 = 9 from rfl) rfl).trans (ju_same _ _ _ _)
            have e9 : M7 15 3 = r1 := (hf_M7.g (show kd 15 = 9 from rfl) rfl).trans ((ju_i _ _ (zne (by decide))).trans ((ju_i _ _ (zne (by decide))).trans (ju_same _ _ _ _)))
            have e10 : M7 15 4 = r3 := (hf_M7.g (show kd 15 = 9 from rfl) rfl).trans ((ju_i _ _ (zne (by decide))).trans (ju_same _ _ _ _))
            exact jr.ireturn rfl rfl rfl (q _ _ hC_M7 ht_M7 (by omega) (by have hn : ntf f N C = r1 := w1_0.symm; have hi : inf f N C r1 = r3 := w3_0.symm; have hk : kA f N C r3 = r4 := w4_0.symm; have hp := w2_0; unfold FND; rw [hn, hi]; exact Or.inr ⟨(by unfold heF; rw [hn, hi, hk]; omega), rfl, ⟨fun b k b0 b1 b2 b3 => by rw [w7_0.2.2 b k b1 b2 b3, ju_c _ _ b0, ju_c _ _ b0, ju_c _ _ b0, ju_c _ _ b0, p0], fun k k3 k4 k5 => by rw [w7_0.2.2 15 k (by decide) (by decide) (by decide), ju_i _ _ k5, ju_i _ _ k4, ju_i _ _ k3, ju_i _ _ k5, p0]⟩, ⟨e9, e10⟩, Or.inr ⟨(w6_0.resolve_left (fun h => by omega)).2, (e8.trans (by omega)), ⟨w7_0.1, fun s s0 s1 => w7_0.2.1 s s0 s1⟩⟩⟩))
          · have sx81 : (1 : Int) ≤ r6 := by omega
            clear h81
            refine jr.aload_n rfl rfl ?_
            refine jr.getf (i := 2) (v := .ref 18) rfl rfl (nlt rfl) rfl (nlt rfl) rfl rfl rfl rfl ?_
            refine jr.aload_n rfl rfl ?_
            refine jr.aload_n rfl rfl ?_
            refine jr.getf (i := 4) (x := r3) (v := .int (Int32.ofInt (r3))) rfl rfl (nlt rfl) rfl (nlt rfl) rfl rfl ((ju_i _ _ (zne (by decide))).trans (ju_same _ _ _ _)) rfl ?_
            refine jr.iconst rfl ?_
            refine jr.iadd rfl ?_
            refine jr.aload_n rfl rfl ?_
            refine jr.getf (i := 4) (x := r3) (v := .int (Int32.ofInt (r3))) rfl rfl (nlt rfl) rfl (nlt rfl) rfl rfl ((ju_i _ _ (zne (by decide))).trans (ju_same _ _ _ _)) rfl ?_
            refine jr.iconst rfl ?_
            refine jr.iadd rfl ?_
            obtain ⟨hq1, hq2, hq3, hq4⟩ := (w6_0.resolve_right (fun h => by omega)).2
            have hz1 := kA_in (f := f) (N := N) (C := C) (x := r3 + 1) (by omega)
            have hz2 := kA_in (f := f) (N := N) (C := C) (x := r3 + 2) (by omega)
            refine jr_v rfl rfl (Or.inl rfl) rfl rfl (nlt rfl) rfl ⟨rfl, Nat.le_of_ble_eq_true rfl, Nat.le_of_ble_eq_true rfl⟩ rfl (jc.deep (c_Flow_describe_x (CI.u (CI.u (CI.u (CI.u hC_M (i := 5) (show kd 15 = 9 from rfl) (show (0 : Int) ≤ _ ∧ _ ≤ (1 : Int) from by omega) rfl) (i := 3) (show kd 15 = 9 from rfl) (show (-2147483648 : Int) ≤ _ ∧ _ ≤ (2147483647 : Int) from by omega) rfl) (i := 4) (show kd 15 = 9 from rfl) (show (-2147483648 : Int) ≤ _ ∧ _ ≤ (2147483647 : Int) from by omega) rfl) (i := 5) (show kd 15 = 9 from rfl) (show (0 : Int) ≤ _ ∧ _ ≤ (1 : Int) from by omega) rfl) (FR.rfl _ ((ju (ju (ju (ju M 15 5 0) 15 3 r1) 15 4 r3) 15 5 r6))) (by omega) (by omega) ((ju_c _ _ (by decide)).trans ((ju_c _ _ (by decide)).trans ((ju_c _ _ (by decide)).trans ((ju_c _ _ (by decide)).trans g_C)))) rfl (HS.fr p1 (show kd 3 = 18 from rfl) hC_M (FR.o (FR.o (FR.o (FR.o (FR.rfl [(9, 3), (9, 4), (9, 5)] M) (show kd 15 = 9 from rfl) rfl) (show kd 15 = 9 from rfl) rfl) (show kd 15 = 9 from rfl) rfl) (show kd 15 = 9 from rfl) rfl) rfl) hq4 (fun M11 hC_M11 hf_M11 w11_0 => ?_)) (Nat.le_of_ble_eq_true rfl))
            have ht_M11 : FR W_c_Flows_findEnds_x T M11 := FR.t (FR.o (FR.o (FR.o (FR.o ht_M (show kd 15 = 9 from rfl) rfl) (show kd 15 = 9 from rfl) rfl) (show kd 15 = 9 from rfl) rfl) (show kd 15 = 9 from rfl) rfl) hf_M11 (kw_sub rfl)
            refine jr.goto rfl rfl ?_
            refine jr.iconst rfl ?_
            have e12 : M11 15 5 = r6 := (hf_M11.g (show kd 15 = 9 from rfl) rfl).trans (ju_same _ _ _ _)
            have e13 : M11 15 3 = r1 := (hf_M11.g (show kd 15 = 9 from rfl) rfl).trans ((ju_i _ _ (zne (by decide))).trans ((ju_i _ _ (zne (by decide))).trans (ju_same _ _ _ _)))
            have e14 : M11 15 4 = r3 := (hf_M11.g (show kd 15 = 9 from rfl) rfl).trans ((ju_i _ _ (zne (by decide))).trans (ju_same _ _ _ _))
            exact jr.ireturn rfl rfl rfl (q _ _ hC_M11 ht_M11 (by omega) (by have hn : ntf f N C = r1 := w1_0.symm; have hi : inf f N C r1 = r3 := w3_0.symm; have hk : kA f N C r3 = r4 := w4_0.symm; have hp := w2_0; unfold FND; rw [hn, hi]; exact Or.inr ⟨(by unfold heF; rw [hn, hi, hk]; omega), rfl, ⟨fun b k b0 b1 b2 b3 => by rw [w11_0.2.2 b k b1 b2 b3, ju_c _ _ b0, ju_c _ _ b0, ju_c _ _ b0, ju_c _ _ b0, p0], fun k k3 k4 k5 => by rw [w11_0.2.2 15 k (by decide) (by decide) (by decide), ju_i _ _ k5, ju_i _ _ k4, ju_i _ _ k3, ju_i _ _ k5, p0]⟩, ⟨e13, e14⟩, Or.inl ⟨(w6_0.resolve_right (fun h => by omega)).2, (e12.trans (by omega)), ⟨w11_0.1, fun s s0 s1 => w11_0.2.1 s s0 s1⟩⟩⟩))
        · refine jr.iconst rfl ?_
          exact jr.ireturn rfl rfl rfl (q _ _ (CI.u (CI.u (CI.u hC_M (i := 5) (show kd 15 = 9 from rfl) (show (0 : Int) ≤ _ ∧ _ ≤ (1 : Int) from by omega) rfl) (i := 3) (show kd 15 = 9 from rfl) (show (-2147483648 : Int) ≤ _ ∧ _ ≤ (2147483647 : Int) from by omega) rfl) (i := 4) (show kd 15 = 9 from rfl) (show (-2147483648 : Int) ≤ _ ∧ _ ≤ (2147483647 : Int) from by omega) rfl) (FR.o (FR.o (FR.o ht_M (show kd 15 = 9 from rfl) rfl) (show kd 15 = 9 from rfl) rfl) (show kd 15 = 9 from rfl) rfl) (by omega) (by have hn : ntf f N C = r1 := w1_0.symm; have hi : inf f N C r1 = r3 := w3_0.symm; have hk : kA f N C r3 = r4 := w4_0.symm; have hp := w2_0; exact Or.inl ⟨fun h => by unfold heF at h; rw [hn, hi, hk] at h; omega, rfl, ⟨fun b k b0 b1 b2 b3 => by rw [ju_c _ _ b0, ju_c _ _ b0, ju_c _ _ b0, p0], fun k k3 k4 k5 => by rw [ju_i _ _ k4, ju_i _ _ k3, ju_i _ _ k5, p0]⟩⟩))
      · have sx35 : (0 : Int) ≤ r2 := by omega
        clear h35
        refine jr.iconst rfl ?_
        exact jr.ireturn rfl rfl rfl (q _ _ (CI.u (CI.u hC_M (i := 5) (show kd 15 = 9 from rfl) (show (0 : Int) ≤ _ ∧ _ ≤ (1 : Int) from by omega) rfl) (i := 3) (show kd 15 = 9 from rfl) (show (-2147483648 : Int) ≤ _ ∧ _ ≤ (2147483647 : Int) from by omega) rfl) (FR.o (FR.o ht_M (show kd 15 = 9 from rfl) rfl) (show kd 15 = 9 from rfl) rfl) (by omega) (by have hn : ntf f N C = r1 := w1_0.symm; exact Or.inl ⟨fun h => by unfold heF at h; rw [hn] at h; first | omega | (have h9 := w2_0; omega), rfl, ⟨fun b k b0 b1 b2 b3 => by rw [ju_c _ _ b0, ju_c _ _ b0, p0], fun k k3 k4 k5 => by rw [ju_i _ _ k3, ju_i _ _ k5, p0]⟩⟩))
end
section
/-! ===== the reference: sides, the flow of ends ===== -/
noncomputable def sd6 (M : jm) (f : Int) : Int := if M 627 f = 0 ∨ M 628 f ≠ M 598 59 ∨ M 629 f ≠ M 598 60 then -1 else if (M 598 61 = M 630 (2 * f) ∧ M 598 63 = M 631 (2 * f)) ∧ (M 598 62 = M 630 (2 * f + 1) ∧ M 598 64 = M 631 (2 * f + 1)) then 0 else if ((M 640 f = -1 ∧ M 598 62 = M 630 (2 * f) ∧ M 598 64 = M 631 (2 * f)) ∨ (M 640 f ≠ -1 ∧ M 598 62 = M 641 f ∧ M 598 64 = M 642 f)) ∧ (M 598 61 = M 630 (2 * f + 1) ∧ M 598 63 = M 631 (2 * f + 1)) then 1 else -1
theorem sd6_n {M : jm} {f : Int} (h : M 627 f = 0 ∨ M 628 f ≠ M 598 59 ∨ M 629 f ≠ M 598 60) : sd6 M f = -1 := by
  unfold sd6
  rw [if_pos h]
theorem sd6_0 {M : jm} {f : Int} (h : ¬ (M 627 f = 0 ∨ M 628 f ≠ M 598 59 ∨ M 629 f ≠ M 598 60)) (h1 : (M 598 61 = M 630 (2 * f) ∧ M 598 63 = M 631 (2 * f)) ∧ (M 598 62 = M 630 (2 * f + 1) ∧ M 598 64 = M 631 (2 * f + 1))) : sd6 M f = 0 := by
  unfold sd6
  rw [if_neg h, if_pos h1]
theorem sd6_1 {M : jm} {f : Int} (h : ¬ (M 627 f = 0 ∨ M 628 f ≠ M 598 59 ∨ M 629 f ≠ M 598 60)) (h1 : ¬ ((M 598 61 = M 630 (2 * f) ∧ M 598 63 = M 631 (2 * f)) ∧ (M 598 62 = M 630 (2 * f + 1) ∧ M 598 64 = M 631 (2 * f + 1)))) (h2 : (M 640 f = -1 ∧ M 598 62 = M 630 (2 * f) ∧ M 598 64 = M 631 (2 * f)) ∨ (M 640 f ≠ -1 ∧ M 598 62 = M 641 f ∧ M 598 64 = M 642 f)) (h3 : M 598 61 = M 630 (2 * f + 1) ∧ M 598 63 = M 631 (2 * f + 1)) : sd6 M f = 1 := by
  unfold sd6
  rw [if_neg h, if_neg h1, if_pos ⟨h2, h3⟩]
theorem sd6_m {M : jm} {f : Int} (h : ¬ (M 627 f = 0 ∨ M 628 f ≠ M 598 59 ∨ M 629 f ≠ M 598 60)) (h1 : ¬ ((M 598 61 = M 630 (2 * f) ∧ M 598 63 = M 631 (2 * f)) ∧ (M 598 62 = M 630 (2 * f + 1) ∧ M 598 64 = M 631 (2 * f + 1)))) (h2 : ¬ (((M 640 f = -1 ∧ M 598 62 = M 630 (2 * f) ∧ M 598 64 = M 631 (2 * f)) ∨ (M 640 f ≠ -1 ∧ M 598 62 = M 641 f ∧ M 598 64 = M 642 f)) ∧ (M 598 61 = M 630 (2 * f + 1) ∧ M 598 63 = M 631 (2 * f + 1)))) : sd6 M f = -1 := by
  unfold sd6
  rw [if_neg h, if_neg h1, if_neg h2]
theorem sd6_e {M M0 : jm} (h : ∀ (b : Nat) (i : Int), b ≠ 598 → M b i = M0 b i) (h2 : ∀ i : Int, i ≠ 66 → M 598 i = M0 598 i) (f : Int) : sd6 M f = sd6 M0 f := by
  unfold sd6
  rw [h 627 _ (by decide), h 628 _ (by decide), h 629 _ (by decide), h 630 _ (by decide), h 630 _ (by decide), h 631 _ (by decide), h 631 _ (by decide), h 640 _ (by decide), h 641 _ (by decide), h 642 _ (by decide), h2 59 (by decide), h2 60 (by decide), h2 61 (by decide), h2 62 (by decide), h2 63 (by decide), h2 64 (by decide)]
noncomputable def fe6 (M : jm) : Nat → Int → Int
  | 0, _ => -1
  | n + 1, i => if sd6 M i ≠ -1 then i else fe6 M n (i + 1)
theorem fe6_s {M : jm} {i : Int} (h : i < 24) : fe6 M (24 - i).toNat i = if sd6 M i ≠ -1 then i else fe6 M (24 - (i + 1)).toNat (i + 1) := by
  obtain ⟨n, hn⟩ : ∃ n : Nat, i = 23 - n := ⟨(23 - i).toNat, by omega⟩
  subst hn
  rw [show (24 - (23 - (n : Int))).toNat = n + 1 by omega, show (24 - (23 - (n : Int) + 1)).toNat = n by omega]
  rfl
theorem r_sideOf_x {A : Nat → Option (Nat × (Nat → Int32))} {Q : Option Value → jm → Prop} {M : jm} (hI_M : RI M) (hH_M : RH M) (hS_M : RF M) {f : Int} (h_f : 0 ≤ f ∧ f ≤ 23) (q : ∀ (r : Int), (-1) ≤ r ∧ r ≤ 1 → (r = -1 ∨ M 629 f = M 598 60) → r = sd6 M f → Q (some (.int (Int32.ofInt r))) M) : jc A 1 303 [.ref (598), .int (Int32.ofInt (f))] M Q := by
  refine jc_of (m := xm_303) rfl (Nat.le_of_ble_eq_true rfl) rfl ?_
  refine jr.aload_n rfl rfl ?_
  refine jr.getf (i := 39) (v := .ref 627) rfl rfl (nlt rfl) rfl (nlt rfl) rfl rfl rfl rfl ?_
  refine jr.iload_n rfl rfl ?_
  obtain ⟨v1, e1⟩ : ∃ z, M 627 f = z := ⟨_, rfl⟩
  have b1 : 0 ≤ v1 ∧ v1 ≤ 1 := by rw [← e1]; exact (by have q := hI_M 627 f (Nat.le_of_ble_eq_true rfl); rw [xri_row rfl rfl] at q; exact q)
  refine jr.zald (i := f) (x := v1) rfl (nlt rfl) rfl (Nat.le_of_ble_eq_true rfl) (by omega) (by omega) e1 ?_
  refine jr.if_eq rfl rfl (by first | (refine rgb (by assumption) ?_; exact rfl) | omega) (fun h6 => ?_) (fun h6 => ?_)
  · refine jr.iconst rfl ?_
    exact jr.ireturn rfl rfl rfl (q _ (by first | exact rgq rfl | omega) (by omega) (by rw [sd6_n (by omega)]))
  · refine jr.aload_n rfl rfl ?_
    refine jr.getf (i := 40) (v := .ref 628) rfl rfl (nlt rfl) rfl (nlt rfl) rfl rfl rfl rfl ?_
    refine jr.iload_n rfl rfl ?_
    obtain ⟨v2, e2⟩ : ∃ z, M 628 f = z := ⟨_, rfl⟩
    have b2 : 0 ≤ v2 ∧ v2 ≤ 1 := by rw [← e2]; exact (by have q := hI_M 628 f (Nat.le_of_ble_eq_true rfl); rw [xri_row rfl rfl] at q; exact q)
    refine jr.zald (i := f) (x := v2) rfl (nlt rfl) rfl (Nat.le_of_ble_eq_true rfl) (by omega) (by omega) e2 ?_
    refine jr.aload_n rfl rfl ?_
    obtain ⟨v3, e3⟩ : ∃ z, M 598 59 = z := ⟨_, rfl⟩
    have b3 : 0 ≤ v3 ∧ v3 ≤ 1 := by rw [← e3]; exact hI_M 598 59 (Nat.le_of_ble_eq_true rfl)
    refine jr.getf (i := 59) (x := v3) (v := .int (Int32.ofInt (v3))) rfl rfl (nlt rfl) rfl (nlt rfl) rfl rfl e3 rfl ?_
    refine jr.icmp_ne rfl rfl (by first | (refine rgb (by assumption) ?_; exact rfl) | omega) (by first | (refine rgb (by assumption) ?_; exact rfl) | omega) (fun h19 => ?_) (fun h19 => ?_)
    · refine jr.iconst rfl ?_
      exact jr.ireturn rfl rfl rfl (q _ (by first | exact rgq rfl | omega) (by omega) (by rw [sd6_n (by omega)]))
    · refine jr.aload_n rfl rfl ?_
      refine jr.getf (i := 41) (v := .ref 629) rfl rfl (nlt rfl) rfl (nlt rfl) rfl rfl rfl rfl ?_
      refine jr.iload_n rfl rfl ?_
      obtain ⟨v4, e4⟩ : ∃ z, M 629 f = z := ⟨_, rfl⟩
      have b4 : 0 ≤ v4 ∧ v4 ≤ 255 := by rw [← e4]; exact (by have q := hI_M 629 f (Nat.le_of_ble_eq_true rfl); rw [xri_row rfl rfl] at q; exact q)
      refine jr.iald (i := f) (x := v4) rfl (nlt rfl) rfl (Nat.le_of_ble_eq_true rfl) (by omega) (by omega) e4 ?_
      refine jr.aload_n rfl rfl ?_
      obtain ⟨v5, e5⟩ : ∃ z, M 598 60 = z := ⟨_, rfl⟩
      have b5 : 0 ≤ v5 ∧ v5 ≤ 255 := by rw [← e5]; exact hI_M 598 60 (Nat.le_of_ble_eq_true rfl)
      refine jr.getf (i := 60) (x := v5) (v := .int (Int32.ofInt (v5))) rfl rfl (nlt rfl) rfl (nlt rfl) rfl rfl e5 rfl ?_
      refine jr.icmp_eq rfl rfl (by first | (refine rgb (by assumption) ?_; exact rfl) | omega) (by first | (refine rgb (by assumption) ?_; exact rfl) | omega) (fun h32 => ?_) (fun h32 => ?_)
      · refine jr.iconst rfl ?_
        refine jr.iload_n rfl rfl ?_
        refine jr.imul rfl ?_
        refine jr.istore_n (ls' := [_, _, _]) rfl (nlt rfl) rfl ?_
        refine jr.iload_n rfl rfl ?_
        refine jr.iconst rfl ?_
        refine jr.iadd rfl ?_
        refine jr.istore_n (ls' := [_, _, _, _]) rfl (nlt rfl) rfl ?_
        refine jr.aload_n rfl rfl ?_
        obtain ⟨v6, e6⟩ : ∃ z, M 598 61 = z := ⟨_, rfl⟩
        have b6 : (-9223372036854775808) ≤ v6 ∧ v6 ≤ 9223372036854775807 := by rw [← e6]; exact hI_M 598 61 (Nat.le_of_ble_eq_true rfl)
        refine jr.getf (i := 61) (x := v6) (v := .long (Int64.ofInt (v6))) rfl rfl (nlt rfl) rfl (nlt rfl) rfl rfl e6 rfl ?_
        refine jr.aload_n rfl rfl ?_
        refine jr.getf (i := 42) (v := .ref 630) rfl rfl (nlt rfl) rfl (nlt rfl) rfl rfl rfl rfl ?_
        refine jr.iload_n rfl rfl ?_
        obtain ⟨v7, e7⟩ : ∃ z, M 630 (2 * f) = z := ⟨_, rfl⟩
        have b7 : (-9223372036854775808) ≤ v7 ∧ v7 ≤ 9223372036854775807 := by rw [← e7]; exact (by have q := hI_M 630 (2 * f) (Nat.le_of_ble_eq_true rfl); rw [xri_row rfl rfl] at q; exact q)
        refine jr.lald (i := (2 * f)) (x := v7) rfl (nlt rfl) rfl (Nat.le_of_ble_eq_true rfl) (by omega) (by omega) e7 ?_
        refine jr.lcmp_ne rfl rfl rfl (by omega) (by omega) (fun h55 => ?_) (fun h55 => ?_)
        · refine jr.aload_n rfl rfl ?_
          refine jr.getf (i := 52) (v := .ref 640) rfl rfl (nlt rfl) rfl (nlt rfl) rfl rfl rfl rfl ?_
          refine jr.iload_n rfl rfl ?_
          obtain ⟨v8, e8⟩ : ∃ z, M 640 f = z := ⟨_, rfl⟩
          have b8 : (-1) ≤ v8 ∧ v8 ≤ 3 := by rw [← e8]; exact (by have q := hI_M 640 f (Nat.le_of_ble_eq_true rfl); rw [xri_row rfl rfl] at q; exact q)
          refine jr.iald (i := f) (x := v8) rfl (nlt rfl) rfl (Nat.le_of_ble_eq_true rfl) (by omega) (by omega) e8 ?_
          refine jr.iconst rfl ?_
          refine jr.icmp_ne rfl rfl (by first | (refine rgb (by assumption) ?_; exact rfl) | omega) (rgl rfl) (fun h108 => ?_) (fun h108 => ?_)
          · refine jr.aload_n rfl rfl ?_
            refine jr.getf (i := 53) (v := .ref 641) rfl rfl (nlt rfl) rfl (nlt rfl) rfl rfl rfl rfl ?_
            refine jr.iload_n rfl rfl ?_
            obtain ⟨v9, e9⟩ : ∃ z, M 641 f = z := ⟨_, rfl⟩
            have b9 : (-9223372036854775808) ≤ v9 ∧ v9 ≤ 9223372036854775807 := by rw [← e9]; exact (by have q := hI_M 641 f (Nat.le_of_ble_eq_true rfl); rw [xri_row rfl rfl] at q; exact q)
            refine jr.lald (i := f) (x := v9) rfl (nlt rfl) rfl (Nat.le_of_ble_eq_true rfl) (by omega) (by omega) e9 ?_
            refine jr.lstore (ls' := [_, _, _, _, _]) rfl (nlt rfl) rfl ?_
            refine jr.aload_n rfl rfl ?_
            refine jr.getf (i := 52) (v := .ref 640) rfl rfl (nlt rfl) rfl (nlt rfl) rfl rfl rfl rfl ?_
            refine jr.iload_n rfl rfl ?_
            refine jr.iald (i := f) (x := v8) rfl (nlt rfl) rfl (Nat.le_of_ble_eq_true rfl) (by omega) (by omega) e8 ?_
            refine jr.iconst rfl ?_
            refine jr.icmp_ne rfl rfl (by first | (refine rgb (by assumption) ?_; exact rfl) | omega) (rgl rfl) (fun h135 => ?_) (fun h135 => ?_)
            · refine jr.aload_n rfl rfl ?_
              refine jr.getf (i := 54) (v := .ref 642) rfl rfl (nlt rfl) rfl (nlt rfl) rfl rfl rfl rfl ?_
              refine jr.iload_n rfl rfl ?_
              obtain ⟨v10, e10⟩ : ∃ z, M 642 f = z := ⟨_, rfl⟩
              have b10 : 0 ≤ v10 ∧ v10 ≤ 70000 := by rw [← e10]; exact (by have q := hI_M 642 f (Nat.le_of_ble_eq_true rfl); rw [xri_row rfl rfl] at q; exact q)
              refine jr.iald (i := f) (x := v10) rfl (nlt rfl) rfl (Nat.le_of_ble_eq_true rfl) (by omega) (by omega) e10 ?_
              refine jr.istore (ls' := [_, _, _, _, _, _]) rfl (nlt rfl) rfl ?_
              refine jr.aload_n rfl rfl ?_
              refine jr.getf (i := 61) (x := v6) (v := .long (Int64.ofInt (v6))) rfl rfl (nlt rfl) rfl (nlt rfl) rfl rfl e6 rfl ?_
              refine jr.aload_n rfl rfl ?_
              refine jr.getf (i := 42) (v := .ref 630) rfl rfl (nlt rfl) rfl (nlt rfl) rfl rfl rfl rfl ?_
              refine jr.iload_n rfl rfl ?_
              obtain ⟨v11, e11⟩ : ∃ z, M 630 ((2 * f) + 1) = z := ⟨_, rfl⟩
              have b11 : (-9223372036854775808) ≤ v11 ∧ v11 ≤ 9223372036854775807 := by rw [← e11]; exact (by have q := hI_M 630 ((2 * f) + 1) (by decide); rw [xri_row rfl rfl] at q; exact q)
              refine jr.lald (i := ((2 * f) + 1)) (x := v11) rfl (nlt rfl) rfl (Nat.le_of_ble_eq_true rfl) (by omega) (by omega) e11 ?_
              refine jr.lcmp_ne rfl rfl rfl (by omega) (by omega) (fun h165 => ?_) (fun h165 => ?_)
              · refine jr.iconst rfl ?_
                exact jr.ireturn rfl rfl rfl (q _ (by first | exact rgq rfl | omega) (by omega) (by have x0 : M 630 (2 * f) = v7 := e7; have x1 : M 630 (2 * f + 1) = v11 := e11; rw [sd6_m (by omega) (by omega) (by omega)]))
              · refine jr.aload_n rfl rfl ?_
                obtain ⟨v12, e12⟩ : ∃ z, M 598 63 = z := ⟨_, rfl⟩
                have b12 : 0 ≤ v12 ∧ v12 ≤ 65535 := by rw [← e12]; exact hI_M 598 63 (Nat.le_of_ble_eq_true rfl)
                refine jr.getf (i := 63) (x := v12) (v := .int (Int32.ofInt (v12))) rfl rfl (nlt rfl) rfl (nlt rfl) rfl rfl e12 rfl ?_
                refine jr.aload_n rfl rfl ?_
                refine jr.getf (i := 43) (v := .ref 631) rfl rfl (nlt rfl) rfl (nlt rfl) rfl rfl rfl rfl ?_
                refine jr.iload_n rfl rfl ?_
                obtain ⟨v13, e13⟩ : ∃ z, M 631 ((2 * f) + 1) = z := ⟨_, rfl⟩
                have b13 : 0 ≤ v13 ∧ v13 ≤ 65535 := by rw [← e13]; exact (by have q := hI_M 631 ((2 * f) + 1) (by decide); rw [xri_row rfl rfl] at q; exact q)
                refine jr.iald (i := ((2 * f) + 1)) (x := v13) rfl (nlt rfl) rfl (Nat.le_of_ble_eq_true rfl) (by omega) (by omega) e13 ?_
                refine jr.icmp_ne rfl rfl (by first | (refine rgb (by assumption) ?_; exact rfl) | omega) (by first | (refine rgb (by assumption) ?_; exact rfl) | omega) (fun h179 => ?_) (fun h179 => ?_)
                · refine jr.iconst rfl ?_
                  exact jr.ireturn rfl rfl rfl (q _ (by first | exact rgq rfl | omega) (by omega) (by have x0 : M 630 (2 * f) = v7 := e7; have x1 : M 630 (2 * f + 1) = v11 := e11; have x2 : M 631 (2 * f + 1) = v13 := e13; rw [sd6_m (by omega) (by omega) (by omega)]))
                · refine jr.aload_n rfl rfl ?_
                  obtain ⟨v14, e14⟩ : ∃ z, M 598 62 = z := ⟨_, rfl⟩
                  have b14 : (-9223372036854775808) ≤ v14 ∧ v14 ≤ 9223372036854775807 := by rw [← e14]; exact hI_M 598 62 (Nat.le_of_ble_eq_true rfl)
                  refine jr.getf (i := 62) (x := v14) (v := .long (Int64.ofInt (v14))) rfl rfl (nlt rfl) rfl (nlt rfl) rfl rfl e14 rfl ?_
                  refine jr.lload rfl rfl ?_
                  refine jr.lcmp_ne rfl rfl rfl (by omega) (by omega) (fun h188 => ?_) (fun h188 => ?_)
                  · refine jr.iconst rfl ?_
                    exact jr.ireturn rfl rfl rfl (q _ (by first | exact rgq rfl | omega) (by omega) (by have x0 : M 630 (2 * f) = v7 := e7; have x1 : M 630 (2 * f + 1) = v11 := e11; have x2 : M 631 (2 * f + 1) = v13 := e13; rw [sd6_m (by omega) (by omega) (by omega)]))
                  · refine jr.aload_n rfl rfl ?_
                    obtain ⟨v15, e15⟩ : ∃ z, M 598 64 = z := ⟨_, rfl⟩
                    have b15 : 0 ≤ v15 ∧ v15 ≤ 65535 := by rw [← e15]; exact hI_M 598 64 (Nat.le_of_ble_eq_true rfl)
                    refine jr.getf (i := 64) (x := v15) (v := .int (Int32.ofInt (v15))) rfl rfl (nlt rfl) rfl (nlt rfl) rfl rfl e15 rfl ?_
                    refine jr.iload rfl rfl ?_
                    refine jr.icmp_ne rfl rfl (by first | (refine rgb (by assumption) ?_; exact rfl) | omega) (by first | (refine rgb (by assumption) ?_; exact rfl) | omega) (fun h198 => ?_) (fun h198 => ?_)
                    · refine jr.iconst rfl ?_
                      exact jr.ireturn rfl rfl rfl (q _ (by first | exact rgq rfl | omega) (by omega) (by have x0 : M 630 (2 * f) = v7 := e7; have x1 : M 630 (2 * f + 1) = v11 := e11; have x2 : M 631 (2 * f + 1) = v13 := e13; rw [sd6_m (by omega) (by omega) (by omega)]))
                    · refine jr.iconst rfl ?_
                      refine jr.goto rfl rfl ?_
                      exact jr.ireturn rfl rfl rfl (q _ (by first | exact rgq rfl | omega) (by omega) (by have x0 : M 630 (2 * f) = v7 := e7; have x1 : M 630 (2 * f + 1) = v11 := e11; have x2 : M 631 (2 * f + 1) = v13 := e13; rw [sd6_1 (by omega) (by omega) (by omega) (by omega)]))
            · exact absurd (by omega) h135
          · refine jr.aload_n rfl rfl ?_
            refine jr.getf (i := 42) (v := .ref 630) rfl rfl (nlt rfl) rfl (nlt rfl) rfl rfl rfl rfl ?_
            refine jr.iload_n rfl rfl ?_
            refine jr.lald (i := (2 * f)) (x := v7) rfl (nlt rfl) rfl (Nat.le_of_ble_eq_true rfl) (by omega) (by omega) e7 ?_
            refine jr.goto rfl rfl ?_
            refine jr.lstore (ls' := [_, _, _, _, _]) rfl (nlt rfl) rfl ?_
            refine jr.aload_n rfl rfl ?_
            refine jr.getf (i := 52) (v := .ref 640) rfl rfl (nlt rfl) rfl (nlt rfl) rfl rfl rfl rfl ?_
            refine jr.iload_n rfl rfl ?_
            refine jr.iald (i := f) (x := v8) rfl (nlt rfl) rfl (Nat.le_of_ble_eq_true rfl) (by omega) (by omega) e8 ?_
            refine jr.iconst rfl ?_
            refine jr.icmp_ne rfl rfl (by first | (refine rgb (by assumption) ?_; exact rfl) | omega) (rgl rfl) (fun h135 => ?_) (fun h135 => ?_)
            · exact absurd h135 (by omega)
            · refine jr.aload_n rfl rfl ?_
              refine jr.getf (i := 43) (v := .ref 631) rfl rfl (nlt rfl) rfl (nlt rfl) rfl rfl rfl rfl ?_
              refine jr.iload_n rfl rfl ?_
              obtain ⟨v16, e16⟩ : ∃ z, M 631 (2 * f) = z := ⟨_, rfl⟩
              have b16 : 0 ≤ v16 ∧ v16 ≤ 65535 := by rw [← e16]; exact (by have q := hI_M 631 (2 * f) (Nat.le_of_ble_eq_true rfl); rw [xri_row rfl rfl] at q; exact q)
              refine jr.iald (i := (2 * f)) (x := v16) rfl (nlt rfl) rfl (Nat.le_of_ble_eq_true rfl) (by omega) (by omega) e16 ?_
              refine jr.goto rfl rfl ?_
              refine jr.istore (ls' := [_, _, _, _, _, _]) rfl (nlt rfl) rfl ?_
              refine jr.aload_n rfl rfl ?_
              refine jr.getf (i := 61) (x := v6) (v := .long (Int64.ofInt (v6))) rfl rfl (nlt rfl) rfl (nlt rfl) rfl rfl e6 rfl ?_
              refine jr.aload_n rfl rfl ?_
              refine jr.getf (i := 42) (v := .ref 630) rfl rfl (nlt rfl) rfl (nlt rfl) rfl rfl rfl rfl ?_
              refine jr.iload_n rfl rfl ?_
              obtain ⟨v17, e17⟩ : ∃ z, M 630 ((2 * f) + 1) = z := ⟨_, rfl⟩
              have b17 : (-9223372036854775808) ≤ v17 ∧ v17 ≤ 9223372036854775807 := by rw [← e17]; exact (by have q := hI_M 630 ((2 * f) + 1) (by decide); rw [xri_row rfl rfl] at q; exact q)
              refine jr.lald (i := ((2 * f) + 1)) (x := v17) rfl (nlt rfl) rfl (Nat.le_of_ble_eq_true rfl) (by omega) (by omega) e17 ?_
              refine jr.lcmp_ne rfl rfl rfl (by omega) (by omega) (fun h165 => ?_) (fun h165 => ?_)
              · refine jr.iconst rfl ?_
                exact jr.ireturn rfl rfl rfl (q _ (by first | exact rgq rfl | omega) (by omega) (by have x0 : M 630 (2 * f) = v7 := e7; have x1 : M 631 (2 * f) = v16 := e16; have x2 : M 630 (2 * f + 1) = v17 := e17; rw [sd6_m (by omega) (by omega) (by omega)]))
              · refine jr.aload_n rfl rfl ?_
                obtain ⟨v18, e18⟩ : ∃ z, M 598 63 = z := ⟨_, rfl⟩
                have b18 : 0 ≤ v18 ∧ v18 ≤ 65535 := by rw [← e18]; exact hI_M 598 63 (Nat.le_of_ble_eq_true rfl)
                refine jr.getf (i := 63) (x := v18) (v := .int (Int32.ofInt (v18))) rfl rfl (nlt rfl) rfl (nlt rfl) rfl rfl e18 rfl ?_
                refine jr.aload_n rfl rfl ?_
                refine jr.getf (i := 43) (v := .ref 631) rfl rfl (nlt rfl) rfl (nlt rfl) rfl rfl rfl rfl ?_
                refine jr.iload_n rfl rfl ?_
                obtain ⟨v19, e19⟩ : ∃ z, M 631 ((2 * f) + 1) = z := ⟨_, rfl⟩
                have b19 : 0 ≤ v19 ∧ v19 ≤ 65535 := by rw [← e19]; exact (by have q := hI_M 631 ((2 * f) + 1) (by decide); rw [xri_row rfl rfl] at q; exact q)
                refine jr.iald (i := ((2 * f) + 1)) (x := v19) rfl (nlt rfl) rfl (Nat.le_of_ble_eq_true rfl) (by omega) (by omega) e19 ?_
                refine jr.icmp_ne rfl rfl (by first | (refine rgb (by assumption) ?_; exact rfl) | omega) (by first | (refine rgb (by assumption) ?_; exact rfl) | omega) (fun h179 => ?_) (fun h179 => ?_)
                · refine jr.iconst rfl ?_
                  exact jr.ireturn rfl rfl rfl (q _ (by first | exact rgq rfl | omega) (by omega) (by have x0 : M 630 (2 * f) = v7 := e7; have x1 : M 631 (2 * f) = v16 := e16; have x2 : M 630 (2 * f + 1) = v17 := e17; have x3 : M 631 (2 * f + 1) = v19 := e19; rw [sd6_m (by omega) (by omega) (by omega)]))
                · refine jr.aload_n rfl rfl ?_
                  obtain ⟨v20, e20⟩ : ∃ z, M 598 62 = z := ⟨_, rfl⟩
                  have b20 : (-9223372036854775808) ≤ v20 ∧ v20 ≤ 9223372036854775807 := by rw [← e20]; exact hI_M 598 62 (Nat.le_of_ble_eq_true rfl)
                  refine jr.getf (i := 62) (x := v20) (v := .long (Int64.ofInt (v20))) rfl rfl (nlt rfl) rfl (nlt rfl) rfl rfl e20 rfl ?_
                  refine jr.lload rfl rfl ?_
                  refine jr.lcmp_ne rfl rfl rfl (by omega) (by omega) (fun h188 => ?_) (fun h188 => ?_)
                  · refine jr.iconst rfl ?_
                    exact jr.ireturn rfl rfl rfl (q _ (by first | exact rgq rfl | omega) (by omega) (by have x0 : M 630 (2 * f) = v7 := e7; have x1 : M 631 (2 * f) = v16 := e16; have x2 : M 630 (2 * f + 1) = v17 := e17; have x3 : M 631 (2 * f + 1) = v19 := e19; rw [sd6_m (by omega) (by omega) (by omega)]))
                  · refine jr.aload_n rfl rfl ?_
                    obtain ⟨v21, e21⟩ : ∃ z, M 598 64 = z := ⟨_, rfl⟩
                    have b21 : 0 ≤ v21 ∧ v21 ≤ 65535 := by rw [← e21]; exact hI_M 598 64 (Nat.le_of_ble_eq_true rfl)
                    refine jr.getf (i := 64) (x := v21) (v := .int (Int32.ofInt (v21))) rfl rfl (nlt rfl) rfl (nlt rfl) rfl rfl e21 rfl ?_
                    refine jr.iload rfl rfl ?_
                    refine jr.icmp_ne rfl rfl (by first | (refine rgb (by assumption) ?_; exact rfl) | omega) (by first | (refine rgb (by assumption) ?_; exact rfl) | omega) (fun h198 => ?_) (fun h198 => ?_)
                    · refine jr.iconst rfl ?_
                      exact jr.ireturn rfl rfl rfl (q _ (by first | exact rgq rfl | omega) (by omega) (by have x0 : M 630 (2 * f) = v7 := e7; have x1 : M 631 (2 * f) = v16 := e16; have x2 : M 630 (2 * f + 1) = v17 := e17; have x3 : M 631 (2 * f + 1) = v19 := e19; rw [sd6_m (by omega) (by omega) (by omega)]))
                    · refine jr.iconst rfl ?_
                      refine jr.goto rfl rfl ?_
                      exact jr.ireturn rfl rfl rfl (q _ (by first | exact rgq rfl | omega) (by omega) (by have x0 : M 630 (2 * f) = v7 := e7; have x1 : M 631 (2 * f) = v16 := e16; have x2 : M 630 (2 * f + 1) = v17 := e17; have x3 : M 631 (2 * f + 1) = v19 := e19; rw [sd6_1 (by omega) (by omega) (by omega) (by omega)]))
        · refine jr.aload_n rfl rfl ?_
          obtain ⟨v22, e22⟩ : ∃ z, M 598 63 = z := ⟨_, rfl⟩
          have b22 : 0 ≤ v22 ∧ v22 ≤ 65535 := by rw [← e22]; exact hI_M 598 63 (Nat.le_of_ble_eq_true rfl)
          refine jr.getf (i := 63) (x := v22) (v := .int (Int32.ofInt (v22))) rfl rfl (nlt rfl) rfl (nlt rfl) rfl rfl e22 rfl ?_
          refine jr.aload_n rfl rfl ?_
          refine jr.getf (i := 43) (v := .ref 631) rfl rfl (nlt rfl) rfl (nlt rfl) rfl rfl rfl rfl ?_
          refine jr.iload_n rfl rfl ?_
          obtain ⟨v23, e23⟩ : ∃ z, M 631 (2 * f) = z := ⟨_, rfl⟩
          have b23 : 0 ≤ v23 ∧ v23 ≤ 65535 := by rw [← e23]; exact (by have q := hI_M 631 (2 * f) (Nat.le_of_ble_eq_true rfl); rw [xri_row rfl rfl] at q; exact q)
          refine jr.iald (i := (2 * f)) (x := v23) rfl (nlt rfl) rfl (Nat.le_of_ble_eq_true rfl) (by omega) (by omega) e23 ?_
          refine jr.icmp_ne rfl rfl (by first | (refine rgb (by assumption) ?_; exact rfl) | omega) (by first | (refine rgb (by assumption) ?_; exact rfl) | omega) (fun h69 => ?_) (fun h69 => ?_)
          · refine jr.aload_n rfl rfl ?_
            refine jr.getf (i := 52) (v := .ref 640) rfl rfl (nlt rfl) rfl (nlt rfl) rfl rfl rfl rfl ?_
            refine jr.iload_n rfl rfl ?_
            obtain ⟨v24, e24⟩ : ∃ z, M 640 f = z := ⟨_, rfl⟩
            have b24 : (-1) ≤ v24 ∧ v24 ≤ 3 := by rw [← e24]; exact (by have q := hI_M 640 f (Nat.le_of_ble_eq_true rfl); rw [xri_row rfl rfl] at q; exact q)
            refine jr.iald (i := f) (x := v24) rfl (nlt rfl) rfl (Nat.le_of_ble_eq_true rfl) (by omega) (by omega) e24 ?_
            refine jr.iconst rfl ?_
            refine jr.icmp_ne rfl rfl (by first | (refine rgb (by assumption) ?_; exact rfl) | omega) (rgl rfl) (fun h108 => ?_) (fun h108 => ?_)
            · refine jr.aload_n rfl rfl ?_
              refine jr.getf (i := 53) (v := .ref 641) rfl rfl (nlt rfl) rfl (nlt rfl) rfl rfl rfl rfl ?_
              refine jr.iload_n rfl rfl ?_
              obtain ⟨v25, e25⟩ : ∃ z, M 641 f = z := ⟨_, rfl⟩
              have b25 : (-9223372036854775808) ≤ v25 ∧ v25 ≤ 9223372036854775807 := by rw [← e25]; exact (by have q := hI_M 641 f (Nat.le_of_ble_eq_true rfl); rw [xri_row rfl rfl] at q; exact q)
              refine jr.lald (i := f) (x := v25) rfl (nlt rfl) rfl (Nat.le_of_ble_eq_true rfl) (by omega) (by omega) e25 ?_
              refine jr.lstore (ls' := [_, _, _, _, _]) rfl (nlt rfl) rfl ?_
              refine jr.aload_n rfl rfl ?_
              refine jr.getf (i := 52) (v := .ref 640) rfl rfl (nlt rfl) rfl (nlt rfl) rfl rfl rfl rfl ?_
              refine jr.iload_n rfl rfl ?_
              refine jr.iald (i := f) (x := v24) rfl (nlt rfl) rfl (Nat.le_of_ble_eq_true rfl) (by omega) (by omega) e24 ?_
              refine jr.iconst rfl ?_
              refine jr.icmp_ne rfl rfl (by first | (refine rgb (by assumption) ?_; exact rfl) | omega) (rgl rfl) (fun h135 => ?_) (fun h135 => ?_)
              · refine jr.aload_n rfl rfl ?_
                refine jr.getf (i := 54) (v := .ref 642) rfl rfl (nlt rfl) rfl (nlt rfl) rfl rfl rfl rfl ?_
                refine jr.iload_n rfl rfl ?_
                obtain ⟨v26, e26⟩ : ∃ z, M 642 f = z := ⟨_, rfl⟩
                have b26 : 0 ≤ v26 ∧ v26 ≤ 70000 := by rw [← e26]; exact (by have q := hI_M 642 f (Nat.le_of_ble_eq_true rfl); rw [xri_row rfl rfl] at q; exact q)
                refine jr.iald (i := f) (x := v26) rfl (nlt rfl) rfl (Nat.le_of_ble_eq_true rfl) (by omega) (by omega) e26 ?_
                refine jr.istore (ls' := [_, _, _, _, _, _]) rfl (nlt rfl) rfl ?_
                refine jr.aload_n rfl rfl ?_
                refine jr.getf (i := 61) (x := v6) (v := .long (Int64.ofInt (v6))) rfl rfl (nlt rfl) rfl (nlt rfl) rfl rfl e6 rfl ?_
                refine jr.aload_n rfl rfl ?_
                refine jr.getf (i := 42) (v := .ref 630) rfl rfl (nlt rfl) rfl (nlt rfl) rfl rfl rfl rfl ?_
                refine jr.iload_n rfl rfl ?_
                obtain ⟨v27, e27⟩ : ∃ z, M 630 ((2 * f) + 1) = z := ⟨_, rfl⟩
                have b27 : (-9223372036854775808) ≤ v27 ∧ v27 ≤ 9223372036854775807 := by rw [← e27]; exact (by have q := hI_M 630 ((2 * f) + 1) (by decide); rw [xri_row rfl rfl] at q; exact q)
                refine jr.lald (i := ((2 * f) + 1)) (x := v27) rfl (nlt rfl) rfl (Nat.le_of_ble_eq_true rfl) (by omega) (by omega) e27 ?_
                refine jr.lcmp_ne rfl rfl rfl (by omega) (by omega) (fun h165 => ?_) (fun h165 => ?_)
                · refine jr.iconst rfl ?_
                  exact jr.ireturn rfl rfl rfl (q _ (by first | exact rgq rfl | omega) (by omega) (by have x0 : M 630 (2 * f) = v7 := e7; have x1 : M 631 (2 * f) = v23 := e23; have x2 : M 630 (2 * f + 1) = v27 := e27; rw [sd6_m (by omega) (by omega) (by omega)]))
                · refine jr.aload_n rfl rfl ?_
                  refine jr.getf (i := 63) (x := v22) (v := .int (Int32.ofInt (v22))) rfl rfl (nlt rfl) rfl (nlt rfl) rfl rfl e22 rfl ?_
                  refine jr.aload_n rfl rfl ?_
                  refine jr.getf (i := 43) (v := .ref 631) rfl rfl (nlt rfl) rfl (nlt rfl) rfl rfl rfl rfl ?_
                  refine jr.iload_n rfl rfl ?_
                  obtain ⟨v28, e28⟩ : ∃ z, M 631 ((2 * f) + 1) = z := ⟨_, rfl⟩
                  have b28 : 0 ≤ v28 ∧ v28 ≤ 65535 := by rw [← e28]; exact (by have q := hI_M 631 ((2 * f) + 1) (by decide); rw [xri_row rfl rfl] at q; exact q)
                  refine jr.iald (i := ((2 * f) + 1)) (x := v28) rfl (nlt rfl) rfl (Nat.le_of_ble_eq_true rfl) (by omega) (by omega) e28 ?_
                  refine jr.icmp_ne rfl rfl (by first | (refine rgb (by assumption) ?_; exact rfl) | omega) (by first | (refine rgb (by assumption) ?_; exact rfl) | omega) (fun h179 => ?_) (fun h179 => ?_)
                  · refine jr.iconst rfl ?_
                    exact jr.ireturn rfl rfl rfl (q _ (by first | exact rgq rfl | omega) (by omega) (by have x0 : M 630 (2 * f) = v7 := e7; have x1 : M 631 (2 * f) = v23 := e23; have x2 : M 630 (2 * f + 1) = v27 := e27; have x3 : M 631 (2 * f + 1) = v28 := e28; rw [sd6_m (by omega) (by omega) (by omega)]))
                  · refine jr.aload_n rfl rfl ?_
                    obtain ⟨v29, e29⟩ : ∃ z, M 598 62 = z := ⟨_, rfl⟩
                    have b29 : (-9223372036854775808) ≤ v29 ∧ v29 ≤ 9223372036854775807 := by rw [← e29]; exact hI_M 598 62 (Nat.le_of_ble_eq_true rfl)
                    refine jr.getf (i := 62) (x := v29) (v := .long (Int64.ofInt (v29))) rfl rfl (nlt rfl) rfl (nlt rfl) rfl rfl e29 rfl ?_
                    refine jr.lload rfl rfl ?_
                    refine jr.lcmp_ne rfl rfl rfl (by omega) (by omega) (fun h188 => ?_) (fun h188 => ?_)
                    · refine jr.iconst rfl ?_
                      exact jr.ireturn rfl rfl rfl (q _ (by first | exact rgq rfl | omega) (by omega) (by have x0 : M 630 (2 * f) = v7 := e7; have x1 : M 631 (2 * f) = v23 := e23; have x2 : M 630 (2 * f + 1) = v27 := e27; have x3 : M 631 (2 * f + 1) = v28 := e28; rw [sd6_m (by omega) (by omega) (by omega)]))
                    · refine jr.aload_n rfl rfl ?_
                      obtain ⟨v30, e30⟩ : ∃ z, M 598 64 = z := ⟨_, rfl⟩
                      have b30 : 0 ≤ v30 ∧ v30 ≤ 65535 := by rw [← e30]; exact hI_M 598 64 (Nat.le_of_ble_eq_true rfl)
                      refine jr.getf (i := 64) (x := v30) (v := .int (Int32.ofInt (v30))) rfl rfl (nlt rfl) rfl (nlt rfl) rfl rfl e30 rfl ?_
                      refine jr.iload rfl rfl ?_
                      refine jr.icmp_ne rfl rfl (by first | (refine rgb (by assumption) ?_; exact rfl) | omega) (by first | (refine rgb (by assumption) ?_; exact rfl) | omega) (fun h198 => ?_) (fun h198 => ?_)
                      · refine jr.iconst rfl ?_
                        exact jr.ireturn rfl rfl rfl (q _ (by first | exact rgq rfl | omega) (by omega) (by have x0 : M 630 (2 * f) = v7 := e7; have x1 : M 631 (2 * f) = v23 := e23; have x2 : M 630 (2 * f + 1) = v27 := e27; have x3 : M 631 (2 * f + 1) = v28 := e28; rw [sd6_m (by omega) (by omega) (by omega)]))
                      · refine jr.iconst rfl ?_
                        refine jr.goto rfl rfl ?_
                        exact jr.ireturn rfl rfl rfl (q _ (by first | exact rgq rfl | omega) (by omega) (by have x0 : M 630 (2 * f) = v7 := e7; have x1 : M 631 (2 * f) = v23 := e23; have x2 : M 630 (2 * f + 1) = v27 := e27; have x3 : M 631 (2 * f + 1) = v28 := e28; rw [sd6_1 (by omega) (by omega) (by omega) (by omega)]))
              · exact absurd (by omega) h135
            · refine jr.aload_n rfl rfl ?_
              refine jr.getf (i := 42) (v := .ref 630) rfl rfl (nlt rfl) rfl (nlt rfl) rfl rfl rfl rfl ?_
              refine jr.iload_n rfl rfl ?_
              refine jr.lald (i := (2 * f)) (x := v7) rfl (nlt rfl) rfl (Nat.le_of_ble_eq_true rfl) (by omega) (by omega) e7 ?_
              refine jr.goto rfl rfl ?_
              refine jr.lstore (ls' := [_, _, _, _, _]) rfl (nlt rfl) rfl ?_
              refine jr.aload_n rfl rfl ?_
              refine jr.getf (i := 52) (v := .ref 640) rfl rfl (nlt rfl) rfl (nlt rfl) rfl rfl rfl rfl ?_
              refine jr.iload_n rfl rfl ?_
              refine jr.iald (i := f) (x := v24) rfl (nlt rfl) rfl (Nat.le_of_ble_eq_true rfl) (by omega) (by omega) e24 ?_
              refine jr.iconst rfl ?_
              refine jr.icmp_ne rfl rfl (by first | (refine rgb (by assumption) ?_; exact rfl) | omega) (rgl rfl) (fun h135 => ?_) (fun h135 => ?_)
              · exact absurd h135 (by omega)
              · refine jr.aload_n rfl rfl ?_
                refine jr.getf (i := 43) (v := .ref 631) rfl rfl (nlt rfl) rfl (nlt rfl) rfl rfl rfl rfl ?_
                refine jr.iload_n rfl rfl ?_
                refine jr.iald (i := (2 * f)) (x := v23) rfl (nlt rfl) rfl (Nat.le_of_ble_eq_true rfl) (by omega) (by omega) e23 ?_
                refine jr.goto rfl rfl ?_
                refine jr.istore (ls' := [_, _, _, _, _, _]) rfl (nlt rfl) rfl ?_
                refine jr.aload_n rfl rfl ?_
                refine jr.getf (i := 61) (x := v6) (v := .long (Int64.ofInt (v6))) rfl rfl (nlt rfl) rfl (nlt rfl) rfl rfl e6 rfl ?_
                refine jr.aload_n rfl rfl ?_
                refine jr.getf (i := 42) (v := .ref 630) rfl rfl (nlt rfl) rfl (nlt rfl) rfl rfl rfl rfl ?_
                refine jr.iload_n rfl rfl ?_
                obtain ⟨v31, e31⟩ : ∃ z, M 630 ((2 * f) + 1) = z := ⟨_, rfl⟩
                have b31 : (-9223372036854775808) ≤ v31 ∧ v31 ≤ 9223372036854775807 := by rw [← e31]; exact (by have q := hI_M 630 ((2 * f) + 1) (by decide); rw [xri_row rfl rfl] at q; exact q)
                refine jr.lald (i := ((2 * f) + 1)) (x := v31) rfl (nlt rfl) rfl (Nat.le_of_ble_eq_true rfl) (by omega) (by omega) e31 ?_
                refine jr.lcmp_ne rfl rfl rfl (by omega) (by omega) (fun h165 => ?_) (fun h165 => ?_)
                · refine jr.iconst rfl ?_
                  exact jr.ireturn rfl rfl rfl (q _ (by first | exact rgq rfl | omega) (by omega) (by have x0 : M 630 (2 * f) = v7 := e7; have x1 : M 631 (2 * f) = v23 := e23; have x2 : M 630 (2 * f + 1) = v31 := e31; rw [sd6_m (by omega) (by omega) (by omega)]))
                · refine jr.aload_n rfl rfl ?_
                  refine jr.getf (i := 63) (x := v22) (v := .int (Int32.ofInt (v22))) rfl rfl (nlt rfl) rfl (nlt rfl) rfl rfl e22 rfl ?_
                  refine jr.aload_n rfl rfl ?_
                  refine jr.getf (i := 43) (v := .ref 631) rfl rfl (nlt rfl) rfl (nlt rfl) rfl rfl rfl rfl ?_
                  refine jr.iload_n rfl rfl ?_
                  obtain ⟨v32, e32⟩ : ∃ z, M 631 ((2 * f) + 1) = z := ⟨_, rfl⟩
                  have b32 : 0 ≤ v32 ∧ v32 ≤ 65535 := by rw [← e32]; exact (by have q := hI_M 631 ((2 * f) + 1) (by decide); rw [xri_row rfl rfl] at q; exact q)
                  refine jr.iald (i := ((2 * f) + 1)) (x := v32) rfl (nlt rfl) rfl (Nat.le_of_ble_eq_true rfl) (by omega) (by omega) e32 ?_
                  refine jr.icmp_ne rfl rfl (by first | (refine rgb (by assumption) ?_; exact rfl) | omega) (by first | (refine rgb (by assumption) ?_; exact rfl) | omega) (fun h179 => ?_) (fun h179 => ?_)
                  · refine jr.iconst rfl ?_
                    exact jr.ireturn rfl rfl rfl (q _ (by first | exact rgq rfl | omega) (by omega) (by have x0 : M 630 (2 * f) = v7 := e7; have x1 : M 631 (2 * f) = v23 := e23; have x2 : M 630 (2 * f + 1) = v31 := e31; have x3 : M 631 (2 * f + 1) = v32 := e32; rw [sd6_m (by omega) (by omega) (by omega)]))
                  · refine jr.aload_n rfl rfl ?_
                    obtain ⟨v33, e33⟩ : ∃ z, M 598 62 = z := ⟨_, rfl⟩
                    have b33 : (-9223372036854775808) ≤ v33 ∧ v33 ≤ 9223372036854775807 := by rw [← e33]; exact hI_M 598 62 (Nat.le_of_ble_eq_true rfl)
                    refine jr.getf (i := 62) (x := v33) (v := .long (Int64.ofInt (v33))) rfl rfl (nlt rfl) rfl (nlt rfl) rfl rfl e33 rfl ?_
                    refine jr.lload rfl rfl ?_
                    refine jr.lcmp_ne rfl rfl rfl (by omega) (by omega) (fun h188 => ?_) (fun h188 => ?_)
                    · refine jr.iconst rfl ?_
                      exact jr.ireturn rfl rfl rfl (q _ (by first | exact rgq rfl | omega) (by omega) (by have x0 : M 630 (2 * f) = v7 := e7; have x1 : M 631 (2 * f) = v23 := e23; have x2 : M 630 (2 * f + 1) = v31 := e31; have x3 : M 631 (2 * f + 1) = v32 := e32; rw [sd6_m (by omega) (by omega) (by omega)]))
                    · refine jr.aload_n rfl rfl ?_
                      obtain ⟨v34, e34⟩ : ∃ z, M 598 64 = z := ⟨_, rfl⟩
                      have b34 : 0 ≤ v34 ∧ v34 ≤ 65535 := by rw [← e34]; exact hI_M 598 64 (Nat.le_of_ble_eq_true rfl)
                      refine jr.getf (i := 64) (x := v34) (v := .int (Int32.ofInt (v34))) rfl rfl (nlt rfl) rfl (nlt rfl) rfl rfl e34 rfl ?_
                      refine jr.iload rfl rfl ?_
                      refine jr.icmp_ne rfl rfl (by first | (refine rgb (by assumption) ?_; exact rfl) | omega) (by first | (refine rgb (by assumption) ?_; exact rfl) | omega) (fun h198 => ?_) (fun h198 => ?_)
                      · refine jr.iconst rfl ?_
                        exact jr.ireturn rfl rfl rfl (q _ (by first | exact rgq rfl | omega) (by omega) (by have x0 : M 630 (2 * f) = v7 := e7; have x1 : M 631 (2 * f) = v23 := e23; have x2 : M 630 (2 * f + 1) = v31 := e31; have x3 : M 631 (2 * f + 1) = v32 := e32; rw [sd6_m (by omega) (by omega) (by omega)]))
                      · refine jr.iconst rfl ?_
                        refine jr.goto rfl rfl ?_
                        exact jr.ireturn rfl rfl rfl (q _ (by first | exact rgq rfl | omega) (by omega) (by have x0 : M 630 (2 * f) = v7 := e7; have x1 : M 631 (2 * f) = v23 := e23; have x2 : M 630 (2 * f + 1) = v31 := e31; have x3 : M 631 (2 * f + 1) = v32 := e32; rw [sd6_1 (by omega) (by omega) (by omega) (by omega)]))
          · refine jr.aload_n rfl rfl ?_
            obtain ⟨v35, e35⟩ : ∃ z, M 598 62 = z := ⟨_, rfl⟩
            have b35 : (-9223372036854775808) ≤ v35 ∧ v35 ≤ 9223372036854775807 := by rw [← e35]; exact hI_M 598 62 (Nat.le_of_ble_eq_true rfl)
            refine jr.getf (i := 62) (x := v35) (v := .long (Int64.ofInt (v35))) rfl rfl (nlt rfl) rfl (nlt rfl) rfl rfl e35 rfl ?_
            refine jr.aload_n rfl rfl ?_
            refine jr.getf (i := 42) (v := .ref 630) rfl rfl (nlt rfl) rfl (nlt rfl) rfl rfl rfl rfl ?_
            refine jr.iload_n rfl rfl ?_
            obtain ⟨v36, e36⟩ : ∃ z, M 630 ((2 * f) + 1) = z := ⟨_, rfl⟩
            have b36 : (-9223372036854775808) ≤ v36 ∧ v36 ≤ 9223372036854775807 := by rw [← e36]; exact (by have q := hI_M 630 ((2 * f) + 1) (by decide); rw [xri_row rfl rfl] at q; exact q)
            refine jr.lald (i := ((2 * f) + 1)) (x := v36) rfl (nlt rfl) rfl (Nat.le_of_ble_eq_true rfl) (by omega) (by omega) e36 ?_
            refine jr.lcmp_ne rfl rfl rfl (by omega) (by omega) (fun h82 => ?_) (fun h82 => ?_)
            · refine jr.aload_n rfl rfl ?_
              refine jr.getf (i := 52) (v := .ref 640) rfl rfl (nlt rfl) rfl (nlt rfl) rfl rfl rfl rfl ?_
              refine jr.iload_n rfl rfl ?_
              obtain ⟨v37, e37⟩ : ∃ z, M 640 f = z := ⟨_, rfl⟩
              have b37 : (-1) ≤ v37 ∧ v37 ≤ 3 := by rw [← e37]; exact (by have q := hI_M 640 f (Nat.le_of_ble_eq_true rfl); rw [xri_row rfl rfl] at q; exact q)
              refine jr.iald (i := f) (x := v37) rfl (nlt rfl) rfl (Nat.le_of_ble_eq_true rfl) (by omega) (by omega) e37 ?_
              refine jr.iconst rfl ?_
              refine jr.icmp_ne rfl rfl (by first | (refine rgb (by assumption) ?_; exact rfl) | omega) (rgl rfl) (fun h108 => ?_) (fun h108 => ?_)
              · refine jr.aload_n rfl rfl ?_
                refine jr.getf (i := 53) (v := .ref 641) rfl rfl (nlt rfl) rfl (nlt rfl) rfl rfl rfl rfl ?_
                refine jr.iload_n rfl rfl ?_
                obtain ⟨v38, e38⟩ : ∃ z, M 641 f = z := ⟨_, rfl⟩
                have b38 : (-9223372036854775808) ≤ v38 ∧ v38 ≤ 9223372036854775807 := by rw [← e38]; exact (by have q := hI_M 641 f (Nat.le_of_ble_eq_true rfl); rw [xri_row rfl rfl] at q; exact q)
                refine jr.lald (i := f) (x := v38) rfl (nlt rfl) rfl (Nat.le_of_ble_eq_true rfl) (by omega) (by omega) e38 ?_
                refine jr.lstore (ls' := [_, _, _, _, _]) rfl (nlt rfl) rfl ?_
                refine jr.aload_n rfl rfl ?_
                refine jr.getf (i := 52) (v := .ref 640) rfl rfl (nlt rfl) rfl (nlt rfl) rfl rfl rfl rfl ?_
                refine jr.iload_n rfl rfl ?_
                refine jr.iald (i := f) (x := v37) rfl (nlt rfl) rfl (Nat.le_of_ble_eq_true rfl) (by omega) (by omega) e37 ?_
                refine jr.iconst rfl ?_
                refine jr.icmp_ne rfl rfl (by first | (refine rgb (by assumption) ?_; exact rfl) | omega) (rgl rfl) (fun h135 => ?_) (fun h135 => ?_)
                · refine jr.aload_n rfl rfl ?_
                  refine jr.getf (i := 54) (v := .ref 642) rfl rfl (nlt rfl) rfl (nlt rfl) rfl rfl rfl rfl ?_
                  refine jr.iload_n rfl rfl ?_
                  obtain ⟨v39, e39⟩ : ∃ z, M 642 f = z := ⟨_, rfl⟩
                  have b39 : 0 ≤ v39 ∧ v39 ≤ 70000 := by rw [← e39]; exact (by have q := hI_M 642 f (Nat.le_of_ble_eq_true rfl); rw [xri_row rfl rfl] at q; exact q)
                  refine jr.iald (i := f) (x := v39) rfl (nlt rfl) rfl (Nat.le_of_ble_eq_true rfl) (by omega) (by omega) e39 ?_
                  refine jr.istore (ls' := [_, _, _, _, _, _]) rfl (nlt rfl) rfl ?_
                  refine jr.aload_n rfl rfl ?_
                  refine jr.getf (i := 61) (x := v6) (v := .long (Int64.ofInt (v6))) rfl rfl (nlt rfl) rfl (nlt rfl) rfl rfl e6 rfl ?_
                  refine jr.aload_n rfl rfl ?_
                  refine jr.getf (i := 42) (v := .ref 630) rfl rfl (nlt rfl) rfl (nlt rfl) rfl rfl rfl rfl ?_
                  refine jr.iload_n rfl rfl ?_
                  refine jr.lald (i := ((2 * f) + 1)) (x := v36) rfl (nlt rfl) rfl (Nat.le_of_ble_eq_true rfl) (by omega) (by omega) e36 ?_
                  refine jr.lcmp_ne rfl rfl rfl (by omega) (by omega) (fun h165 => ?_) (fun h165 => ?_)
                  · refine jr.iconst rfl ?_
                    exact jr.ireturn rfl rfl rfl (q _ (by first | exact rgq rfl | omega) (by omega) (by have x0 : M 630 (2 * f) = v7 := e7; have x1 : M 631 (2 * f) = v23 := e23; have x2 : M 630 (2 * f + 1) = v36 := e36; rw [sd6_m (by omega) (by omega) (by omega)]))
                  · refine jr.aload_n rfl rfl ?_
                    refine jr.getf (i := 63) (x := v22) (v := .int (Int32.ofInt (v22))) rfl rfl (nlt rfl) rfl (nlt rfl) rfl rfl e22 rfl ?_
                    refine jr.aload_n rfl rfl ?_
                    refine jr.getf (i := 43) (v := .ref 631) rfl rfl (nlt rfl) rfl (nlt rfl) rfl rfl rfl rfl ?_
                    refine jr.iload_n rfl rfl ?_
                    obtain ⟨v40, e40⟩ : ∃ z, M 631 ((2 * f) + 1) = z := ⟨_, rfl⟩
                    have b40 : 0 ≤ v40 ∧ v40 ≤ 65535 := by rw [← e40]; exact (by have q := hI_M 631 ((2 * f) + 1) (by decide); rw [xri_row rfl rfl] at q; exact q)
                    refine jr.iald (i := ((2 * f) + 1)) (x := v40) rfl (nlt rfl) rfl (Nat.le_of_ble_eq_true rfl) (by omega) (by omega) e40 ?_
                    refine jr.icmp_ne rfl rfl (by first | (refine rgb (by assumption) ?_; exact rfl) | omega) (by first | (refine rgb (by assumption) ?_; exact rfl) | omega) (fun h179 => ?_) (fun h179 => ?_)
                    · refine jr.iconst rfl ?_
                      exact jr.ireturn rfl rfl rfl (q _ (by first | exact rgq rfl | omega) (by omega) (by have x0 : M 630 (2 * f) = v7 := e7; have x1 : M 631 (2 * f) = v23 := e23; have x2 : M 630 (2 * f + 1) = v36 := e36; have x3 : M 631 (2 * f + 1) = v40 := e40; rw [sd6_m (by omega) (by omega) (by omega)]))
                    · refine jr.aload_n rfl rfl ?_
                      refine jr.getf (i := 62) (x := v35) (v := .long (Int64.ofInt (v35))) rfl rfl (nlt rfl) rfl (nlt rfl) rfl rfl e35 rfl ?_
                      refine jr.lload rfl rfl ?_
                      refine jr.lcmp_ne rfl rfl rfl (by omega) (by omega) (fun h188 => ?_) (fun h188 => ?_)
                      · refine jr.iconst rfl ?_
                        exact jr.ireturn rfl rfl rfl (q _ (by first | exact rgq rfl | omega) (by omega) (by have x0 : M 630 (2 * f) = v7 := e7; have x1 : M 631 (2 * f) = v23 := e23; have x2 : M 630 (2 * f + 1) = v36 := e36; have x3 : M 631 (2 * f + 1) = v40 := e40; rw [sd6_m (by omega) (by omega) (by omega)]))
                      · refine jr.aload_n rfl rfl ?_
                        obtain ⟨v41, e41⟩ : ∃ z, M 598 64 = z := ⟨_, rfl⟩
                        have b41 : 0 ≤ v41 ∧ v41 ≤ 65535 := by rw [← e41]; exact hI_M 598 64 (Nat.le_of_ble_eq_true rfl)
                        refine jr.getf (i := 64) (x := v41) (v := .int (Int32.ofInt (v41))) rfl rfl (nlt rfl) rfl (nlt rfl) rfl rfl e41 rfl ?_
                        refine jr.iload rfl rfl ?_
                        refine jr.icmp_ne rfl rfl (by first | (refine rgb (by assumption) ?_; exact rfl) | omega) (by first | (refine rgb (by assumption) ?_; exact rfl) | omega) (fun h198 => ?_) (fun h198 => ?_)
                        · refine jr.iconst rfl ?_
                          exact jr.ireturn rfl rfl rfl (q _ (by first | exact rgq rfl | omega) (by omega) (by have x0 : M 630 (2 * f) = v7 := e7; have x1 : M 631 (2 * f) = v23 := e23; have x2 : M 630 (2 * f + 1) = v36 := e36; have x3 : M 631 (2 * f + 1) = v40 := e40; rw [sd6_m (by omega) (by omega) (by omega)]))
                        · refine jr.iconst rfl ?_
                          refine jr.goto rfl rfl ?_
                          exact jr.ireturn rfl rfl rfl (q _ (by first | exact rgq rfl | omega) (by omega) (by have x0 : M 630 (2 * f) = v7 := e7; have x1 : M 631 (2 * f) = v23 := e23; have x2 : M 630 (2 * f + 1) = v36 := e36; have x3 : M 631 (2 * f + 1) = v40 := e40; rw [sd6_1 (by omega) (by omega) (by omega) (by omega)]))
                · exact absurd (by omega) h135
              · refine jr.aload_n rfl rfl ?_
                refine jr.getf (i := 42) (v := .ref 630) rfl rfl (nlt rfl) rfl (nlt rfl) rfl rfl rfl rfl ?_
                refine jr.iload_n rfl rfl ?_
                refine jr.lald (i := (2 * f)) (x := v7) rfl (nlt rfl) rfl (Nat.le_of_ble_eq_true rfl) (by omega) (by omega) e7 ?_
                refine jr.goto rfl rfl ?_
                refine jr.lstore (ls' := [_, _, _, _, _]) rfl (nlt rfl) rfl ?_
                refine jr.aload_n rfl rfl ?_
                refine jr.getf (i := 52) (v := .ref 640) rfl rfl (nlt rfl) rfl (nlt rfl) rfl rfl rfl rfl ?_
                refine jr.iload_n rfl rfl ?_
                refine jr.iald (i := f) (x := v37) rfl (nlt rfl) rfl (Nat.le_of_ble_eq_true rfl) (by omega) (by omega) e37 ?_
                refine jr.iconst rfl ?_
                refine jr.icmp_ne rfl rfl (by first | (refine rgb (by assumption) ?_; exact rfl) | omega) (rgl rfl) (fun h135 => ?_) (fun h135 => ?_)
                · exact absurd h135 (by omega)
                · refine jr.aload_n rfl rfl ?_
                  refine jr.getf (i := 43) (v := .ref 631) rfl rfl (nlt rfl) rfl (nlt rfl) rfl rfl rfl rfl ?_
                  refine jr.iload_n rfl rfl ?_
                  refine jr.iald (i := (2 * f)) (x := v23) rfl (nlt rfl) rfl (Nat.le_of_ble_eq_true rfl) (by omega) (by omega) e23 ?_
                  refine jr.goto rfl rfl ?_
                  refine jr.istore (ls' := [_, _, _, _, _, _]) rfl (nlt rfl) rfl ?_
                  refine jr.aload_n rfl rfl ?_
                  refine jr.getf (i := 61) (x := v6) (v := .long (Int64.ofInt (v6))) rfl rfl (nlt rfl) rfl (nlt rfl) rfl rfl e6 rfl ?_
                  refine jr.aload_n rfl rfl ?_
                  refine jr.getf (i := 42) (v := .ref 630) rfl rfl (nlt rfl) rfl (nlt rfl) rfl rfl rfl rfl ?_
                  refine jr.iload_n rfl rfl ?_
                  refine jr.lald (i := ((2 * f) + 1)) (x := v36) rfl (nlt rfl) rfl (Nat.le_of_ble_eq_true rfl) (by omega) (by omega) e36 ?_
                  refine jr.lcmp_ne rfl rfl rfl (by omega) (by omega) (fun h165 => ?_) (fun h165 => ?_)
                  · refine jr.iconst rfl ?_
                    exact jr.ireturn rfl rfl rfl (q _ (by first | exact rgq rfl | omega) (by omega) (by have x0 : M 630 (2 * f) = v7 := e7; have x1 : M 631 (2 * f) = v23 := e23; have x2 : M 630 (2 * f + 1) = v36 := e36; rw [sd6_m (by omega) (by omega) (by omega)]))
                  · refine jr.aload_n rfl rfl ?_
                    refine jr.getf (i := 63) (x := v22) (v := .int (Int32.ofInt (v22))) rfl rfl (nlt rfl) rfl (nlt rfl) rfl rfl e22 rfl ?_
                    refine jr.aload_n rfl rfl ?_
                    refine jr.getf (i := 43) (v := .ref 631) rfl rfl (nlt rfl) rfl (nlt rfl) rfl rfl rfl rfl ?_
                    refine jr.iload_n rfl rfl ?_
                    obtain ⟨v42, e42⟩ : ∃ z, M 631 ((2 * f) + 1) = z := ⟨_, rfl⟩
                    have b42 : 0 ≤ v42 ∧ v42 ≤ 65535 := by rw [← e42]; exact (by have q := hI_M 631 ((2 * f) + 1) (by decide); rw [xri_row rfl rfl] at q; exact q)
                    refine jr.iald (i := ((2 * f) + 1)) (x := v42) rfl (nlt rfl) rfl (Nat.le_of_ble_eq_true rfl) (by omega) (by omega) e42 ?_
                    refine jr.icmp_ne rfl rfl (by first | (refine rgb (by assumption) ?_; exact rfl) | omega) (by first | (refine rgb (by assumption) ?_; exact rfl) | omega) (fun h179 => ?_) (fun h179 => ?_)
                    · refine jr.iconst rfl ?_
                      exact jr.ireturn rfl rfl rfl (q _ (by first | exact rgq rfl | omega) (by omega) (by have x0 : M 630 (2 * f) = v7 := e7; have x1 : M 631 (2 * f) = v23 := e23; have x2 : M 630 (2 * f + 1) = v36 := e36; have x3 : M 631 (2 * f + 1) = v42 := e42; rw [sd6_m (by omega) (by omega) (by omega)]))
                    · refine jr.aload_n rfl rfl ?_
                      refine jr.getf (i := 62) (x := v35) (v := .long (Int64.ofInt (v35))) rfl rfl (nlt rfl) rfl (nlt rfl) rfl rfl e35 rfl ?_
                      refine jr.lload rfl rfl ?_
                      refine jr.lcmp_ne rfl rfl rfl (by omega) (by omega) (fun h188 => ?_) (fun h188 => ?_)
                      · refine jr.iconst rfl ?_
                        exact jr.ireturn rfl rfl rfl (q _ (by first | exact rgq rfl | omega) (by omega) (by have x0 : M 630 (2 * f) = v7 := e7; have x1 : M 631 (2 * f) = v23 := e23; have x2 : M 630 (2 * f + 1) = v36 := e36; have x3 : M 631 (2 * f + 1) = v42 := e42; rw [sd6_m (by omega) (by omega) (by omega)]))
                      · refine jr.aload_n rfl rfl ?_
                        obtain ⟨v43, e43⟩ : ∃ z, M 598 64 = z := ⟨_, rfl⟩
                        have b43 : 0 ≤ v43 ∧ v43 ≤ 65535 := by rw [← e43]; exact hI_M 598 64 (Nat.le_of_ble_eq_true rfl)
                        refine jr.getf (i := 64) (x := v43) (v := .int (Int32.ofInt (v43))) rfl rfl (nlt rfl) rfl (nlt rfl) rfl rfl e43 rfl ?_
                        refine jr.iload rfl rfl ?_
                        refine jr.icmp_ne rfl rfl (by first | (refine rgb (by assumption) ?_; exact rfl) | omega) (by first | (refine rgb (by assumption) ?_; exact rfl) | omega) (fun h198 => ?_) (fun h198 => ?_)
                        · refine jr.iconst rfl ?_
                          exact jr.ireturn rfl rfl rfl (q _ (by first | exact rgq rfl | omega) (by omega) (by have x0 : M 630 (2 * f) = v7 := e7; have x1 : M 631 (2 * f) = v23 := e23; have x2 : M 630 (2 * f + 1) = v36 := e36; have x3 : M 631 (2 * f + 1) = v42 := e42; rw [sd6_m (by omega) (by omega) (by omega)]))
                        · refine jr.iconst rfl ?_
                          refine jr.goto rfl rfl ?_
                          exact jr.ireturn rfl rfl rfl (q _ (by first | exact rgq rfl | omega) (by omega) (by have x0 : M 630 (2 * f) = v7 := e7; have x1 : M 631 (2 * f) = v23 := e23; have x2 : M 630 (2 * f + 1) = v36 := e36; have x3 : M 631 (2 * f + 1) = v42 := e42; rw [sd6_1 (by omega) (by omega) (by omega) (by omega)]))
            · refine jr.aload_n rfl rfl ?_
              obtain ⟨v44, e44⟩ : ∃ z, M 598 64 = z := ⟨_, rfl⟩
              have b44 : 0 ≤ v44 ∧ v44 ≤ 65535 := by rw [← e44]; exact hI_M 598 64 (Nat.le_of_ble_eq_true rfl)
              refine jr.getf (i := 64) (x := v44) (v := .int (Int32.ofInt (v44))) rfl rfl (nlt rfl) rfl (nlt rfl) rfl rfl e44 rfl ?_
              refine jr.aload_n rfl rfl ?_
              refine jr.getf (i := 43) (v := .ref 631) rfl rfl (nlt rfl) rfl (nlt rfl) rfl rfl rfl rfl ?_
              refine jr.iload_n rfl rfl ?_
              obtain ⟨v45, e45⟩ : ∃ z, M 631 ((2 * f) + 1) = z := ⟨_, rfl⟩
              have b45 : 0 ≤ v45 ∧ v45 ≤ 65535 := by rw [← e45]; exact (by have q := hI_M 631 ((2 * f) + 1) (by decide); rw [xri_row rfl rfl] at q; exact q)
              refine jr.iald (i := ((2 * f) + 1)) (x := v45) rfl (nlt rfl) rfl (Nat.le_of_ble_eq_true rfl) (by omega) (by omega) e45 ?_
              refine jr.icmp_ne rfl rfl (by first | (refine rgb (by assumption) ?_; exact rfl) | omega) (by first | (refine rgb (by assumption) ?_; exact rfl) | omega) (fun h96 => ?_) (fun h96 => ?_)
              · refine jr.aload_n rfl rfl ?_
                refine jr.getf (i := 52) (v := .ref 640) rfl rfl (nlt rfl) rfl (nlt rfl) rfl rfl rfl rfl ?_
                refine jr.iload_n rfl rfl ?_
                obtain ⟨v46, e46⟩ : ∃ z, M 640 f = z := ⟨_, rfl⟩
                have b46 : (-1) ≤ v46 ∧ v46 ≤ 3 := by rw [← e46]; exact (by have q := hI_M 640 f (Nat.le_of_ble_eq_true rfl); rw [xri_row rfl rfl] at q; exact q)
                refine jr.iald (i := f) (x := v46) rfl (nlt rfl) rfl (Nat.le_of_ble_eq_true rfl) (by omega) (by omega) e46 ?_
                refine jr.iconst rfl ?_
                refine jr.icmp_ne rfl rfl (by first | (refine rgb (by assumption) ?_; exact rfl) | omega) (rgl rfl) (fun h108 => ?_) (fun h108 => ?_)
                · refine jr.aload_n rfl rfl ?_
                  refine jr.getf (i := 53) (v := .ref 641) rfl rfl (nlt rfl) rfl (nlt rfl) rfl rfl rfl rfl ?_
                  refine jr.iload_n rfl rfl ?_
                  obtain ⟨v47, e47⟩ : ∃ z, M 641 f = z := ⟨_, rfl⟩
                  have b47 : (-9223372036854775808) ≤ v47 ∧ v47 ≤ 9223372036854775807 := by rw [← e47]; exact (by have q := hI_M 641 f (Nat.le_of_ble_eq_true rfl); rw [xri_row rfl rfl] at q; exact q)
                  refine jr.lald (i := f) (x := v47) rfl (nlt rfl) rfl (Nat.le_of_ble_eq_true rfl) (by omega) (by omega) e47 ?_
                  refine jr.lstore (ls' := [_, _, _, _, _]) rfl (nlt rfl) rfl ?_
                  refine jr.aload_n rfl rfl ?_
                  refine jr.getf (i := 52) (v := .ref 640) rfl rfl (nlt rfl) rfl (nlt rfl) rfl rfl rfl rfl ?_
                  refine jr.iload_n rfl rfl ?_
                  refine jr.iald (i := f) (x := v46) rfl (nlt rfl) rfl (Nat.le_of_ble_eq_true rfl) (by omega) (by omega) e46 ?_
                  refine jr.iconst rfl ?_
                  refine jr.icmp_ne rfl rfl (by first | (refine rgb (by assumption) ?_; exact rfl) | omega) (rgl rfl) (fun h135 => ?_) (fun h135 => ?_)
                  · refine jr.aload_n rfl rfl ?_
                    refine jr.getf (i := 54) (v := .ref 642) rfl rfl (nlt rfl) rfl (nlt rfl) rfl rfl rfl rfl ?_
                    refine jr.iload_n rfl rfl ?_
                    obtain ⟨v48, e48⟩ : ∃ z, M 642 f = z := ⟨_, rfl⟩
                    have b48 : 0 ≤ v48 ∧ v48 ≤ 70000 := by rw [← e48]; exact (by have q := hI_M 642 f (Nat.le_of_ble_eq_true rfl); rw [xri_row rfl rfl] at q; exact q)
                    refine jr.iald (i := f) (x := v48) rfl (nlt rfl) rfl (Nat.le_of_ble_eq_true rfl) (by omega) (by omega) e48 ?_
                    refine jr.istore (ls' := [_, _, _, _, _, _]) rfl (nlt rfl) rfl ?_
                    refine jr.aload_n rfl rfl ?_
                    refine jr.getf (i := 61) (x := v6) (v := .long (Int64.ofInt (v6))) rfl rfl (nlt rfl) rfl (nlt rfl) rfl rfl e6 rfl ?_
                    refine jr.aload_n rfl rfl ?_
                    refine jr.getf (i := 42) (v := .ref 630) rfl rfl (nlt rfl) rfl (nlt rfl) rfl rfl rfl rfl ?_
                    refine jr.iload_n rfl rfl ?_
                    refine jr.lald (i := ((2 * f) + 1)) (x := v36) rfl (nlt rfl) rfl (Nat.le_of_ble_eq_true rfl) (by omega) (by omega) e36 ?_
                    refine jr.lcmp_ne rfl rfl rfl (by omega) (by omega) (fun h165 => ?_) (fun h165 => ?_)
                    · refine jr.iconst rfl ?_
                      exact jr.ireturn rfl rfl rfl (q _ (by first | exact rgq rfl | omega) (by omega) (by have x0 : M 630 (2 * f) = v7 := e7; have x1 : M 631 (2 * f) = v23 := e23; have x2 : M 630 (2 * f + 1) = v36 := e36; have x3 : M 631 (2 * f + 1) = v45 := e45; rw [sd6_m (by omega) (by omega) (by omega)]))
                    · refine jr.aload_n rfl rfl ?_
                      refine jr.getf (i := 63) (x := v22) (v := .int (Int32.ofInt (v22))) rfl rfl (nlt rfl) rfl (nlt rfl) rfl rfl e22 rfl ?_
                      refine jr.aload_n rfl rfl ?_
                      refine jr.getf (i := 43) (v := .ref 631) rfl rfl (nlt rfl) rfl (nlt rfl) rfl rfl rfl rfl ?_
                      refine jr.iload_n rfl rfl ?_
                      refine jr.iald (i := ((2 * f) + 1)) (x := v45) rfl (nlt rfl) rfl (Nat.le_of_ble_eq_true rfl) (by omega) (by omega) e45 ?_
                      refine jr.icmp_ne rfl rfl (by first | (refine rgb (by assumption) ?_; exact rfl) | omega) (by first | (refine rgb (by assumption) ?_; exact rfl) | omega) (fun h179 => ?_) (fun h179 => ?_)
                      · refine jr.iconst rfl ?_
                        exact jr.ireturn rfl rfl rfl (q _ (by first | exact rgq rfl | omega) (by omega) (by have x0 : M 630 (2 * f) = v7 := e7; have x1 : M 631 (2 * f) = v23 := e23; have x2 : M 630 (2 * f + 1) = v36 := e36; have x3 : M 631 (2 * f + 1) = v45 := e45; rw [sd6_m (by omega) (by omega) (by omega)]))
                      · refine jr.aload_n rfl rfl ?_
                        refine jr.getf (i := 62) (x := v35) (v := .long (Int64.ofInt (v35))) rfl rfl (nlt rfl) rfl (nlt rfl) rfl rfl e35 rfl ?_
                        refine jr.lload rfl rfl ?_
                        refine jr.lcmp_ne rfl rfl rfl (by omega) (by omega) (fun h188 => ?_) (fun h188 => ?_)
                        · refine jr.iconst rfl ?_
                          exact jr.ireturn rfl rfl rfl (q _ (by first | exact rgq rfl | omega) (by omega) (by have x0 : M 630 (2 * f) = v7 := e7; have x1 : M 631 (2 * f) = v23 := e23; have x2 : M 630 (2 * f + 1) = v36 := e36; have x3 : M 631 (2 * f + 1) = v45 := e45; rw [sd6_m (by omega) (by omega) (by omega)]))
                        · refine jr.aload_n rfl rfl ?_
                          refine jr.getf (i := 64) (x := v44) (v := .int (Int32.ofInt (v44))) rfl rfl (nlt rfl) rfl (nlt rfl) rfl rfl e44 rfl ?_
                          refine jr.iload rfl rfl ?_
                          refine jr.icmp_ne rfl rfl (by first | (refine rgb (by assumption) ?_; exact rfl) | omega) (by first | (refine rgb (by assumption) ?_; exact rfl) | omega) (fun h198 => ?_) (fun h198 => ?_)
                          · refine jr.iconst rfl ?_
                            exact jr.ireturn rfl rfl rfl (q _ (by first | exact rgq rfl | omega) (by omega) (by have x0 : M 630 (2 * f) = v7 := e7; have x1 : M 631 (2 * f) = v23 := e23; have x2 : M 630 (2 * f + 1) = v36 := e36; have x3 : M 631 (2 * f + 1) = v45 := e45; rw [sd6_m (by omega) (by omega) (by omega)]))
                          · refine jr.iconst rfl ?_
                            refine jr.goto rfl rfl ?_
                            exact jr.ireturn rfl rfl rfl (q _ (by first | exact rgq rfl | omega) (by omega) (by have x0 : M 630 (2 * f) = v7 := e7; have x1 : M 631 (2 * f) = v23 := e23; have x2 : M 630 (2 * f + 1) = v36 := e36; have x3 : M 631 (2 * f + 1) = v45 := e45; rw [sd6_1 (by omega) (by omega) (by omega) (by omega)]))
                  · exact absurd (by omega) h135
                · refine jr.aload_n rfl rfl ?_
                  refine jr.getf (i := 42) (v := .ref 630) rfl rfl (nlt rfl) rfl (nlt rfl) rfl rfl rfl rfl ?_
                  refine jr.iload_n rfl rfl ?_
                  refine jr.lald (i := (2 * f)) (x := v7) rfl (nlt rfl) rfl (Nat.le_of_ble_eq_true rfl) (by omega) (by omega) e7 ?_
                  refine jr.goto rfl rfl ?_
                  refine jr.lstore (ls' := [_, _, _, _, _]) rfl (nlt rfl) rfl ?_
                  refine jr.aload_n rfl rfl ?_
                  refine jr.getf (i := 52) (v := .ref 640) rfl rfl (nlt rfl) rfl (nlt rfl) rfl rfl rfl rfl ?_
                  refine jr.iload_n rfl rfl ?_
                  refine jr.iald (i := f) (x := v46) rfl (nlt rfl) rfl (Nat.le_of_ble_eq_true rfl) (by omega) (by omega) e46 ?_
                  refine jr.iconst rfl ?_
                  refine jr.icmp_ne rfl rfl (by first | (refine rgb (by assumption) ?_; exact rfl) | omega) (rgl rfl) (fun h135 => ?_) (fun h135 => ?_)
                  · exact absurd h135 (by omega)
                  · refine jr.aload_n rfl rfl ?_
                    refine jr.getf (i := 43) (v := .ref 631) rfl rfl (nlt rfl) rfl (nlt rfl) rfl rfl rfl rfl ?_
                    refine jr.iload_n rfl rfl ?_
                    refine jr.iald (i := (2 * f)) (x := v23) rfl (nlt rfl) rfl (Nat.le_of_ble_eq_true rfl) (by omega) (by omega) e23 ?_
                    refine jr.goto rfl rfl ?_
                    refine jr.istore (ls' := [_, _, _, _, _, _]) rfl (nlt rfl) rfl ?_
                    refine jr.aload_n rfl rfl ?_
                    refine jr.getf (i := 61) (x := v6) (v := .long (Int64.ofInt (v6))) rfl rfl (nlt rfl) rfl (nlt rfl) rfl rfl e6 rfl ?_
                    refine jr.aload_n rfl rfl ?_
                    refine jr.getf (i := 42) (v := .ref 630) rfl rfl (nlt rfl) rfl (nlt rfl) rfl rfl rfl rfl ?_
                    refine jr.iload_n rfl rfl ?_
                    refine jr.lald (i := ((2 * f) + 1)) (x := v36) rfl (nlt rfl) rfl (Nat.le_of_ble_eq_true rfl) (by omega) (by omega) e36 ?_
                    refine jr.lcmp_ne rfl rfl rfl (by omega) (by omega) (fun h165 => ?_) (fun h165 => ?_)
                    · refine jr.iconst rfl ?_
                      exact jr.ireturn rfl rfl rfl (q _ (by first | exact rgq rfl | omega) (by omega) (by have x0 : M 630 (2 * f) = v7 := e7; have x1 : M 631 (2 * f) = v23 := e23; have x2 : M 630 (2 * f + 1) = v36 := e36; have x3 : M 631 (2 * f + 1) = v45 := e45; rw [sd6_m (by omega) (by omega) (by omega)]))
                    · refine jr.aload_n rfl rfl ?_
                      refine jr.getf (i := 63) (x := v22) (v := .int (Int32.ofInt (v22))) rfl rfl (nlt rfl) rfl (nlt rfl) rfl rfl e22 rfl ?_
                      refine jr.aload_n rfl rfl ?_
                      refine jr.getf (i := 43) (v := .ref 631) rfl rfl (nlt rfl) rfl (nlt rfl) rfl rfl rfl rfl ?_
                      refine jr.iload_n rfl rfl ?_
                      refine jr.iald (i := ((2 * f) + 1)) (x := v45) rfl (nlt rfl) rfl (Nat.le_of_ble_eq_true rfl) (by omega) (by omega) e45 ?_
                      refine jr.icmp_ne rfl rfl (by first | (refine rgb (by assumption) ?_; exact rfl) | omega) (by first | (refine rgb (by assumption) ?_; exact rfl) | omega) (fun h179 => ?_) (fun h179 => ?_)
                      · refine jr.iconst rfl ?_
                        exact jr.ireturn rfl rfl rfl (q _ (by first | exact rgq rfl | omega) (by omega) (by have x0 : M 630 (2 * f) = v7 := e7; have x1 : M 631 (2 * f) = v23 := e23; have x2 : M 630 (2 * f + 1) = v36 := e36; have x3 : M 631 (2 * f + 1) = v45 := e45; rw [sd6_m (by omega) (by omega) (by omega)]))
                      · refine jr.aload_n rfl rfl ?_
                        refine jr.getf (i := 62) (x := v35) (v := .long (Int64.ofInt (v35))) rfl rfl (nlt rfl) rfl (nlt rfl) rfl rfl e35 rfl ?_
                        refine jr.lload rfl rfl ?_
                        refine jr.lcmp_ne rfl rfl rfl (by omega) (by omega) (fun h188 => ?_) (fun h188 => ?_)
                        · refine jr.iconst rfl ?_
                          exact jr.ireturn rfl rfl rfl (q _ (by first | exact rgq rfl | omega) (by omega) (by have x0 : M 630 (2 * f) = v7 := e7; have x1 : M 631 (2 * f) = v23 := e23; have x2 : M 630 (2 * f + 1) = v36 := e36; have x3 : M 631 (2 * f + 1) = v45 := e45; rw [sd6_m (by omega) (by omega) (by omega)]))
                        · refine jr.aload_n rfl rfl ?_
                          refine jr.getf (i := 64) (x := v44) (v := .int (Int32.ofInt (v44))) rfl rfl (nlt rfl) rfl (nlt rfl) rfl rfl e44 rfl ?_
                          refine jr.iload rfl rfl ?_
                          refine jr.icmp_ne rfl rfl (by first | (refine rgb (by assumption) ?_; exact rfl) | omega) (by first | (refine rgb (by assumption) ?_; exact rfl) | omega) (fun h198 => ?_) (fun h198 => ?_)
                          · refine jr.iconst rfl ?_
                            exact jr.ireturn rfl rfl rfl (q _ (by first | exact rgq rfl | omega) (by omega) (by have x0 : M 630 (2 * f) = v7 := e7; have x1 : M 631 (2 * f) = v23 := e23; have x2 : M 630 (2 * f + 1) = v36 := e36; have x3 : M 631 (2 * f + 1) = v45 := e45; rw [sd6_m (by omega) (by omega) (by omega)]))
                          · refine jr.iconst rfl ?_
                            refine jr.goto rfl rfl ?_
                            exact jr.ireturn rfl rfl rfl (q _ (by first | exact rgq rfl | omega) (by omega) (by have x0 : M 630 (2 * f) = v7 := e7; have x1 : M 631 (2 * f) = v23 := e23; have x2 : M 630 (2 * f + 1) = v36 := e36; have x3 : M 631 (2 * f + 1) = v45 := e45; rw [sd6_1 (by omega) (by omega) (by omega) (by omega)]))
              · refine jr.iconst rfl ?_
                exact jr.ireturn rfl rfl rfl (q _ (by first | exact rgq rfl | omega) (by omega) (by have x0 : M 630 (2 * f) = v7 := e7; have x1 : M 631 (2 * f) = v23 := e23; have x2 : M 630 (2 * f + 1) = v36 := e36; have x3 : M 631 (2 * f + 1) = v45 := e45; rw [sd6_0 (by omega) (by omega)]))
      · refine jr.iconst rfl ?_
        exact jr.ireturn rfl rfl rfl (q _ (by first | exact rgq rfl | omega) (by omega) (by rw [sd6_n (by omega)]))
theorem r_flowByEnds_L2_x {A : Nat → Option (Nat × (Nat → Int32))} {Q : Option Value → jm → Prop} {M0 : jm} (q : ∀ (r : Int) (M' : jm), RI M' → RH M' → RF M' → (-1) ≤ r ∧ r ≤ 23 → (r = -1 ∨ (M' 629 r = M' 598 60 ∧ 0 ≤ M' 598 66)) → (r = fe6 M0 24 0 ∧ (r = -1 ∨ M' 598 66 = sd6 M0 r)) → (∀ (a : Nat) (i : Int), a ≠ 598 → M' a i = M0 a i) → (∀ (i : Int), i ≠ 66 → M' 598 i = M0 598 i) → Q (some (.int (Int32.ofInt r))) M') : ∀ (nM : Nat) (M : jm) (f : Int), RI M → RH M → RF M → (∀ (a : Nat) (i : Int), a ≠ 598 → M a i = M0 a i) → (∀ (i : Int), i ≠ 66 → M 598 i = M0 598 i) → 0 ≤ f ∧ f ≤ 24 → fe6 M0 24 0 = fe6 M0 (24 - f).toNat f → 24 - f ≤ nM → jr A 1 xm_304 2 [(1, .int (Int32.ofInt (f))), (0, .ref (598))] [] M Q := by
  intro nM
  induction nM using Nat.strongRecOn with
  | ind nM ih =>
    intro M f hI_M hH_M hS_M hF_M hG_M h_f hy0 hm
    have hE := fun j => sd6_e hF_M hG_M j
    refine jr.iload_n rfl rfl ?_
    refine jr.bipush rfl (jbp _ (nlt rfl)) ?_
    refine jr.icmp_ge rfl rfl (by first | (refine rgb (by assumption) ?_; exact rfl) | omega) (rgl rfl) (fun h5 => ?_) (fun h5 => ?_)
    · refine jr.iconst rfl ?_
      exact jr.ireturn rfl rfl rfl (q _ _ hI_M hH_M hS_M  (by first | exact rgq rfl | omega) (Or.inl rfl) ⟨(by rw [hy0, show (24 - f).toNat = 0 from by omega]; rfl), (by first | (left; omega) | exact Or.inl rfl)⟩ (fun a i f598 => (hF_M a i f598)) (fun i g66 => (hG_M i g66)))
    · refine jr.aload_n rfl rfl ?_
      refine jr.aload_n rfl rfl ?_
      refine jr.iload_n rfl rfl ?_
      refine jr_v rfl rfl (Or.inl rfl) rfl rfl (nlt rfl) rfl ⟨rfl, Nat.le_of_ble_eq_true rfl, Nat.le_of_ble_eq_true rfl⟩ rfl (jc.deep (r_sideOf_x hI_M hH_M hS_M  (by omega)  (fun r1 z1 w1_0 w1_1 => ?_)) (Nat.le_of_ble_eq_true rfl))
      refine jr.putf (i := 66) (x := r1) rfl rfl (nlt rfl) rfl (nlt rfl) rfl rfl rfl rfl rfl ?_
      refine jr.aload_n rfl rfl ?_
      refine jr.getf (i := 66) (x := r1) (v := .int (Int32.ofInt (r1))) rfl rfl (nlt rfl) rfl (nlt rfl) rfl rfl (ju_same _ _ _ _) rfl ?_
      refine jr.iconst rfl ?_
      refine jr.icmp_eq rfl rfl (by first | (refine rgb (by assumption) ?_; exact rfl) | omega) (rgl rfl) (fun h22 => ?_) (fun h22 => ?_)
      · refine jr.iinc (ls' := [_, _]) rfl rfl (nlt rfl) rfl ?_
        refine jr.goto rfl rfl ?_
        refine jr.pick (ls := [_, _]) [0, 1] rfl rfl ?_
        exact ih (nM - 1) (by omega) (ju M 598 66 r1) (f + 1) (RI.u hI_M (a := 598) (i := 66) (show (-1 : Int) ≤ _ ∧ _ ≤ (1 : Int) from by omega)) (RH.o hH_M (by decide) (by decide) (by decide)) (RF.o hS_M (by decide) (by decide))  (fun a i f598 => ((ju_c _ _ f598).trans (hF_M a i f598))) (fun i g66 => ((ju_i _ _ g66).trans (hG_M i g66))) (by omega) (by rw [hy0, fe6_s (by omega), if_neg (by rw [← hE f, ← w1_1]; omega)]) (by omega)
      · have sx22 : (0 : Int) ≤ r1 := by omega
        clear h22
        refine jr.iload_n rfl rfl ?_
        obtain ⟨v2, e2⟩ : ∃ z, M 629 f = z := ⟨_, rfl⟩
        have b2 : 0 ≤ v2 ∧ v2 ≤ 255 := by rw [← e2]; exact (by have q := hI_M 629 f (Nat.le_of_ble_eq_true rfl); rw [xri_row rfl rfl] at q; exact q)
        obtain ⟨v3, e3⟩ : ∃ z, M 598 60 = z := ⟨_, rfl⟩
        have b3 : 0 ≤ v3 ∧ v3 ≤ 255 := by rw [← e3]; exact hI_M 598 60 (Nat.le_of_ble_eq_true rfl)
        exact jr.ireturn rfl rfl rfl (q _ _ (RI.u hI_M (a := 598) (i := 66) (show (-1 : Int) ≤ _ ∧ _ ≤ (1 : Int) from by omega)) (RH.o hH_M (by decide) (by decide) (by decide)) (RF.o hS_M (by decide) (by decide))  (by omega) (Or.inr ⟨by rw [((ju_c _ _ (by decide)).trans e2), ((ju_i _ _ (zne (by decide))).trans e3)]; omega, by rw [(ju_same _ _ _ _)]; omega⟩) ⟨(by rw [hy0, fe6_s (by omega), if_pos (by rw [← hE f, ← w1_1]; omega)]), Or.inr (by rw [← hE f, ← w1_1]; exact (ju_same _ _ _ _))⟩ (fun a i f598 => ((ju_c _ _ f598).trans (hF_M a i f598))) (fun i g66 => ((ju_i _ _ g66).trans (hG_M i g66))))
theorem r_flowByEnds_x {A : Nat → Option (Nat × (Nat → Int32))} {Q : Option Value → jm → Prop} {M : jm} (hI_M : RI M) (hH_M : RH M) (hS_M : RF M) (q : ∀ (r : Int) (M' : jm), RI M' → RH M' → RF M' → (-1) ≤ r ∧ r ≤ 23 → (r = -1 ∨ (M' 629 r = M' 598 60 ∧ 0 ≤ M' 598 66)) → (r = fe6 M 24 0 ∧ (r = -1 ∨ M' 598 66 = sd6 M r)) → (∀ (a : Nat) (i : Int), a ≠ 598 → M' a i = M a i) → (∀ (i : Int), i ≠ 66 → M' 598 i = M 598 i) → Q (some (.int (Int32.ofInt r))) M') : jc A 2 304 [.ref (598)] M Q := by
  refine jc_of (m := xm_304) rfl (Nat.le_of_ble_eq_true rfl) rfl ?_
  refine jr.iconst rfl ?_
  refine jr.istore_n (ls' := [_, _]) rfl (nlt rfl) rfl ?_
  refine jr.pick (ls := [_, _]) [0, 1] rfl rfl ?_
  exact r_flowByEnds_L2_x q 24 M 0 hI_M hH_M hS_M  (fun a i f598 => rfl) (fun i g66 => rfl) (by omega) rfl (by omega)
end
