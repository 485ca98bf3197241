section
theorem c_Flow_sideOf_x {A : Nat → Option (Nat × (Nat → Int32))} {Q : Option Value → jm → Prop} {M : jm} (hC_M : CI M) {t : Nat} (k_t : kd t = 1) {x : Nat} (k_x : kd x = 1) (q : ∀ (r : Int), (-1) ≤ r ∧ r ≤ 1 → (r = sdF M t x) → Q (some (.int (Int32.ofInt r))) M) : jc A 2 60 [.ref (t), .ref (x)] M Q := by
  refine jc_of (m := xm_60) rfl (Nat.le_of_ble_eq_true rfl) rfl ?_
  refine jr.aload_n rfl rfl ?_
  obtain ⟨v1, e1⟩ : ∃ z_, M t 0 = z_ := ⟨_, rfl⟩
  have b1 : 0 ≤ v1 ∧ v1 ≤ 1 := by rw [← e1]; exact (CI.r hC_M k_t (by decide) 0)
  refine jr.getf (i := 0) (x := v1) (v := .int (Int32.ofInt (v1))) rfl rfl (Nat.lt_trans (kx_1 k_t).1 (by decide)) (kx_1 k_t).2 (by decide) rfl rfl e1 rfl ?_
  refine jr.if_eq rfl rfl (by omega) (fun h4 => ?_) (fun h4 => ?_)
  · refine jr.iconst rfl ?_
    exact jr.ireturn rfl rfl rfl (q _ (by omega) (by rw [sd_n (by omega)]))
  · have sx4 : (1 : Int) ≤ v1 := by omega
    clear h4
    refine jr.aload_n rfl rfl ?_
    obtain ⟨v2, e2⟩ : ∃ z_, M t 1 = z_ := ⟨_, rfl⟩
    have b2 : 0 ≤ v2 ∧ v2 ≤ 1 := by rw [← e2]; exact (CI.r hC_M k_t (by decide) 1)
    refine jr.getf (i := 1) (x := v2) (v := .int (Int32.ofInt (v2))) rfl rfl (Nat.lt_trans (kx_1 k_t).1 (by decide)) (kx_1 k_t).2 (by decide) rfl rfl e2 rfl ?_
    refine jr.aload_n rfl rfl ?_
    obtain ⟨v3, e3⟩ : ∃ z_, M x 1 = z_ := ⟨_, rfl⟩
    have b3 : 0 ≤ v3 ∧ v3 ≤ 1 := by rw [← e3]; exact (CI.r hC_M k_x (by decide) 1)
    refine jr.getf (i := 1) (x := v3) (v := .int (Int32.ofInt (v3))) rfl rfl (Nat.lt_trans (kx_1 k_x).1 (by decide)) (kx_1 k_x).2 (by decide) rfl rfl e3 rfl ?_
    refine jr.icmp_ne rfl rfl (by omega) (by omega) (fun h15 => ?_) (fun h15 => ?_)
    · refine jr.iconst rfl ?_
      exact jr.ireturn rfl rfl rfl (q _ (by omega) (by rw [sd_n (by omega)]))
    · refine jr.aload_n rfl rfl ?_
      obtain ⟨v4, e4⟩ : ∃ z_, M t 2 = z_ := ⟨_, rfl⟩
      have b4 : (-2147483648) ≤ v4 ∧ v4 ≤ 2147483647 := by rw [← e4]; exact (CI.r hC_M k_t (by decide) 2)
      refine jr.getf (i := 2) (x := v4) (v := .int (Int32.ofInt (v4))) rfl rfl (Nat.lt_trans (kx_1 k_t).1 (by decide)) (kx_1 k_t).2 (by decide) rfl rfl e4 rfl ?_
      refine jr.aload_n rfl rfl ?_
      obtain ⟨v5, e5⟩ : ∃ z_, M x 2 = z_ := ⟨_, rfl⟩
      have b5 : (-2147483648) ≤ v5 ∧ v5 ≤ 2147483647 := by rw [← e5]; exact (CI.r hC_M k_x (by decide) 2)
      refine jr.getf (i := 2) (x := v5) (v := .int (Int32.ofInt (v5))) rfl rfl (Nat.lt_trans (kx_1 k_x).1 (by decide)) (kx_1 k_x).2 (by decide) rfl rfl e5 rfl ?_
      refine jr.icmp_eq rfl rfl (by omega) (by omega) (fun h26 => ?_) (fun h26 => ?_)
      · refine jr.aload_n rfl rfl ?_
        refine jr.iconst rfl ?_
        refine jr.aload_n rfl rfl ?_
        have k6 := kf_1_3 k_t
        refine jr.getf (i := 3) (v := .ref (t + 1)) rfl rfl (Nat.lt_trans (kx_1 k_t).1 (by decide)) (kx_1 k_t).2 (by decide) rfl rfl rfl (jval_ref rfl k6.1) ?_
        refine jr.iconst rfl ?_
        obtain ⟨v7, e7⟩ : ∃ z_, M ((t + 1)) 0 = z_ := ⟨_, rfl⟩
        have b7 : (-9223372036854775808) ≤ v7 ∧ v7 ≤ 9223372036854775807 := by rw [← e7]; exact (CI.r hC_M k6.2 (by decide) 0)
        refine jr.lald (i := 0) (x := v7) rfl (Nat.lt_trans (kx_2 k6.2).1 (by decide)) (kx_2 k6.2).2 (by decide) (by omega) (by omega) e7 ?_
        refine jr.aload_n rfl rfl ?_
        have k8 := kf_1_4 k_t
        refine jr.getf (i := 4) (v := .ref (t + 2)) rfl rfl (Nat.lt_trans (kx_1 k_t).1 (by decide)) (kx_1 k_t).2 (by decide) rfl rfl rfl (jval_ref rfl k8.1) ?_
        refine jr.iconst rfl ?_
        obtain ⟨v9, e9⟩ : ∃ z_, M ((t + 2)) 0 = z_ := ⟨_, rfl⟩
        have b9 : (-2147483648) ≤ v9 ∧ v9 ≤ 2147483647 := by rw [← e9]; exact (CI.r hC_M k8.2 (by decide) 0)
        refine jr.iald (i := 0) (x := v9) rfl (Nat.lt_trans (kx_7 k8.2).1 (by decide)) (kx_7 k8.2).2 (by decide) (by omega) (by omega) e9 ?_
        refine jr_s rfl rfl (Or.inl rfl) ⟨Nat.le_of_ble_eq_true rfl, Nat.le_of_ble_eq_true rfl⟩ rfl rfl (jc.deep (c_Flow_hasEnd_x hC_M k_x (by omega) (by omega) (by omega) (fun r10 z10 w10_0 => ?_)) (by decide))
        refine jr.if_eq rfl rfl (by omega) (fun h48 => ?_) (fun h48 => ?_)
        · refine jr.aload_n rfl rfl ?_
          obtain ⟨v11, e11⟩ : ∃ z_, M t 13 = z_ := ⟨_, rfl⟩
          have b11 : (-2147483648) ≤ v11 ∧ v11 ≤ 2147483647 := by rw [← e11]; exact (CI.r hC_M k_t (by decide) 13)
          refine jr.getf (i := 13) (x := v11) (v := .int (Int32.ofInt (v11))) rfl rfl (Nat.lt_trans (kx_1 k_t).1 (by decide)) (kx_1 k_t).2 (by decide) rfl rfl e11 rfl ?_
          refine jr.iconst rfl ?_
          refine jr.icmp_ne rfl rfl (by omega) (by omega) (fun h78 => ?_) (fun h78 => ?_)
          · refine jr.aload_n rfl rfl ?_
            refine jr.iconst rfl ?_
            refine jr.aload_n rfl rfl ?_
            obtain ⟨v12, e12⟩ : ∃ z_, M t 14 = z_ := ⟨_, rfl⟩
            have b12 : (-9223372036854775808) ≤ v12 ∧ v12 ≤ 9223372036854775807 := by rw [← e12]; exact (CI.r hC_M k_t (by decide) 14)
            refine jr.getf (i := 14) (x := v12) (v := .long (Int64.ofInt (v12))) rfl rfl (Nat.lt_trans (kx_1 k_t).1 (by decide)) (kx_1 k_t).2 (by decide) rfl rfl e12 rfl ?_
            refine jr.aload_n rfl rfl ?_
            obtain ⟨v13, e13⟩ : ∃ z_, M t 15 = z_ := ⟨_, rfl⟩
            have b13 : (-2147483648) ≤ v13 ∧ v13 ≤ 2147483647 := by rw [← e13]; exact (CI.r hC_M k_t (by decide) 15)
            refine jr.getf (i := 15) (x := v13) (v := .int (Int32.ofInt (v13))) rfl rfl (Nat.lt_trans (kx_1 k_t).1 (by decide)) (kx_1 k_t).2 (by decide) rfl rfl e13 rfl ?_
            refine jr_s rfl rfl (Or.inl rfl) ⟨Nat.le_of_ble_eq_true rfl, Nat.le_of_ble_eq_true rfl⟩ rfl rfl (jc.deep (c_Flow_hasEnd_x hC_M k_x (by omega) (by omega) (by omega) (fun r14 z14 w14_0 => ?_)) (by decide))
            refine jr.istore_n (ls' := [_, _, _]) rfl (by decide) rfl ?_
            refine jr.iload_n rfl rfl ?_
            refine jr.if_eq rfl rfl (by omega) (fun h116 => ?_) (fun h116 => ?_)
            · refine jr.iconst rfl ?_
              exact jr.ireturn rfl rfl rfl (q _ (by omega) (by rw [sd_m (by omega) (by omega) (by omega)]))
            · have sx116 : (1 : Int) ≤ r14 := by omega
              clear h116
              refine jr.aload_n rfl rfl ?_
              refine jr.iconst rfl ?_
              refine jr.aload_n rfl rfl ?_
              have k15 := kf_1_3 k_t
              refine jr.getf (i := 3) (v := .ref (t + 1)) rfl rfl (Nat.lt_trans (kx_1 k_t).1 (by decide)) (kx_1 k_t).2 (by decide) rfl rfl rfl (jval_ref rfl k15.1) ?_
              refine jr.iconst rfl ?_
              obtain ⟨v16, e16⟩ : ∃ z_, M ((t + 1)) 1 = z_ := ⟨_, rfl⟩
              have b16 : (-9223372036854775808) ≤ v16 ∧ v16 ≤ 9223372036854775807 := by rw [← e16]; exact (CI.r hC_M k15.2 (by decide) 1)
              refine jr.lald (i := 1) (x := v16) rfl (Nat.lt_trans (kx_2 k15.2).1 (by decide)) (kx_2 k15.2).2 (by decide) (by omega) (by omega) e16 ?_
              refine jr.aload_n rfl rfl ?_
              have k17 := kf_1_4 k_t
              refine jr.getf (i := 4) (v := .ref (t + 2)) rfl rfl (Nat.lt_trans (kx_1 k_t).1 (by decide)) (kx_1 k_t).2 (by decide) rfl rfl rfl (jval_ref rfl k17.1) ?_
              refine jr.iconst rfl ?_
              obtain ⟨v18, e18⟩ : ∃ z_, M ((t + 2)) 1 = z_ := ⟨_, rfl⟩
              have b18 : (-2147483648) ≤ v18 ∧ v18 ≤ 2147483647 := by rw [← e18]; exact (CI.r hC_M k17.2 (by decide) 1)
              refine jr.iald (i := 1) (x := v18) rfl (Nat.lt_trans (kx_7 k17.2).1 (by decide)) (kx_7 k17.2).2 (by decide) (by omega) (by omega) e18 ?_
              refine jr_s rfl rfl (Or.inl rfl) ⟨Nat.le_of_ble_eq_true rfl, Nat.le_of_ble_eq_true rfl⟩ rfl rfl (jc.deep (c_Flow_hasEnd_x hC_M k_x (by omega) (by omega) (by omega) (fun r19 z19 w19_0 => ?_)) (by decide))
              refine jr.if_eq rfl rfl (by omega) (fun h136 => ?_) (fun h136 => ?_)
              · refine jr.iconst rfl ?_
                exact jr.ireturn rfl rfl rfl (q _ (by omega) (by rw [sd_m (by omega) (by omega) (by omega)]))
              · have sx136 : (1 : Int) ≤ r19 := by omega
                clear h136
                refine jr.iconst rfl ?_
                refine jr.goto rfl rfl ?_
                exact jr.ireturn rfl rfl rfl (q _ (by omega) (by rw [sd_1 (by omega) (by omega) (by omega) (by omega)]))
          · refine jr.aload_n rfl rfl ?_
            refine jr.iconst rfl ?_
            refine jr.aload_n rfl rfl ?_
            have k20 := kf_1_3 k_t
            refine jr.getf (i := 3) (v := .ref (t + 1)) rfl rfl (Nat.lt_trans (kx_1 k_t).1 (by decide)) (kx_1 k_t).2 (by decide) rfl rfl rfl (jval_ref rfl k20.1) ?_
            refine jr.iconst rfl ?_
            refine jr.lald (i := 0) (x := v7) rfl (Nat.lt_trans (kx_2 k20.2).1 (by decide)) (kx_2 k20.2).2 (by decide) (by omega) (by omega) e7 ?_
            refine jr.aload_n rfl rfl ?_
            have k21 := kf_1_4 k_t
            refine jr.getf (i := 4) (v := .ref (t + 2)) rfl rfl (Nat.lt_trans (kx_1 k_t).1 (by decide)) (kx_1 k_t).2 (by decide) rfl rfl rfl (jval_ref rfl k21.1) ?_
            refine jr.iconst rfl ?_
            refine jr.iald (i := 0) (x := v9) rfl (Nat.lt_trans (kx_7 k21.2).1 (by decide)) (kx_7 k21.2).2 (by decide) (by omega) (by omega) e9 ?_
            refine jr_s rfl rfl (Or.inl rfl) ⟨Nat.le_of_ble_eq_true rfl, Nat.le_of_ble_eq_true rfl⟩ rfl rfl (jc.deep (c_Flow_hasEnd_x hC_M k_x (by omega) (by omega) (by omega) (fun r22 z22 w22_0 => ?_)) (by decide))
            refine jr.goto rfl rfl ?_
            refine jr.istore_n (ls' := [_, _, _]) rfl (by decide) rfl ?_
            refine jr.iload_n rfl rfl ?_
            refine jr.if_eq rfl rfl (by omega) (fun h116 => ?_) (fun h116 => ?_)
            · refine jr.iconst rfl ?_
              exact jr.ireturn rfl rfl rfl (q _ (by omega) (by rw [sd_m (by omega) (by omega) (by omega)]))
            · have sx116 : (1 : Int) ≤ r22 := by omega
              clear h116
              refine jr.aload_n rfl rfl ?_
              refine jr.iconst rfl ?_
              refine jr.aload_n rfl rfl ?_
              have k23 := kf_1_3 k_t
              refine jr.getf (i := 3) (v := .ref (t + 1)) rfl rfl (Nat.lt_trans (kx_1 k_t).1 (by decide)) (kx_1 k_t).2 (by decide) rfl rfl rfl (jval_ref rfl k23.1) ?_
              refine jr.iconst rfl ?_
              obtain ⟨v24, e24⟩ : ∃ z_, M ((t + 1)) 1 = z_ := ⟨_, rfl⟩
              have b24 : (-9223372036854775808) ≤ v24 ∧ v24 ≤ 9223372036854775807 := by rw [← e24]; exact (CI.r hC_M k23.2 (by decide) 1)
              refine jr.lald (i := 1) (x := v24) rfl (Nat.lt_trans (kx_2 k23.2).1 (by decide)) (kx_2 k23.2).2 (by decide) (by omega) (by omega) e24 ?_
              refine jr.aload_n rfl rfl ?_
              have k25 := kf_1_4 k_t
              refine jr.getf (i := 4) (v := .ref (t + 2)) rfl rfl (Nat.lt_trans (kx_1 k_t).1 (by decide)) (kx_1 k_t).2 (by decide) rfl rfl rfl (jval_ref rfl k25.1) ?_
              refine jr.iconst rfl ?_
              obtain ⟨v26, e26⟩ : ∃ z_, M ((t + 2)) 1 = z_ := ⟨_, rfl⟩
              have b26 : (-2147483648) ≤ v26 ∧ v26 ≤ 2147483647 := by rw [← e26]; exact (CI.r hC_M k25.2 (by decide) 1)
              refine jr.iald (i := 1) (x := v26) rfl (Nat.lt_trans (kx_7 k25.2).1 (by decide)) (kx_7 k25.2).2 (by decide) (by omega) (by omega) e26 ?_
              refine jr_s rfl rfl (Or.inl rfl) ⟨Nat.le_of_ble_eq_true rfl, Nat.le_of_ble_eq_true rfl⟩ rfl rfl (jc.deep (c_Flow_hasEnd_x hC_M k_x (by omega) (by omega) (by omega) (fun r27 z27 w27_0 => ?_)) (by decide))
              refine jr.if_eq rfl rfl (by omega) (fun h136 => ?_) (fun h136 => ?_)
              · refine jr.iconst rfl ?_
                exact jr.ireturn rfl rfl rfl (q _ (by omega) (by rw [sd_m (by omega) (by omega) (by omega)]))
              · have sx136 : (1 : Int) ≤ r27 := by omega
                clear h136
                refine jr.iconst rfl ?_
                refine jr.goto rfl rfl ?_
                exact jr.ireturn rfl rfl rfl (q _ (by omega) (by rw [sd_1 (by omega) (by omega) (by omega) (by omega)]))
        · have sx48 : (1 : Int) ≤ r10 := by omega
          clear h48
          refine jr.aload_n rfl rfl ?_
          refine jr.iconst rfl ?_
          refine jr.aload_n rfl rfl ?_
          have k28 := kf_1_3 k_t
          refine jr.getf (i := 3) (v := .ref (t + 1)) rfl rfl (Nat.lt_trans (kx_1 k_t).1 (by decide)) (kx_1 k_t).2 (by decide) rfl rfl rfl (jval_ref rfl k28.1) ?_
          refine jr.iconst rfl ?_
          obtain ⟨v29, e29⟩ : ∃ z_, M ((t + 1)) 1 = z_ := ⟨_, rfl⟩
          have b29 : (-9223372036854775808) ≤ v29 ∧ v29 ≤ 9223372036854775807 := by rw [← e29]; exact (CI.r hC_M k28.2 (by decide) 1)
          refine jr.lald (i := 1) (x := v29) rfl (Nat.lt_trans (kx_2 k28.2).1 (by decide)) (kx_2 k28.2).2 (by decide) (by omega) (by omega) e29 ?_
          refine jr.aload_n rfl rfl ?_
          have k30 := kf_1_4 k_t
          refine jr.getf (i := 4) (v := .ref (t + 2)) rfl rfl (Nat.lt_trans (kx_1 k_t).1 (by decide)) (kx_1 k_t).2 (by decide) rfl rfl rfl (jval_ref rfl k30.1) ?_
          refine jr.iconst rfl ?_
          obtain ⟨v31, e31⟩ : ∃ z_, M ((t + 2)) 1 = z_ := ⟨_, rfl⟩
          have b31 : (-2147483648) ≤ v31 ∧ v31 ≤ 2147483647 := by rw [← e31]; exact (CI.r hC_M k30.2 (by decide) 1)
          refine jr.iald (i := 1) (x := v31) rfl (Nat.lt_trans (kx_7 k30.2).1 (by decide)) (kx_7 k30.2).2 (by decide) (by omega) (by omega) e31 ?_
          refine jr_s rfl rfl (Or.inl rfl) ⟨Nat.le_of_ble_eq_true rfl, Nat.le_of_ble_eq_true rfl⟩ rfl rfl (jc.deep (c_Flow_hasEnd_x hC_M k_x (by omega) (by omega) (by omega) (fun r32 z32 w32_0 => ?_)) (by decide))
          refine jr.if_eq rfl rfl (by omega) (fun h68 => ?_) (fun h68 => ?_)
          · refine jr.aload_n rfl rfl ?_
            obtain ⟨v33, e33⟩ : ∃ z_, M t 13 = z_ := ⟨_, rfl⟩
            have b33 : (-2147483648) ≤ v33 ∧ v33 ≤ 2147483647 := by rw [← e33]; exact (CI.r hC_M k_t (by decide) 13)
            refine jr.getf (i := 13) (x := v33) (v := .int (Int32.ofInt (v33))) rfl rfl (Nat.lt_trans (kx_1 k_t).1 (by decide)) (kx_1 k_t).2 (by decide) rfl rfl e33 rfl ?_
            refine jr.iconst rfl ?_
            refine jr.icmp_ne rfl rfl (by omega) (by omega) (fun h78 => ?_) (fun h78 => ?_)
            · refine jr.aload_n rfl rfl ?_
              refine jr.iconst rfl ?_
              refine jr.aload_n rfl rfl ?_
              obtain ⟨v34, e34⟩ : ∃ z_, M t 14 = z_ := ⟨_, rfl⟩
              have b34 : (-9223372036854775808) ≤ v34 ∧ v34 ≤ 9223372036854775807 := by rw [← e34]; exact (CI.r hC_M k_t (by decide) 14)
              refine jr.getf (i := 14) (x := v34) (v := .long (Int64.ofInt (v34))) rfl rfl (Nat.lt_trans (kx_1 k_t).1 (by decide)) (kx_1 k_t).2 (by decide) rfl rfl e34 rfl ?_
              refine jr.aload_n rfl rfl ?_
              obtain ⟨v35, e35⟩ : ∃ z_, M t 15 = z_ := ⟨_, rfl⟩
              have b35 : (-2147483648) ≤ v35 ∧ v35 ≤ 2147483647 := by rw [← e35]; exact (CI.r hC_M k_t (by decide) 15)
              refine jr.getf (i := 15) (x := v35) (v := .int (Int32.ofInt (v35))) rfl rfl (Nat.lt_trans (kx_1 k_t).1 (by decide)) (kx_1 k_t).2 (by decide) rfl rfl e35 rfl ?_
              refine jr_s rfl rfl (Or.inl rfl) ⟨Nat.le_of_ble_eq_true rfl, Nat.le_of_ble_eq_true rfl⟩ rfl rfl (jc.deep (c_Flow_hasEnd_x hC_M k_x (by omega) (by omega) (by omega) (fun r36 z36 w36_0 => ?_)) (by decide))
              refine jr.istore_n (ls' := [_, _, _]) rfl (by decide) rfl ?_
              refine jr.iload_n rfl rfl ?_
              refine jr.if_eq rfl rfl (by omega) (fun h116 => ?_) (fun h116 => ?_)
              · refine jr.iconst rfl ?_
                exact jr.ireturn rfl rfl rfl (q _ (by omega) (by rw [sd_m (by omega) (by omega) (by omega)]))
              · have sx116 : (1 : Int) ≤ r36 := by omega
                clear h116
                refine jr.aload_n rfl rfl ?_
                refine jr.iconst rfl ?_
                refine jr.aload_n rfl rfl ?_
                have k37 := kf_1_3 k_t
                refine jr.getf (i := 3) (v := .ref (t + 1)) rfl rfl (Nat.lt_trans (kx_1 k_t).1 (by decide)) (kx_1 k_t).2 (by decide) rfl rfl rfl (jval_ref rfl k37.1) ?_
                refine jr.iconst rfl ?_
                refine jr.lald (i := 1) (x := v29) rfl (Nat.lt_trans (kx_2 k37.2).1 (by decide)) (kx_2 k37.2).2 (by decide) (by omega) (by omega) e29 ?_
                refine jr.aload_n rfl rfl ?_
                have k38 := kf_1_4 k_t
                refine jr.getf (i := 4) (v := .ref (t + 2)) rfl rfl (Nat.lt_trans (kx_1 k_t).1 (by decide)) (kx_1 k_t).2 (by decide) rfl rfl rfl (jval_ref rfl k38.1) ?_
                refine jr.iconst rfl ?_
                refine jr.iald (i := 1) (x := v31) rfl (Nat.lt_trans (kx_7 k38.2).1 (by decide)) (kx_7 k38.2).2 (by decide) (by omega) (by omega) e31 ?_
                refine jr_s rfl rfl (Or.inl rfl) ⟨Nat.le_of_ble_eq_true rfl, Nat.le_of_ble_eq_true rfl⟩ rfl rfl (jc.deep (c_Flow_hasEnd_x hC_M k_x (by omega) (by omega) (by omega) (fun r39 z39 w39_0 => ?_)) (by decide))
                refine jr.if_eq rfl rfl (by omega) (fun h136 => ?_) (fun h136 => ?_)
                · refine jr.iconst rfl ?_
                  exact jr.ireturn rfl rfl rfl (q _ (by omega) (by rw [sd_m (by omega) (by omega) (by omega)]))
                · have sx136 : (1 : Int) ≤ r39 := by omega
                  clear h136
                  refine jr.iconst rfl ?_
                  refine jr.goto rfl rfl ?_
                  exact jr.ireturn rfl rfl rfl (q _ (by omega) (by rw [sd_1 (by omega) (by omega) (by omega) (by omega)]))
            · refine jr.aload_n rfl rfl ?_
              refine jr.iconst rfl ?_
              refine jr.aload_n rfl rfl ?_
              have k40 := kf_1_3 k_t
              refine jr.getf (i := 3) (v := .ref (t + 1)) rfl rfl (Nat.lt_trans (kx_1 k_t).1 (by decide)) (kx_1 k_t).2 (by decide) rfl rfl rfl (jval_ref rfl k40.1) ?_
              refine jr.iconst rfl ?_
              refine jr.lald (i := 0) (x := v7) rfl (Nat.lt_trans (kx_2 k40.2).1 (by decide)) (kx_2 k40.2).2 (by decide) (by omega) (by omega) e7 ?_
              refine jr.aload_n rfl rfl ?_
              have k41 := kf_1_4 k_t
              refine jr.getf (i := 4) (v := .ref (t + 2)) rfl rfl (Nat.lt_trans (kx_1 k_t).1 (by decide)) (kx_1 k_t).2 (by decide) rfl rfl rfl (jval_ref rfl k41.1) ?_
              refine jr.iconst rfl ?_
              refine jr.iald (i := 0) (x := v9) rfl (Nat.lt_trans (kx_7 k41.2).1 (by decide)) (kx_7 k41.2).2 (by decide) (by omega) (by omega) e9 ?_
              refine jr_s rfl rfl (Or.inl rfl) ⟨Nat.le_of_ble_eq_true rfl, Nat.le_of_ble_eq_true rfl⟩ rfl rfl (jc.deep (c_Flow_hasEnd_x hC_M k_x (by omega) (by omega) (by omega) (fun r42 z42 w42_0 => ?_)) (by decide))
              refine jr.goto rfl rfl ?_
              refine jr.istore_n (ls' := [_, _, _]) rfl (by decide) rfl ?_
              refine jr.iload_n rfl rfl ?_
              refine jr.if_eq rfl rfl (by omega) (fun h116 => ?_) (fun h116 => ?_)
              · refine jr.iconst rfl ?_
                exact jr.ireturn rfl rfl rfl (q _ (by omega) (by rw [sd_m (by omega) (by omega) (by omega)]))
              · have sx116 : (1 : Int) ≤ r42 := by omega
                clear h116
                refine jr.aload_n rfl rfl ?_
                refine jr.iconst rfl ?_
                refine jr.aload_n rfl rfl ?_
                have k43 := kf_1_3 k_t
                refine jr.getf (i := 3) (v := .ref (t + 1)) rfl rfl (Nat.lt_trans (kx_1 k_t).1 (by decide)) (kx_1 k_t).2 (by decide) rfl rfl rfl (jval_ref rfl k43.1) ?_
                refine jr.iconst rfl ?_
                refine jr.lald (i := 1) (x := v29) rfl (Nat.lt_trans (kx_2 k43.2).1 (by decide)) (kx_2 k43.2).2 (by decide) (by omega) (by omega) e29 ?_
                refine jr.aload_n rfl rfl ?_
                have k44 := kf_1_4 k_t
                refine jr.getf (i := 4) (v := .ref (t + 2)) rfl rfl (Nat.lt_trans (kx_1 k_t).1 (by decide)) (kx_1 k_t).2 (by decide) rfl rfl rfl (jval_ref rfl k44.1) ?_
                refine jr.iconst rfl ?_
                refine jr.iald (i := 1) (x := v31) rfl (Nat.lt_trans (kx_7 k44.2).1 (by decide)) (kx_7 k44.2).2 (by decide) (by omega) (by omega) e31 ?_
                refine jr_s rfl rfl (Or.inl rfl) ⟨Nat.le_of_ble_eq_true rfl, Nat.le_of_ble_eq_true rfl⟩ rfl rfl (jc.deep (c_Flow_hasEnd_x hC_M k_x (by omega) (by omega) (by omega) (fun r45 z45 w45_0 => ?_)) (by decide))
                refine jr.if_eq rfl rfl (by omega) (fun h136 => ?_) (fun h136 => ?_)
                · refine jr.iconst rfl ?_
                  exact jr.ireturn rfl rfl rfl (q _ (by omega) (by rw [sd_m (by omega) (by omega) (by omega)]))
                · have sx136 : (1 : Int) ≤ r45 := by omega
                  clear h136
                  refine jr.iconst rfl ?_
                  refine jr.goto rfl rfl ?_
                  exact jr.ireturn rfl rfl rfl (q _ (by omega) (by rw [sd_1 (by omega) (by omega) (by omega) (by omega)]))
          · have sx68 : (1 : Int) ≤ r32 := by omega
            clear h68
            refine jr.iconst rfl ?_
            exact jr.ireturn rfl rfl rfl (q _ (by omega) (by rw [sd_0 (by omega) (by omega)]))
      · refine jr.iconst rfl ?_
        exact jr.ireturn rfl rfl rfl (q _ (by omega) (by rw [sd_n (by omega)]))
end
