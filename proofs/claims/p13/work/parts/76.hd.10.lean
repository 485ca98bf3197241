section
theorem r_valueOf_x {A : Nat → Option (Nat × (Nat → Int32))} {Q : Option Value → jm → Prop} {M : jm} (hI_M : RI M) (hH_M : RH M) (hS_M : RF M) {x : Int} (h_x : 0 ≤ x ∧ x ≤ 23) {k : Int} (h_k : 0 ≤ k ∧ k ≤ 11) {a : Int} (h_a : 0 ≤ a ∧ a ≤ 400) {m : Int} (h_m : 0 ≤ m ∧ m ≤ 400) {f : Int} (h_f : 0 ≤ f ∧ f ≤ 10) (p0 : a + lst k ≤ 400) (p1 : f < xcv_2 k) (q : ∀ (r : Int), (-9223372036854775808) ≤ r ∧ r ≤ 9223372036854775807 → r = vof (rf M x) m k a f → Q (some (.long (Int64.ofInt r))) M) : jc A 6 275 [.ref (598), .int (Int32.ofInt (x)), .int (Int32.ofInt (k)), .int (Int32.ofInt (a)), .int (Int32.ofInt (m)), .int (Int32.ofInt (f))] M Q := by
  rcases (show k = 0 ∨ k = 1 ∨ k = 2 ∨ k = 3 ∨ k = 4 ∨ k = 5 ∨ k = 6 ∨ k = 7 ∨ k = 8 ∨ k = 9 ∨ k = 10 ∨ k = 11 by omega) with rfl | rfl | rfl | rfl | rfl | rfl | rfl | rfl | rfl | rfl | rfl | rfl
  · have lk : lst 0 = 4 := rfl
    have fk : xcv_2 0 = 3 := (by decide +kernel)
    refine jc_of (m := xm_275) rfl (Nat.le_of_ble_eq_true rfl) rfl ?_
    refine jr.iload_n rfl rfl ?_
    refine jr.tsw_k 0 rfl rfl rfl ?_
    refine jr.iload rfl rfl ?_
    refine jr.iconst rfl ?_
    refine jr.icmp_ne rfl rfl (by omega) (by omega) (fun h63 => ?_) (fun h63 => ?_)
    · refine jr.aload_n rfl rfl ?_
      refine jr.iload_n rfl rfl ?_
      refine jr.iload_n rfl rfl ?_
      refine jr.iload rfl rfl ?_
      refine jr.iadd rfl ?_
      refine jr_v rfl rfl (Or.inl rfl) rfl rfl (by decide) rfl ⟨rfl, Nat.le_of_ble_eq_true rfl, Nat.le_of_ble_eq_true rfl⟩ rfl (jc.deep (r_one hI_M hH_M hS_M (Kp.rfl _) (by omega) (by omega)  (fun r1 z1 w1_0 => ?_)) (by decide))
      refine jr.i2l rfl (by omega) ?_
      exact jr.lreturn rfl rfl (q _ (by omega) (by rcases (show f = 0 ∨ f = 1 ∨ f = 2 by omega) with rfl | rfl | rfl <;> first | (exfalso; omega) | (have hw := w1_0; (try simp only [Int.reduceMul, Int.add_zero] at hw); simp only [vof_0_0, vof_0_1, vof_0_2, nbs_1, nbs_2t, Int.add_zero, rf_a]; omega)))
    · refine jr.aload_n rfl rfl ?_
      refine jr.iload_n rfl rfl ?_
      refine jr.iload_n rfl rfl ?_
      refine jr.iconst rfl ?_
      refine jr.iadd rfl ?_
      refine jr_v rfl rfl (Or.inl rfl) rfl rfl (by decide) rfl ⟨rfl, Nat.le_of_ble_eq_true rfl, Nat.le_of_ble_eq_true rfl⟩ rfl (jc.deep (r_two_x hI_M hH_M hS_M  (by omega) (by omega)  (fun r2 z2 w2_0 => ?_)) (by decide))
      refine jr.i2l rfl (by omega) ?_
      refine jr.goto rfl rfl ?_
      exact jr.lreturn rfl rfl (q _ (by omega) (by rcases (show f = 0 ∨ f = 1 ∨ f = 2 by omega) with rfl | rfl | rfl <;> first | (exfalso; omega) | (have hw := w2_0; (try simp only [Int.reduceMul, Int.add_zero] at hw); simp only [vof_0_0, vof_0_1, vof_0_2, nbs_1, nbs_2t, Int.add_zero, rf_a]; omega)))
  · have lk : lst 1 = 4 := rfl
    have fk : xcv_2 1 = 3 := (by decide +kernel)
    refine jc_of (m := xm_275) rfl (Nat.le_of_ble_eq_true rfl) rfl ?_
    refine jr.iload_n rfl rfl ?_
    refine jr.tsw_k 1 rfl rfl rfl ?_
    refine jr.iload rfl rfl ?_
    refine jr.if_ne rfl rfl (by omega) (fun h91 => ?_) (fun h91 => ?_)
    · have sx91 : (1 : Int) ≤ f := by omega
      clear h91
      refine jr.iload rfl rfl ?_
      refine jr.iconst rfl ?_
      refine jr.icmp_ne rfl rfl (by omega) (by omega) (fun h110 => ?_) (fun h110 => ?_)
      · have sx110 : (2 : Int) ≤ f := by omega
        clear h110
        refine jr.aload_n rfl rfl ?_
        refine jr.iload_n rfl rfl ?_
        refine jr.iload_n rfl rfl ?_
        refine jr.iconst rfl ?_
        refine jr.iadd rfl ?_
        refine jr_v rfl rfl (Or.inl rfl) rfl rfl (by decide) rfl ⟨rfl, Nat.le_of_ble_eq_true rfl, Nat.le_of_ble_eq_true rfl⟩ rfl (jc.deep (r_two_x hI_M hH_M hS_M  (by omega) (by omega)  (fun r1 z1 w1_0 => ?_)) (by decide))
        refine jr.i2l rfl (by omega) ?_
        exact jr.lreturn rfl rfl (q _ (by omega) (by rcases (show f = 0 ∨ f = 1 ∨ f = 2 by omega) with rfl | rfl | rfl <;> first | (exfalso; omega) | (have hw := w1_0; (try simp only [Int.reduceMul, Int.add_zero] at hw); simp only [vof_1_0, vof_1_1, vof_1_2, nbs_1, nbs_2t, Int.add_zero, rf_a]; omega)))
      · refine jr.aload_n rfl rfl ?_
        refine jr.iload_n rfl rfl ?_
        refine jr.iload_n rfl rfl ?_
        refine jr_v rfl rfl (Or.inl rfl) rfl rfl (by decide) rfl ⟨rfl, Nat.le_of_ble_eq_true rfl, Nat.le_of_ble_eq_true rfl⟩ rfl (jc.deep (r_two_x hI_M hH_M hS_M  (by omega) (by omega)  (fun r2 z2 w2_0 => ?_)) (by decide))
        refine jr.sipush rfl (by decide) ?_
        refine jr.iand rfl ?_
        have b3 : j_and r2 4095 = r2 % 4096 := j_and_m 12 (by decide) _
        generalize j_and r2 4095 = v3 at b3 ⊢
        refine jr.i2l rfl (by omega) ?_
        refine jr.goto rfl rfl ?_
        exact jr.lreturn rfl rfl (q _ (by omega) (by rcases (show f = 0 ∨ f = 1 ∨ f = 2 by omega) with rfl | rfl | rfl <;> first | (exfalso; omega) | (have hw := w2_0; (try simp only [Int.reduceMul, Int.add_zero] at hw); simp only [vof_1_0, vof_1_1, vof_1_2, nbs_1, nbs_2t, Int.add_zero, rf_a]; omega)))
    · refine jr.aload_n rfl rfl ?_
      refine jr.iload_n rfl rfl ?_
      refine jr.iload_n rfl rfl ?_
      refine jr_v rfl rfl (Or.inl rfl) rfl rfl (by decide) rfl ⟨rfl, Nat.le_of_ble_eq_true rfl, Nat.le_of_ble_eq_true rfl⟩ rfl (jc.deep (r_two_x hI_M hH_M hS_M  (by omega) (by omega)  (fun r4 z4 w4_0 => ?_)) (by decide))
      refine jr.bipush rfl (by decide) ?_
      refine jr.ishr rfl ?_
      have b5 : j_shr r4 12 = r4 / 4096 := j_shr_ex 12 (by decide) (by omega) (by omega)
      generalize j_shr r4 12 = v5 at b5 ⊢
      refine jr.i2l rfl (by omega) ?_
      refine jr.goto rfl rfl ?_
      exact jr.lreturn rfl rfl (q _ (by omega) (by rcases (show f = 0 ∨ f = 1 ∨ f = 2 by omega) with rfl | rfl | rfl <;> first | (exfalso; omega) | (have hw := w4_0; (try simp only [Int.reduceMul, Int.add_zero] at hw); simp only [vof_1_0, vof_1_1, vof_1_2, nbs_1, nbs_2t, Int.add_zero, rf_a]; omega)))
  · have lk : lst 2 = 20 := rfl
    have fk : xcv_2 2 = 11 := (by decide +kernel)
    refine jc_of (m := xm_275) rfl (Nat.le_of_ble_eq_true rfl) rfl ?_
    refine jr.iload_n rfl rfl ?_
    refine jr.tsw_k 2 rfl rfl rfl ?_
    refine jr.aload_n rfl rfl ?_
    refine jr.iload_n rfl rfl ?_
    refine jr.iload_n rfl rfl ?_
    refine jr.iload rfl rfl ?_
    refine jr_v rfl rfl (Or.inl rfl) rfl rfl (by decide) rfl ⟨rfl, Nat.le_of_ble_eq_true rfl, Nat.le_of_ble_eq_true rfl⟩ rfl (jc.deep (r_ofFour_x hI_M hH_M hS_M  (by omega) (by omega) (by omega)  (fun r1 z1 w1_0 => ?_)) (by decide))
    exact jr.lreturn rfl rfl (q _ (by omega) (w1_0 m))
  · have lk : lst 3 = 24 := rfl
    have fk : xcv_2 3 = 7 := (by decide +kernel)
    refine jc_of (m := xm_275) rfl (Nat.le_of_ble_eq_true rfl) rfl ?_
    refine jr.iload_n rfl rfl ?_
    refine jr.tsw_k 3 rfl rfl rfl ?_
    refine jr.aload_n rfl rfl ?_
    refine jr.iload_n rfl rfl ?_
    refine jr.iload_n rfl rfl ?_
    refine jr.iload rfl rfl ?_
    refine jr_v rfl rfl (Or.inl rfl) rfl rfl (by decide) rfl ⟨rfl, Nat.le_of_ble_eq_true rfl, Nat.le_of_ble_eq_true rfl⟩ rfl (jc.deep (r_ofSix_x hI_M hH_M hS_M  (by omega) (by omega) (by omega)  (fun r1 z1 w1_0 => ?_)) (by decide))
    exact jr.lreturn rfl rfl (q _ (by omega) (w1_0 m))
  · have lk : lst 4 = 8 := rfl
    have fk : xcv_2 4 = 2 := (by decide +kernel)
    refine jc_of (m := xm_275) rfl (Nat.le_of_ble_eq_true rfl) rfl ?_
    refine jr.iload_n rfl rfl ?_
    refine jr.tsw_k 4 rfl rfl rfl ?_
    refine jr.aload_n rfl rfl ?_
    refine jr.iload_n rfl rfl ?_
    refine jr.iload_n rfl rfl ?_
    refine jr.iload rfl rfl ?_
    refine jr.iadd rfl ?_
    refine jr_v rfl rfl (Or.inl rfl) rfl rfl (by decide) rfl ⟨rfl, Nat.le_of_ble_eq_true rfl, Nat.le_of_ble_eq_true rfl⟩ rfl (jc.deep (r_one hI_M hH_M hS_M (Kp.rfl _) (by omega) (by omega)  (fun r1 z1 w1_0 => ?_)) (by decide))
    refine jr.i2l rfl (by omega) ?_
    exact jr.lreturn rfl rfl (q _ (by omega) (by rcases (show f = 0 ∨ f = 1 by omega) with rfl | rfl <;> first | (exfalso; omega) | (have hw := w1_0; (try simp only [Int.reduceMul, Int.add_zero] at hw); simp only [vof_4_0, vof_4_1, nbs_1, nbs_2t, Int.add_zero, rf_a]; omega)))
  · have lk : lst 5 = 8 := rfl
    have fk : xcv_2 5 = 3 := (by decide +kernel)
    refine jc_of (m := xm_275) rfl (Nat.le_of_ble_eq_true rfl) rfl ?_
    refine jr.iload_n rfl rfl ?_
    refine jr.tsw_k 5 rfl rfl rfl ?_
    refine jr.aload_n rfl rfl ?_
    refine jr.iload_n rfl rfl ?_
    refine jr.iload_n rfl rfl ?_
    refine jr.iload rfl rfl ?_
    refine jr.iadd rfl ?_
    refine jr_v rfl rfl (Or.inl rfl) rfl rfl (by decide) rfl ⟨rfl, Nat.le_of_ble_eq_true rfl, Nat.le_of_ble_eq_true rfl⟩ rfl (jc.deep (r_one hI_M hH_M hS_M (Kp.rfl _) (by omega) (by omega)  (fun r1 z1 w1_0 => ?_)) (by decide))
    refine jr.i2l rfl (by omega) ?_
    exact jr.lreturn rfl rfl (q _ (by omega) (by rcases (show f = 0 ∨ f = 1 ∨ f = 2 by omega) with rfl | rfl | rfl <;> first | (exfalso; omega) | (have hw := w1_0; (try simp only [Int.reduceMul, Int.add_zero] at hw); simp only [vof_5_0, vof_5_1, vof_5_2, nbs_1, nbs_2t, Int.add_zero, rf_a]; omega)))
  · have lk : lst 6 = 8 := rfl
    have fk : xcv_2 6 = 4 := (by decide +kernel)
    refine jc_of (m := xm_275) rfl (Nat.le_of_ble_eq_true rfl) rfl ?_
    refine jr.iload_n rfl rfl ?_
    refine jr.tsw_k 6 rfl rfl rfl ?_
    refine jr.iload rfl rfl ?_
    refine jr.if_ne rfl rfl (by omega) (fun h168 => ?_) (fun h168 => ?_)
    · have sx168 : (1 : Int) ≤ f := by omega
      clear h168
      refine jr.iload rfl rfl ?_
      refine jr.iconst rfl ?_
      refine jr.icmp_ne rfl rfl (by omega) (by omega) (fun h184 => ?_) (fun h184 => ?_)
      · have sx184 : (2 : Int) ≤ f := by omega
        clear h184
        refine jr.iload rfl rfl ?_
        refine jr.iconst rfl ?_
        refine jr.icmp_ne rfl rfl (by omega) (by omega) (fun h204 => ?_) (fun h204 => ?_)
        · have sx204 : (3 : Int) ≤ f := by omega
          clear h204
          refine jr.aload_n rfl rfl ?_
          refine jr.iload_n rfl rfl ?_
          refine jr.iload_n rfl rfl ?_
          refine jr.iconst rfl ?_
          refine jr.iadd rfl ?_
          refine jr_v rfl rfl (Or.inl rfl) rfl rfl (by decide) rfl ⟨rfl, Nat.le_of_ble_eq_true rfl, Nat.le_of_ble_eq_true rfl⟩ rfl (jc.deep (r_four_x hI_M hH_M hS_M  (by omega) (by omega)  (fun r1 z1 w1_0 => ?_)) (by decide))
          exact jr.lreturn rfl rfl (q _ (by omega) (by rcases (show f = 0 ∨ f = 1 ∨ f = 2 ∨ f = 3 by omega) with rfl | rfl | rfl | rfl <;> first | (exfalso; omega) | (have hw := w1_0; (try simp only [Int.reduceMul, Int.add_zero] at hw); simp only [vof_6_0, vof_6_1, vof_6_2, vof_6_3, nbs_1, nbs_2t, Int.add_zero, rf_a]; omega)))
        · refine jr.aload_n rfl rfl ?_
          refine jr.iload_n rfl rfl ?_
          refine jr.iload_n rfl rfl ?_
          refine jr.iconst rfl ?_
          refine jr.iadd rfl ?_
          refine jr_v rfl rfl (Or.inl rfl) rfl rfl (by decide) rfl ⟨rfl, Nat.le_of_ble_eq_true rfl, Nat.le_of_ble_eq_true rfl⟩ rfl (jc.deep (r_two_x hI_M hH_M hS_M  (by omega) (by omega)  (fun r2 z2 w2_0 => ?_)) (by decide))
          refine jr.iconst rfl ?_
          refine jr.iand rfl ?_
          have b3 : j_and r2 1 = r2 % 2 := j_and_m 1 (by decide) _
          generalize j_and r2 1 = v3 at b3 ⊢
          refine jr.i2l rfl (by omega) ?_
          refine jr.goto rfl rfl ?_
          exact jr.lreturn rfl rfl (q _ (by omega) (by rcases (show f = 0 ∨ f = 1 ∨ f = 2 ∨ f = 3 by omega) with rfl | rfl | rfl | rfl <;> first | (exfalso; omega) | (have hw := w2_0; (try simp only [Int.reduceMul, Int.add_zero] at hw); simp only [vof_6_0, vof_6_1, vof_6_2, vof_6_3, nbs_1, nbs_2t, Int.add_zero, rf_a]; omega)))
      · refine jr.aload_n rfl rfl ?_
        refine jr.iload_n rfl rfl ?_
        refine jr.iload_n rfl rfl ?_
        refine jr.iconst rfl ?_
        refine jr.iadd rfl ?_
        refine jr_v rfl rfl (Or.inl rfl) rfl rfl (by decide) rfl ⟨rfl, Nat.le_of_ble_eq_true rfl, Nat.le_of_ble_eq_true rfl⟩ rfl (jc.deep (r_two_x hI_M hH_M hS_M  (by omega) (by omega)  (fun r4 z4 w4_0 => ?_)) (by decide))
        refine jr.iconst rfl ?_
        refine jr.ishr rfl ?_
        have b5 : j_shr r4 3 = r4 / 8 := j_shr_ex 3 (by decide) (by omega) (by omega)
        generalize j_shr r4 3 = v5 at b5 ⊢
        refine jr.i2l rfl (by omega) ?_
        refine jr.goto rfl rfl ?_
        exact jr.lreturn rfl rfl (q _ (by omega) (by rcases (show f = 0 ∨ f = 1 ∨ f = 2 ∨ f = 3 by omega) with rfl | rfl | rfl | rfl <;> first | (exfalso; omega) | (have hw := w4_0; (try simp only [Int.reduceMul, Int.add_zero] at hw); simp only [vof_6_0, vof_6_1, vof_6_2, vof_6_3, nbs_1, nbs_2t, Int.add_zero, rf_a]; omega)))
    · refine jr.aload_n rfl rfl ?_
      refine jr.iload_n rfl rfl ?_
      refine jr.iload_n rfl rfl ?_
      refine jr_v rfl rfl (Or.inl rfl) rfl rfl (by decide) rfl ⟨rfl, Nat.le_of_ble_eq_true rfl, Nat.le_of_ble_eq_true rfl⟩ rfl (jc.deep (r_one hI_M hH_M hS_M (Kp.rfl _) (by omega) (by omega)  (fun r6 z6 w6_0 => ?_)) (by decide))
      refine jr.i2l rfl (by omega) ?_
      refine jr.goto rfl rfl ?_
      exact jr.lreturn rfl rfl (q _ (by omega) (by rcases (show f = 0 ∨ f = 1 ∨ f = 2 ∨ f = 3 by omega) with rfl | rfl | rfl | rfl <;> first | (exfalso; omega) | (have hw := w6_0; (try simp only [Int.reduceMul, Int.add_zero] at hw); simp only [vof_6_0, vof_6_1, vof_6_2, vof_6_3, nbs_1, nbs_2t, Int.add_zero, rf_a]; omega)))
  · have lk : lst 7 = 8 := rfl
    have fk : xcv_2 7 = 4 := (by decide +kernel)
    refine jc_of (m := xm_275) rfl (Nat.le_of_ble_eq_true rfl) rfl ?_
    refine jr.iload_n rfl rfl ?_
    refine jr.tsw_k 7 rfl rfl rfl ?_
    refine jr.iload rfl rfl ?_
    refine jr.iconst rfl ?_
    refine jr.icmp_ge rfl rfl (by omega) (by omega) (fun h233 => ?_) (fun h233 => ?_)
    · refine jr.iload rfl rfl ?_
      refine jr.iconst rfl ?_
      refine jr.icmp_ne rfl rfl (by omega) (by omega) (fun h252 => ?_) (fun h252 => ?_)
      · have sx252 : (3 : Int) ≤ f := by omega
        clear h252
        refine jr.aload_n rfl rfl ?_
        refine jr.iload_n rfl rfl ?_
        refine jr.iload_n rfl rfl ?_
        refine jr.iconst rfl ?_
        refine jr.iadd rfl ?_
        refine jr_v rfl rfl (Or.inl rfl) rfl rfl (by decide) rfl ⟨rfl, Nat.le_of_ble_eq_true rfl, Nat.le_of_ble_eq_true rfl⟩ rfl (jc.deep (r_four_x hI_M hH_M hS_M  (by omega) (by omega)  (fun r1 z1 w1_0 => ?_)) (by decide))
        exact jr.lreturn rfl rfl (q _ (by omega) (by rcases (show f = 0 ∨ f = 1 ∨ f = 2 ∨ f = 3 by omega) with rfl | rfl | rfl | rfl <;> first | (exfalso; omega) | (have hw := w1_0; (try simp only [Int.reduceMul, Int.add_zero] at hw); simp only [vof_7_0, vof_7_1, vof_7_2, vof_7_3, nbs_1, nbs_2t, Int.add_zero, rf_a]; omega)))
      · refine jr.aload_n rfl rfl ?_
        refine jr.iload_n rfl rfl ?_
        refine jr.iload_n rfl rfl ?_
        refine jr.iconst rfl ?_
        refine jr.iadd rfl ?_
        refine jr_v rfl rfl (Or.inl rfl) rfl rfl (by decide) rfl ⟨rfl, Nat.le_of_ble_eq_true rfl, Nat.le_of_ble_eq_true rfl⟩ rfl (jc.deep (r_two_x hI_M hH_M hS_M  (by omega) (by omega)  (fun r2 z2 w2_0 => ?_)) (by decide))
        refine jr.i2l rfl (by omega) ?_
        refine jr.goto rfl rfl ?_
        exact jr.lreturn rfl rfl (q _ (by omega) (by rcases (show f = 0 ∨ f = 1 ∨ f = 2 ∨ f = 3 by omega) with rfl | rfl | rfl | rfl <;> first | (exfalso; omega) | (have hw := w2_0; (try simp only [Int.reduceMul, Int.add_zero] at hw); simp only [vof_7_0, vof_7_1, vof_7_2, vof_7_3, nbs_1, nbs_2t, Int.add_zero, rf_a]; omega)))
    · refine jr.aload_n rfl rfl ?_
      refine jr.iload_n rfl rfl ?_
      refine jr.iload_n rfl rfl ?_
      refine jr.iload rfl rfl ?_
      refine jr.iadd rfl ?_
      refine jr_v rfl rfl (Or.inl rfl) rfl rfl (by decide) rfl ⟨rfl, Nat.le_of_ble_eq_true rfl, Nat.le_of_ble_eq_true rfl⟩ rfl (jc.deep (r_one hI_M hH_M hS_M (Kp.rfl _) (by omega) (by omega)  (fun r3 z3 w3_0 => ?_)) (by decide))
      refine jr.i2l rfl (by omega) ?_
      refine jr.goto rfl rfl ?_
      exact jr.lreturn rfl rfl (q _ (by omega) (by rcases (show f = 0 ∨ f = 1 ∨ f = 2 ∨ f = 3 by omega) with rfl | rfl | rfl | rfl <;> first | (exfalso; omega) | (have hw := w3_0; (try simp only [Int.reduceMul, Int.add_zero] at hw); simp only [vof_7_0, vof_7_1, vof_7_2, vof_7_3, nbs_1, nbs_2t, Int.add_zero, rf_a]; omega)))
  · have lk : lst 8 = 20 := rfl
    have fk : xcv_2 8 = 8 := (by decide +kernel)
    refine jc_of (m := xm_275) rfl (Nat.le_of_ble_eq_true rfl) rfl ?_
    refine jr.iload_n rfl rfl ?_
    refine jr.tsw_k 8 rfl rfl rfl ?_
    refine jr.aload_n rfl rfl ?_
    refine jr.iload_n rfl rfl ?_
    refine jr.iload_n rfl rfl ?_
    refine jr.iload rfl rfl ?_
    refine jr_v rfl rfl (Or.inl rfl) rfl rfl (by decide) rfl ⟨rfl, Nat.le_of_ble_eq_true rfl, Nat.le_of_ble_eq_true rfl⟩ rfl (jc.deep (r_ofStream_x hI_M hH_M hS_M  (by omega) (by omega) (by omega)  (fun r1 z1 w1_0 => ?_)) (by decide))
    exact jr.lreturn rfl rfl (q _ (by omega) (w1_0 m))
  · have lk : lst 9 = 8 := rfl
    have fk : xcv_2 9 = 4 := (by decide +kernel)
    refine jc_of (m := xm_275) rfl (Nat.le_of_ble_eq_true rfl) rfl ?_
    refine jr.iload_n rfl rfl ?_
    refine jr.tsw_k 9 rfl rfl rfl ?_
    refine jr.aload_n rfl rfl ?_
    refine jr.iload_n rfl rfl ?_
    refine jr.iload_n rfl rfl ?_
    refine jr.iconst rfl ?_
    refine jr.iload rfl rfl ?_
    refine jr.imul rfl ?_
    refine jr.iadd rfl ?_
    refine jr_v rfl rfl (Or.inl rfl) rfl rfl (by decide) rfl ⟨rfl, Nat.le_of_ble_eq_true rfl, Nat.le_of_ble_eq_true rfl⟩ rfl (jc.deep (r_two_x hI_M hH_M hS_M  (by omega) (by omega)  (fun r1 z1 w1_0 => ?_)) (by decide))
    refine jr.i2l rfl (by omega) ?_
    exact jr.lreturn rfl rfl (q _ (by omega) (by rcases (show f = 0 ∨ f = 1 ∨ f = 2 ∨ f = 3 by omega) with rfl | rfl | rfl | rfl <;> first | (exfalso; omega) | (have hw := w1_0; (try simp only [Int.reduceMul, Int.add_zero] at hw); simp only [vof_9_0, vof_9_1, vof_9_2, vof_9_3, nbs_1, nbs_2t, Int.add_zero, rf_a]; omega)))
  · have lk : lst 10 = 4 := rfl
    have fk : xcv_2 10 = 2 := (by decide +kernel)
    refine jc_of (m := xm_275) rfl (Nat.le_of_ble_eq_true rfl) rfl ?_
    refine jr.iload_n rfl rfl ?_
    refine jr.tsw_k 10 rfl rfl rfl ?_
    refine jr.aload_n rfl rfl ?_
    refine jr.iload_n rfl rfl ?_
    refine jr.iload_n rfl rfl ?_
    refine jr.iconst rfl ?_
    refine jr.iload rfl rfl ?_
    refine jr.imul rfl ?_
    refine jr.iadd rfl ?_
    refine jr_v rfl rfl (Or.inl rfl) rfl rfl (by decide) rfl ⟨rfl, Nat.le_of_ble_eq_true rfl, Nat.le_of_ble_eq_true rfl⟩ rfl (jc.deep (r_two_x hI_M hH_M hS_M  (by omega) (by omega)  (fun r1 z1 w1_0 => ?_)) (by decide))
    refine jr.i2l rfl (by omega) ?_
    exact jr.lreturn rfl rfl (q _ (by omega) (by rcases (show f = 0 ∨ f = 1 by omega) with rfl | rfl <;> first | (exfalso; omega) | (have hw := w1_0; (try simp only [Int.reduceMul, Int.add_zero] at hw); simp only [vof_10_0, vof_10_1, nbs_1, nbs_2t, Int.add_zero, rf_a]; omega)))
  · have lk : lst 11 = 0 := rfl
    have fk : xcv_2 11 = 1 := (by decide +kernel)
    refine jc_of (m := xm_275) rfl (Nat.le_of_ble_eq_true rfl) rfl ?_
    refine jr.iload_n rfl rfl ?_
    refine jr.tsw_d rfl (by decide) (by decide) rfl ?_
    refine jr.iload rfl rfl ?_
    refine jr.i2l rfl (by omega) ?_
    exact jr.lreturn rfl rfl (q _ (by omega) rfl)
end
