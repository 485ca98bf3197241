section
/-! ===== the reference: contracts, c ===== -/
theorem r_fields {A : Nat → Option (Nat × (Nat → Int32))} {Q : Option Value → jm → Prop} {T : jm} {M : jm} (hI_M : RI M) (hH_M : RH M) (hS_M : RF M) (ht_M : Kp T M) {k : Int} (h_k : 0 ≤ k ∧ k ≤ 11) (q : ∀ (r : Int), 1 ≤ r ∧ r ≤ 11 → r = fldn k → Q (some (.int (Int32.ofInt r))) M) : jc A 1 271 [.int (Int32.ofInt (k))] M Q := by
  rcases (show k = 0 ∨ k = 1 ∨ k = 2 ∨ k = 3 ∨ k = 4 ∨ k = 5 ∨ k = 6 ∨ k = 7 ∨ k = 8 ∨ k = 9 ∨ k = 10 ∨ k = 11 by omega) with rfl | rfl | rfl | rfl | rfl | rfl | rfl | rfl | rfl | rfl | rfl | rfl
  · refine jc_of (m := xm_271) rfl (Nat.le_of_ble_eq_true rfl) rfl ?_
    refine jr.iload_n rfl rfl ?_
    refine jr.tsw_k 0 rfl rfl rfl ?_
    refine jr.iconst rfl ?_
    exact jr.ireturn rfl rfl rfl (q _ (by first | exact rgq rfl | omega) (by decide))
  · refine jc_of (m := xm_271) rfl (Nat.le_of_ble_eq_true rfl) rfl ?_
    refine jr.iload_n rfl rfl ?_
    refine jr.tsw_k 1 rfl rfl rfl ?_
    refine jr.iconst rfl ?_
    exact jr.ireturn rfl rfl rfl (q _ (by first | exact rgq rfl | omega) (by decide))
  · refine jc_of (m := xm_271) rfl (Nat.le_of_ble_eq_true rfl) rfl ?_
    refine jr.iload_n rfl rfl ?_
    refine jr.tsw_k 2 rfl rfl rfl ?_
    refine jr.bipush rfl (jbp _ (nlt rfl)) ?_
    exact jr.ireturn rfl rfl rfl (q _ (by first | exact rgq rfl | omega) (by decide))
  · refine jc_of (m := xm_271) rfl (Nat.le_of_ble_eq_true rfl) rfl ?_
    refine jr.iload_n rfl rfl ?_
    refine jr.tsw_k 3 rfl rfl rfl ?_
    refine jr.bipush rfl (jbp _ (nlt rfl)) ?_
    exact jr.ireturn rfl rfl rfl (q _ (by first | exact rgq rfl | omega) (by decide))
  · refine jc_of (m := xm_271) rfl (Nat.le_of_ble_eq_true rfl) rfl ?_
    refine jr.iload_n rfl rfl ?_
    refine jr.tsw_k 4 rfl rfl rfl ?_
    refine jr.iconst rfl ?_
    exact jr.ireturn rfl rfl rfl (q _ (by first | exact rgq rfl | omega) (by decide))
  · refine jc_of (m := xm_271) rfl (Nat.le_of_ble_eq_true rfl) rfl ?_
    refine jr.iload_n rfl rfl ?_
    refine jr.tsw_k 5 rfl rfl rfl ?_
    refine jr.iconst rfl ?_
    exact jr.ireturn rfl rfl rfl (q _ (by first | exact rgq rfl | omega) (by decide))
  · refine jc_of (m := xm_271) rfl (Nat.le_of_ble_eq_true rfl) rfl ?_
    refine jr.iload_n rfl rfl ?_
    refine jr.tsw_k 6 rfl rfl rfl ?_
    refine jr.iconst rfl ?_
    exact jr.ireturn rfl rfl rfl (q _ (by first | exact rgq rfl | omega) (by decide))
  · refine jc_of (m := xm_271) rfl (Nat.le_of_ble_eq_true rfl) rfl ?_
    refine jr.iload_n rfl rfl ?_
    refine jr.tsw_k 7 rfl rfl rfl ?_
    refine jr.iconst rfl ?_
    exact jr.ireturn rfl rfl rfl (q _ (by first | exact rgq rfl | omega) (by decide))
  · refine jc_of (m := xm_271) rfl (Nat.le_of_ble_eq_true rfl) rfl ?_
    refine jr.iload_n rfl rfl ?_
    refine jr.tsw_k 8 rfl rfl rfl ?_
    refine jr.bipush rfl (jbp _ (nlt rfl)) ?_
    exact jr.ireturn rfl rfl rfl (q _ (by first | exact rgq rfl | omega) (by decide))
  · refine jc_of (m := xm_271) rfl (Nat.le_of_ble_eq_true rfl) rfl ?_
    refine jr.iload_n rfl rfl ?_
    refine jr.tsw_k 9 rfl rfl rfl ?_
    refine jr.iconst rfl ?_
    exact jr.ireturn rfl rfl rfl (q _ (by first | exact rgq rfl | omega) (by decide))
  · refine jc_of (m := xm_271) rfl (Nat.le_of_ble_eq_true rfl) rfl ?_
    refine jr.iload_n rfl rfl ?_
    refine jr.tsw_k 10 rfl rfl rfl ?_
    refine jr.iconst rfl ?_
    exact jr.ireturn rfl rfl rfl (q _ (by first | exact rgq rfl | omega) (by decide))
  · refine jc_of (m := xm_271) rfl (Nat.le_of_ble_eq_true rfl) rfl ?_
    refine jr.iload_n rfl rfl ?_
    refine jr.tsw_k 11 rfl rfl rfl ?_
    refine jr.iconst rfl ?_
    exact jr.ireturn rfl rfl rfl (q _ (by first | exact rgq rfl | omega) (by decide))
theorem r_ofFour {A : Nat → Option (Nat × (Nat → Int32))} {Q : Option Value → jm → Prop} {T : jm} {M : jm} (hI_M : RI M) (hH_M : RH M) (hS_M : RF M) (ht_M : Kp T M) {x : Int} (h_x : 0 ≤ x ∧ x ≤ 23) {a : Int} (h_a : 0 ≤ a ∧ a ≤ 380) {f : Int} (h_f : 0 ≤ f ∧ f ≤ 10) (q : ∀ (r : Int), (-9223372036854775808) ≤ r ∧ r ≤ 9223372036854775807 → (f = 5 → 0 ≤ r ∧ r ≤ 8191) → Q (some (.long (Int64.ofInt r))) M) : jc A 4 272 [.ref (598), .int (Int32.ofInt (x)), .int (Int32.ofInt (a)), .int (Int32.ofInt (f))] M Q := by
  refine jc_of (m := xm_272) rfl (Nat.le_of_ble_eq_true rfl) rfl ?_
  refine jr.iload_n rfl rfl ?_
  rcases (show f = 0 ∨ f = 1 ∨ f = 2 ∨ f = 3 ∨ f = 4 ∨ f = 5 ∨ f = 6 ∨ f = 7 ∨ f = 8 ∨ (f ≠ 0 ∧ f ≠ 1 ∧ f ≠ 2 ∧ f ≠ 3 ∧ f ≠ 4 ∧ f ≠ 5 ∧ f ≠ 6 ∧ f ≠ 7 ∧ f ≠ 8) by omega) with h1 | h1 | h1 | h1 | h1 | h1 | h1 | h1 | h1 | h1
  · refine jr.tsw_k 0 rfl h1 rfl ?_
    refine jr.aload_n rfl rfl ?_
    refine jr.iload_n rfl rfl ?_
    refine jr.iload_n rfl rfl ?_
    refine jr_v rfl rfl (Or.inl rfl) rfl rfl (nlt rfl) rfl ⟨rfl, Nat.le_of_ble_eq_true rfl, Nat.le_of_ble_eq_true rfl⟩ rfl (jc.deep (r_one hI_M hH_M hS_M ht_M (by omega) (by omega)  (fun r1 z1 w1_0 => ?_)) (Nat.le_of_ble_eq_true rfl))
    refine jr.bipush rfl (jbp _ (nlt rfl)) ?_
    refine jr.iand rfl ?_
    have b2 : 0 ≤ j_and r1 15 ∧ j_and r1 15 ≤ 15 := j_and_le (by decide)
    generalize j_and r1 15 = v2 at b2 ⊢
    refine jr.i2l rfl (by omega) ?_
    exact jr.lreturn rfl rfl (q _ (by omega) (by omega))
  · refine jr.tsw_k 1 rfl h1 rfl ?_
    refine jr.aload_n rfl rfl ?_
    refine jr.iload_n rfl rfl ?_
    refine jr.iload_n rfl rfl ?_
    refine jr.iconst rfl ?_
    refine jr.iadd rfl ?_
    refine jr_v rfl rfl (Or.inl rfl) rfl rfl (nlt rfl) rfl ⟨rfl, Nat.le_of_ble_eq_true rfl, Nat.le_of_ble_eq_true rfl⟩ rfl (jc.deep (r_one hI_M hH_M hS_M ht_M (by omega) (by omega)  (fun r3 z3 w3_0 => ?_)) (Nat.le_of_ble_eq_true rfl))
    refine jr.i2l rfl (by omega) ?_
    exact jr.lreturn rfl rfl (q _ (by omega) (by omega))
  · refine jr.tsw_k 2 rfl h1 rfl ?_
    refine jr.aload_n rfl rfl ?_
    refine jr.iload_n rfl rfl ?_
    refine jr.iload_n rfl rfl ?_
    refine jr.iconst rfl ?_
    refine jr.iadd rfl ?_
    refine jr_v rfl rfl (Or.inl rfl) rfl rfl (nlt rfl) rfl ⟨rfl, Nat.le_of_ble_eq_true rfl, Nat.le_of_ble_eq_true rfl⟩ rfl (jc.deep (r_two hI_M hH_M hS_M ht_M (by omega) (by omega)  (fun r4 z4  => ?_)) (Nat.le_of_ble_eq_true rfl))
    refine jr.i2l rfl (by omega) ?_
    exact jr.lreturn rfl rfl (q _ (by omega) (by omega))
  · refine jr.tsw_k 3 rfl h1 rfl ?_
    refine jr.aload_n rfl rfl ?_
    refine jr.iload_n rfl rfl ?_
    refine jr.iload_n rfl rfl ?_
    refine jr.iconst rfl ?_
    refine jr.iadd rfl ?_
    refine jr_v rfl rfl (Or.inl rfl) rfl rfl (nlt rfl) rfl ⟨rfl, Nat.le_of_ble_eq_true rfl, Nat.le_of_ble_eq_true rfl⟩ rfl (jc.deep (r_two hI_M hH_M hS_M ht_M (by omega) (by omega)  (fun r5 z5  => ?_)) (Nat.le_of_ble_eq_true rfl))
    refine jr.i2l rfl (by omega) ?_
    exact jr.lreturn rfl rfl (q _ (by omega) (by omega))
  · refine jr.tsw_k 4 rfl h1 rfl ?_
    refine jr.aload_n rfl rfl ?_
    refine jr.iload_n rfl rfl ?_
    refine jr.iload_n rfl rfl ?_
    refine jr.bipush rfl (jbp _ (nlt rfl)) ?_
    refine jr.iadd rfl ?_
    refine jr_v rfl rfl (Or.inl rfl) rfl rfl (nlt rfl) rfl ⟨rfl, Nat.le_of_ble_eq_true rfl, Nat.le_of_ble_eq_true rfl⟩ rfl (jc.deep (r_two hI_M hH_M hS_M ht_M (by omega) (by omega)  (fun r6 z6  => ?_)) (Nat.le_of_ble_eq_true rfl))
    refine jr.bipush rfl (jbp _ (nlt rfl)) ?_
    refine jr.ishr rfl ?_
    have b7 : j_shr r6 13 = r6 / 8192 := j_shr_ex 13 (by decide) (by omega) (by omega)
    generalize j_shr r6 13 = v7 at b7 ⊢
    refine jr.i2l rfl (by omega) ?_
    exact jr.lreturn rfl rfl (q _ (by omega) (by omega))
  · refine jr.tsw_k 5 rfl h1 rfl ?_
    refine jr.aload_n rfl rfl ?_
    refine jr.iload_n rfl rfl ?_
    refine jr.iload_n rfl rfl ?_
    refine jr.bipush rfl (jbp _ (nlt rfl)) ?_
    refine jr.iadd rfl ?_
    refine jr_v rfl rfl (Or.inl rfl) rfl rfl (nlt rfl) rfl ⟨rfl, Nat.le_of_ble_eq_true rfl, Nat.le_of_ble_eq_true rfl⟩ rfl (jc.deep (r_two hI_M hH_M hS_M ht_M (by omega) (by omega)  (fun r8 z8  => ?_)) (Nat.le_of_ble_eq_true rfl))
    refine jr.sipush rfl (by decide) ?_
    refine jr.iand rfl ?_
    have b9 : 0 ≤ j_and r8 8191 ∧ j_and r8 8191 ≤ 8191 := j_and_le (by decide)
    generalize j_and r8 8191 = v9 at b9 ⊢
    refine jr.i2l rfl (by omega) ?_
    exact jr.lreturn rfl rfl (q _ (by omega) (by omega))
  · refine jr.tsw_k 6 rfl h1 rfl ?_
    refine jr.aload_n rfl rfl ?_
    refine jr.iload_n rfl rfl ?_
    refine jr.iload_n rfl rfl ?_
    refine jr.bipush rfl (jbp _ (nlt rfl)) ?_
    refine jr.iadd rfl ?_
    refine jr_v rfl rfl (Or.inl rfl) rfl rfl (nlt rfl) rfl ⟨rfl, Nat.le_of_ble_eq_true rfl, Nat.le_of_ble_eq_true rfl⟩ rfl (jc.deep (r_one hI_M hH_M hS_M ht_M (by omega) (by omega)  (fun r10 z10 w10_0 => ?_)) (Nat.le_of_ble_eq_true rfl))
    refine jr.i2l rfl (by omega) ?_
    exact jr.lreturn rfl rfl (q _ (by omega) (by omega))
  · refine jr.tsw_k 7 rfl h1 rfl ?_
    refine jr.aload_n rfl rfl ?_
    refine jr.iload_n rfl rfl ?_
    refine jr.iload_n rfl rfl ?_
    refine jr.bipush rfl (jbp _ (nlt rfl)) ?_
    refine jr.iadd rfl ?_
    refine jr_v rfl rfl (Or.inl rfl) rfl rfl (nlt rfl) rfl ⟨rfl, Nat.le_of_ble_eq_true rfl, Nat.le_of_ble_eq_true rfl⟩ rfl (jc.deep (r_one hI_M hH_M hS_M ht_M (by omega) (by omega)  (fun r11 z11 w11_0 => ?_)) (Nat.le_of_ble_eq_true rfl))
    refine jr.i2l rfl (by omega) ?_
    exact jr.lreturn rfl rfl (q _ (by omega) (by omega))
  · refine jr.tsw_k 8 rfl h1 rfl ?_
    refine jr.aload_n rfl rfl ?_
    refine jr.iload_n rfl rfl ?_
    refine jr.iload_n rfl rfl ?_
    refine jr.bipush rfl (jbp _ (nlt rfl)) ?_
    refine jr.iadd rfl ?_
    refine jr_v rfl rfl (Or.inl rfl) rfl rfl (nlt rfl) rfl ⟨rfl, Nat.le_of_ble_eq_true rfl, Nat.le_of_ble_eq_true rfl⟩ rfl (jc.deep (r_two hI_M hH_M hS_M ht_M (by omega) (by omega)  (fun r12 z12  => ?_)) (Nat.le_of_ble_eq_true rfl))
    refine jr.i2l rfl (by omega) ?_
    exact jr.lreturn rfl rfl (q _ (by omega) (by omega))
  · refine jr.tsw_d rfl (by omega) (by omega) rfl ?_
    refine jr.aload_n rfl rfl ?_
    refine jr.iload_n rfl rfl ?_
    refine jr.iload_n rfl rfl ?_
    refine jr.bipush rfl (jbp _ (nlt rfl)) ?_
    refine jr.icmp_ne rfl rfl (by first | (refine rgb (by assumption) ?_; exact rfl) | omega) (rgl rfl) (fun h160 => ?_) (fun h160 => ?_)
    · refine jr.iload_n rfl rfl ?_
      refine jr.bipush rfl (jbp _ (nlt rfl)) ?_
      refine jr.iadd rfl ?_
      refine jr_v rfl rfl (Or.inl rfl) rfl rfl (nlt rfl) rfl ⟨rfl, Nat.le_of_ble_eq_true rfl, Nat.le_of_ble_eq_true rfl⟩ rfl (jc.deep (r_four hI_M hH_M hS_M ht_M (by omega) (by omega)  (fun r13 z13  => ?_)) (Nat.le_of_ble_eq_true rfl))
      exact jr.lreturn rfl rfl (q _ (by omega) (by omega))
    · refine jr.iload_n rfl rfl ?_
      refine jr.bipush rfl (jbp _ (nlt rfl)) ?_
      refine jr.iadd rfl ?_
      refine jr.goto rfl rfl ?_
      refine jr_v rfl rfl (Or.inl rfl) rfl rfl (nlt rfl) rfl ⟨rfl, Nat.le_of_ble_eq_true rfl, Nat.le_of_ble_eq_true rfl⟩ rfl (jc.deep (r_four hI_M hH_M hS_M ht_M (by omega) (by omega)  (fun r14 z14  => ?_)) (Nat.le_of_ble_eq_true rfl))
      exact jr.lreturn rfl rfl (q _ (by omega) (by omega))
theorem r_ofSix {A : Nat → Option (Nat × (Nat → Int32))} {Q : Option Value → jm → Prop} {T : jm} {M : jm} (hI_M : RI M) (hH_M : RH M) (hS_M : RF M) (ht_M : Kp T M) {x : Int} (h_x : 0 ≤ x ∧ x ≤ 23) {a : Int} (h_a : 0 ≤ a ∧ a ≤ 376) {f : Int} (h_f : 0 ≤ f ∧ f ≤ 6) (q : ∀ (r : Int), (-9223372036854775808) ≤ r ∧ r ≤ 9223372036854775807 → Q (some (.long (Int64.ofInt r))) M) : jc A 5 273 [.ref (598), .int (Int32.ofInt (x)), .int (Int32.ofInt (a)), .int (Int32.ofInt (f))] M Q := by
  refine jc_of (m := xm_273) rfl (Nat.le_of_ble_eq_true rfl) rfl ?_
  refine jr.iload_n rfl rfl ?_
  rcases (show f = 0 ∨ f = 1 ∨ f = 2 ∨ f = 3 ∨ f = 4 ∨ (f ≠ 0 ∧ f ≠ 1 ∧ f ≠ 2 ∧ f ≠ 3 ∧ f ≠ 4) by omega) with h1 | h1 | h1 | h1 | h1 | h1
  · refine jr.tsw_k 0 rfl h1 rfl ?_
    refine jr.aload_n rfl rfl ?_
    refine jr.iload_n rfl rfl ?_
    refine jr.iload_n rfl rfl ?_
    refine jr.iconst rfl ?_
    refine jr.iadd rfl ?_
    refine jr_v rfl rfl (Or.inl rfl) rfl rfl (nlt rfl) rfl ⟨rfl, Nat.le_of_ble_eq_true rfl, Nat.le_of_ble_eq_true rfl⟩ rfl (jc.deep (r_one hI_M hH_M hS_M ht_M (by omega) (by omega)  (fun r1 z1 w1_0 => ?_)) (Nat.le_of_ble_eq_true rfl))
    refine jr.i2l rfl (by omega) ?_
    exact jr.lreturn rfl rfl (q _ (by omega) )
  · refine jr.tsw_k 1 rfl h1 rfl ?_
    refine jr.aload_n rfl rfl ?_
    refine jr.iload_n rfl rfl ?_
    refine jr.iload_n rfl rfl ?_
    refine jr.iconst rfl ?_
    refine jr.iadd rfl ?_
    refine jr_v rfl rfl (Or.inl rfl) rfl rfl (nlt rfl) rfl ⟨rfl, Nat.le_of_ble_eq_true rfl, Nat.le_of_ble_eq_true rfl⟩ rfl (jc.deep (r_two hI_M hH_M hS_M ht_M (by omega) (by omega)  (fun r2 z2  => ?_)) (Nat.le_of_ble_eq_true rfl))
    refine jr.i2l rfl (by omega) ?_
    exact jr.lreturn rfl rfl (q _ (by omega) )
  · refine jr.tsw_k 2 rfl h1 rfl ?_
    refine jr.aload_n rfl rfl ?_
    refine jr.iload_n rfl rfl ?_
    refine jr.iload_n rfl rfl ?_
    refine jr.iconst rfl ?_
    refine jr.iadd rfl ?_
    refine jr_v rfl rfl (Or.inl rfl) rfl rfl (nlt rfl) rfl ⟨rfl, Nat.le_of_ble_eq_true rfl, Nat.le_of_ble_eq_true rfl⟩ rfl (jc.deep (r_one hI_M hH_M hS_M ht_M (by omega) (by omega)  (fun r3 z3 w3_0 => ?_)) (Nat.le_of_ble_eq_true rfl))
    refine jr.i2l rfl (by omega) ?_
    exact jr.lreturn rfl rfl (q _ (by omega) )
  · refine jr.tsw_k 3 rfl h1 rfl ?_
    refine jr.aload_n rfl rfl ?_
    refine jr.iload_n rfl rfl ?_
    refine jr.iload_n rfl rfl ?_
    refine jr.iconst rfl ?_
    refine jr.iadd rfl ?_
    refine jr_v rfl rfl (Or.inl rfl) rfl rfl (nlt rfl) rfl ⟨rfl, Nat.le_of_ble_eq_true rfl, Nat.le_of_ble_eq_true rfl⟩ rfl (jc.deep (r_one hI_M hH_M hS_M ht_M (by omega) (by omega)  (fun r4 z4 w4_0 => ?_)) (Nat.le_of_ble_eq_true rfl))
    refine jr.i2l rfl (by omega) ?_
    exact jr.lreturn rfl rfl (q _ (by omega) )
  · refine jr.tsw_k 4 rfl h1 rfl ?_
    refine jr.aload_n rfl rfl ?_
    refine jr.iload_n rfl rfl ?_
    refine jr.iload_n rfl rfl ?_
    refine jr.bipush rfl (jbp _ (nlt rfl)) ?_
    refine jr.iadd rfl ?_
    refine jr_v rfl rfl (Or.inl rfl) rfl rfl (nlt rfl) rfl ⟨rfl, Nat.le_of_ble_eq_true rfl, Nat.le_of_ble_eq_true rfl⟩ rfl (jc.deep (r_two hI_M hH_M hS_M ht_M (by omega) (by omega)  (fun r5 z5  => ?_)) (Nat.le_of_ble_eq_true rfl))
    refine jr.i2l rfl (by omega) ?_
    exact jr.lreturn rfl rfl (q _ (by omega) )
  · refine jr.tsw_d rfl (by omega) (by omega) rfl ?_
    refine jr.aload_n rfl rfl ?_
    refine jr.iload_n rfl rfl ?_
    refine jr.iload_n rfl rfl ?_
    refine jr.iconst rfl ?_
    refine jr.icmp_ne rfl rfl (by first | (refine rgb (by assumption) ?_; exact rfl) | omega) (rgl rfl) (fun h91 => ?_) (fun h91 => ?_)
    · refine jr.iload_n rfl rfl ?_
      refine jr.bipush rfl (jbp _ (nlt rfl)) ?_
      refine jr.iadd rfl ?_
      refine jr_v rfl rfl (Or.inl rfl) rfl rfl (nlt rfl) rfl ⟨rfl, Nat.le_of_ble_eq_true rfl, Nat.le_of_ble_eq_true rfl⟩ rfl (jc.deep (r_eight hI_M hH_M hS_M ht_M (by omega) (by omega)  (fun r6 z6  => ?_)) (Nat.le_of_ble_eq_true rfl))
      exact jr.lreturn rfl rfl (q _ (by omega) )
    · refine jr.iload_n rfl rfl ?_
      refine jr.bipush rfl (jbp _ (nlt rfl)) ?_
      refine jr.iadd rfl ?_
      refine jr.goto rfl rfl ?_
      refine jr_v rfl rfl (Or.inl rfl) rfl rfl (nlt rfl) rfl ⟨rfl, Nat.le_of_ble_eq_true rfl, Nat.le_of_ble_eq_true rfl⟩ rfl (jc.deep (r_eight hI_M hH_M hS_M ht_M (by omega) (by omega)  (fun r7 z7  => ?_)) (Nat.le_of_ble_eq_true rfl))
      exact jr.lreturn rfl rfl (q _ (by omega) )
theorem r_ofStream {A : Nat → Option (Nat × (Nat → Int32))} {Q : Option Value → jm → Prop} {T : jm} {M : jm} (hI_M : RI M) (hH_M : RH M) (hS_M : RF M) (ht_M : Kp T M) {x : Int} (h_x : 0 ≤ x ∧ x ≤ 23) {a : Int} (h_a : 0 ≤ a ∧ a ≤ 380) {f : Int} (h_f : 0 ≤ f ∧ f ≤ 7) (q : ∀ (r : Int), (-9223372036854775808) ≤ r ∧ r ≤ 9223372036854775807 → Q (some (.long (Int64.ofInt r))) M) : jc A 4 274 [.ref (598), .int (Int32.ofInt (x)), .int (Int32.ofInt (a)), .int (Int32.ofInt (f))] M Q := by
  refine jc_of (m := xm_274) rfl (Nat.le_of_ble_eq_true rfl) rfl ?_
  refine jr.iload_n rfl rfl ?_
  rcases (show f = 0 ∨ f = 1 ∨ f = 2 ∨ f = 3 ∨ f = 4 ∨ f = 5 ∨ (f ≠ 0 ∧ f ≠ 1 ∧ f ≠ 2 ∧ f ≠ 3 ∧ f ≠ 4 ∧ f ≠ 5) by omega) with h1 | h1 | h1 | h1 | h1 | h1 | h1
  · refine jr.tsw_k 0 rfl h1 rfl ?_
    refine jr.aload_n rfl rfl ?_
    refine jr.iload_n rfl rfl ?_
    refine jr.iload_n rfl rfl ?_
    refine jr.iconst rfl ?_
    refine jr.iload_n rfl rfl ?_
    refine jr.imul rfl ?_
    refine jr.iadd rfl ?_
    refine jr_v rfl rfl (Or.inl rfl) rfl rfl (nlt rfl) rfl ⟨rfl, Nat.le_of_ble_eq_true rfl, Nat.le_of_ble_eq_true rfl⟩ rfl (jc.deep (r_two hI_M hH_M hS_M ht_M (by omega) (by omega)  (fun r1 z1  => ?_)) (Nat.le_of_ble_eq_true rfl))
    refine jr.i2l rfl (by omega) ?_
    exact jr.lreturn rfl rfl (q _ (by omega) )
  · refine jr.tsw_k 1 rfl h1 rfl ?_
    refine jr.aload_n rfl rfl ?_
    refine jr.iload_n rfl rfl ?_
    refine jr.iload_n rfl rfl ?_
    refine jr.iconst rfl ?_
    refine jr.iload_n rfl rfl ?_
    refine jr.imul rfl ?_
    refine jr.iadd rfl ?_
    refine jr_v rfl rfl (Or.inl rfl) rfl rfl (nlt rfl) rfl ⟨rfl, Nat.le_of_ble_eq_true rfl, Nat.le_of_ble_eq_true rfl⟩ rfl (jc.deep (r_two hI_M hH_M hS_M ht_M (by omega) (by omega)  (fun r2 z2  => ?_)) (Nat.le_of_ble_eq_true rfl))
    refine jr.i2l rfl (by omega) ?_
    exact jr.lreturn rfl rfl (q _ (by omega) )
  · refine jr.tsw_k 2 rfl h1 rfl ?_
    refine jr.aload_n rfl rfl ?_
    refine jr.iload_n rfl rfl ?_
    refine jr.iload_n rfl rfl ?_
    refine jr.iconst rfl ?_
    refine jr.iload_n rfl rfl ?_
    refine jr.imul rfl ?_
    refine jr.iadd rfl ?_
    refine jr.iconst rfl ?_
    refine jr.isub rfl ?_
    refine jr_v rfl rfl (Or.inl rfl) rfl rfl (nlt rfl) rfl ⟨rfl, Nat.le_of_ble_eq_true rfl, Nat.le_of_ble_eq_true rfl⟩ rfl (jc.deep (r_four hI_M hH_M hS_M ht_M (by omega) (by omega)  (fun r3 z3  => ?_)) (Nat.le_of_ble_eq_true rfl))
    exact jr.lreturn rfl rfl (q _ (by omega) )
  · refine jr.tsw_k 3 rfl h1 rfl ?_
    refine jr.aload_n rfl rfl ?_
    refine jr.iload_n rfl rfl ?_
    refine jr.iload_n rfl rfl ?_
    refine jr.iconst rfl ?_
    refine jr.iload_n rfl rfl ?_
    refine jr.imul rfl ?_
    refine jr.iadd rfl ?_
    refine jr.iconst rfl ?_
    refine jr.isub rfl ?_
    refine jr_v rfl rfl (Or.inl rfl) rfl rfl (nlt rfl) rfl ⟨rfl, Nat.le_of_ble_eq_true rfl, Nat.le_of_ble_eq_true rfl⟩ rfl (jc.deep (r_four hI_M hH_M hS_M ht_M (by omega) (by omega)  (fun r4 z4  => ?_)) (Nat.le_of_ble_eq_true rfl))
    exact jr.lreturn rfl rfl (q _ (by omega) )
  · refine jr.tsw_k 4 rfl h1 rfl ?_
    refine jr.aload_n rfl rfl ?_
    refine jr.iload_n rfl rfl ?_
    refine jr.iload_n rfl rfl ?_
    refine jr.bipush rfl (jbp _ (nlt rfl)) ?_
    refine jr.iadd rfl ?_
    refine jr_v rfl rfl (Or.inl rfl) rfl rfl (nlt rfl) rfl ⟨rfl, Nat.le_of_ble_eq_true rfl, Nat.le_of_ble_eq_true rfl⟩ rfl (jc.deep (r_one hI_M hH_M hS_M ht_M (by omega) (by omega)  (fun r5 z5 w5_0 => ?_)) (Nat.le_of_ble_eq_true rfl))
    refine jr.iconst rfl ?_
    refine jr.ishr rfl ?_
    have b6 : j_shr r5 4 = r5 / 16 := j_shr_ex 4 (by decide) (by omega) (by omega)
    generalize j_shr r5 4 = v6 at b6 ⊢
    refine jr.i2l rfl (by omega) ?_
    exact jr.lreturn rfl rfl (q _ (by omega) )
  · refine jr.tsw_k 5 rfl h1 rfl ?_
    refine jr.aload_n rfl rfl ?_
    refine jr.iload_n rfl rfl ?_
    refine jr.iload_n rfl rfl ?_
    refine jr.bipush rfl (jbp _ (nlt rfl)) ?_
    refine jr.iadd rfl ?_
    refine jr_v rfl rfl (Or.inl rfl) rfl rfl (nlt rfl) rfl ⟨rfl, Nat.le_of_ble_eq_true rfl, Nat.le_of_ble_eq_true rfl⟩ rfl (jc.deep (r_one hI_M hH_M hS_M ht_M (by omega) (by omega)  (fun r7 z7 w7_0 => ?_)) (Nat.le_of_ble_eq_true rfl))
    refine jr.i2l rfl (by omega) ?_
    exact jr.lreturn rfl rfl (q _ (by omega) )
  · refine jr.tsw_d rfl (by omega) (by omega) rfl ?_
    refine jr.aload_n rfl rfl ?_
    refine jr.iload_n rfl rfl ?_
    refine jr.iload_n rfl rfl ?_
    refine jr.bipush rfl (jbp _ (nlt rfl)) ?_
    refine jr.icmp_ne rfl rfl (by first | (refine rgb (by assumption) ?_; exact rfl) | omega) (rgl rfl) (fun h94 => ?_) (fun h94 => ?_)
    · refine jr.iload_n rfl rfl ?_
      refine jr.bipush rfl (jbp _ (nlt rfl)) ?_
      refine jr.iadd rfl ?_
      refine jr_v rfl rfl (Or.inl rfl) rfl rfl (nlt rfl) rfl ⟨rfl, Nat.le_of_ble_eq_true rfl, Nat.le_of_ble_eq_true rfl⟩ rfl (jc.deep (r_two hI_M hH_M hS_M ht_M (by omega) (by omega)  (fun r8 z8  => ?_)) (Nat.le_of_ble_eq_true rfl))
      refine jr.i2l rfl (by omega) ?_
      exact jr.lreturn rfl rfl (q _ (by omega) )
    · refine jr.iload_n rfl rfl ?_
      refine jr.bipush rfl (jbp _ (nlt rfl)) ?_
      refine jr.iadd rfl ?_
      refine jr.goto rfl rfl ?_
      refine jr_v rfl rfl (Or.inl rfl) rfl rfl (nlt rfl) rfl ⟨rfl, Nat.le_of_ble_eq_true rfl, Nat.le_of_ble_eq_true rfl⟩ rfl (jc.deep (r_two hI_M hH_M hS_M ht_M (by omega) (by omega)  (fun r9 z9  => ?_)) (Nat.le_of_ble_eq_true rfl))
      refine jr.i2l rfl (by omega) ?_
      exact jr.lreturn rfl rfl (q _ (by omega) )
theorem r_valueOf {A : Nat → Option (Nat × (Nat → Int32))} {Q : Option Value → jm → Prop} {T : jm} {M : jm} (hI_M : RI M) (hH_M : RH M) (hS_M : RF M) (ht_M : Kp T M) {x : Int} (h_x : 0 ≤ x ∧ x ≤ 23) {k : Int} (h_k : 0 ≤ k ∧ k ≤ 11) {a : Int} (h_a : 0 ≤ a ∧ a ≤ 400) {m : Int} (h_m : 0 ≤ m ∧ m ≤ 400) {f : Int} (h_f : 0 ≤ f ∧ f ≤ 10) (p0 : a + lst k ≤ 400) (p1 : f < fldn k) (q : ∀ (r : Int), (-9223372036854775808) ≤ r ∧ r ≤ 9223372036854775807 → Q (some (.long (Int64.ofInt r))) M) : jc A 6 275 [.ref (598), .int (Int32.ofInt (x)), .int (Int32.ofInt (k)), .int (Int32.ofInt (a)), .int (Int32.ofInt (m)), .int (Int32.ofInt (f))] M Q := by
  have lk := lst_k k
  have fk := fldn_k k
  rcases (show k = 0 ∨ k = 1 ∨ k = 2 ∨ k = 3 ∨ k = 4 ∨ k = 5 ∨ k = 6 ∨ k = 7 ∨ k = 8 ∨ k = 9 ∨ k = 10 ∨ k = 11 by omega) with rfl | rfl | rfl | rfl | rfl | rfl | rfl | rfl | rfl | rfl | rfl | rfl
  · refine jc_of (m := xm_275) rfl (Nat.le_of_ble_eq_true rfl) rfl ?_
    refine jr.iload_n rfl rfl ?_
    refine jr.tsw_k 0 rfl rfl rfl ?_
    refine jr.iload rfl rfl ?_
    refine jr.iconst rfl ?_
    refine jr.icmp_ne rfl rfl (by first | (refine rgb (by assumption) ?_; exact rfl) | omega) (rgl rfl) (fun h63 => ?_) (fun h63 => ?_)
    · refine jr.aload_n rfl rfl ?_
      refine jr.iload_n rfl rfl ?_
      refine jr.iload_n rfl rfl ?_
      refine jr.iload rfl rfl ?_
      refine jr.iadd rfl ?_
      refine jr_v rfl rfl (Or.inl rfl) rfl rfl (nlt rfl) rfl ⟨rfl, Nat.le_of_ble_eq_true rfl, Nat.le_of_ble_eq_true rfl⟩ rfl (jc.deep (r_one hI_M hH_M hS_M ht_M (by omega) (by omega)  (fun r1 z1 w1_0 => ?_)) (Nat.le_of_ble_eq_true rfl))
      refine jr.i2l rfl (by omega) ?_
      exact jr.lreturn rfl rfl (q _ (by omega) )
    · refine jr.aload_n rfl rfl ?_
      refine jr.iload_n rfl rfl ?_
      refine jr.iload_n rfl rfl ?_
      refine jr.iconst rfl ?_
      refine jr.iadd rfl ?_
      refine jr_v rfl rfl (Or.inl rfl) rfl rfl (nlt rfl) rfl ⟨rfl, Nat.le_of_ble_eq_true rfl, Nat.le_of_ble_eq_true rfl⟩ rfl (jc.deep (r_two hI_M hH_M hS_M ht_M (by omega) (by omega)  (fun r2 z2  => ?_)) (Nat.le_of_ble_eq_true rfl))
      refine jr.i2l rfl (by omega) ?_
      refine jr.goto rfl rfl ?_
      exact jr.lreturn rfl rfl (q _ (by omega) )
  · refine jc_of (m := xm_275) rfl (Nat.le_of_ble_eq_true rfl) rfl ?_
    refine jr.iload_n rfl rfl ?_
    refine jr.tsw_k 1 rfl rfl rfl ?_
    refine jr.iload rfl rfl ?_
    refine jr.if_ne rfl rfl (by first | (refine rgb (by assumption) ?_; exact rfl) | omega) (fun h91 => ?_) (fun h91 => ?_)
    · have sx91 : (1 : Int) ≤ f := by omega
      clear h91
      refine jr.iload rfl rfl ?_
      refine jr.iconst rfl ?_
      refine jr.icmp_ne rfl rfl (by first | (refine rgb (by assumption) ?_; exact rfl) | omega) (rgl rfl) (fun h110 => ?_) (fun h110 => ?_)
      · have sx110 : (2 : Int) ≤ f := by omega
        clear h110
        refine jr.aload_n rfl rfl ?_
        refine jr.iload_n rfl rfl ?_
        refine jr.iload_n rfl rfl ?_
        refine jr.iconst rfl ?_
        refine jr.iadd rfl ?_
        refine jr_v rfl rfl (Or.inl rfl) rfl rfl (nlt rfl) rfl ⟨rfl, Nat.le_of_ble_eq_true rfl, Nat.le_of_ble_eq_true rfl⟩ rfl (jc.deep (r_two hI_M hH_M hS_M ht_M (by omega) (by omega)  (fun r1 z1  => ?_)) (Nat.le_of_ble_eq_true rfl))
        refine jr.i2l rfl (by omega) ?_
        exact jr.lreturn rfl rfl (q _ (by omega) )
      · refine jr.aload_n rfl rfl ?_
        refine jr.iload_n rfl rfl ?_
        refine jr.iload_n rfl rfl ?_
        refine jr_v rfl rfl (Or.inl rfl) rfl rfl (nlt rfl) rfl ⟨rfl, Nat.le_of_ble_eq_true rfl, Nat.le_of_ble_eq_true rfl⟩ rfl (jc.deep (r_two hI_M hH_M hS_M ht_M (by omega) (by omega)  (fun r2 z2  => ?_)) (Nat.le_of_ble_eq_true rfl))
        refine jr.sipush rfl (by decide) ?_
        refine jr.iand rfl ?_
        have b3 : 0 ≤ j_and r2 4095 ∧ j_and r2 4095 ≤ 4095 := j_and_le (by decide)
        generalize j_and r2 4095 = v3 at b3 ⊢
        refine jr.i2l rfl (by omega) ?_
        refine jr.goto rfl rfl ?_
        exact jr.lreturn rfl rfl (q _ (by omega) )
    · refine jr.aload_n rfl rfl ?_
      refine jr.iload_n rfl rfl ?_
      refine jr.iload_n rfl rfl ?_
      refine jr_v rfl rfl (Or.inl rfl) rfl rfl (nlt rfl) rfl ⟨rfl, Nat.le_of_ble_eq_true rfl, Nat.le_of_ble_eq_true rfl⟩ rfl (jc.deep (r_two hI_M hH_M hS_M ht_M (by omega) (by omega)  (fun r4 z4  => ?_)) (Nat.le_of_ble_eq_true rfl))
      refine jr.bipush rfl (jbp _ (nlt rfl)) ?_
      refine jr.ishr rfl ?_
      have b5 : j_shr r4 12 = r4 / 4096 := j_shr_ex 12 (by decide) (by omega) (by omega)
      generalize j_shr r4 12 = v5 at b5 ⊢
      refine jr.i2l rfl (by omega) ?_
      refine jr.goto rfl rfl ?_
      exact jr.lreturn rfl rfl (q _ (by omega) )
  · refine jc_of (m := xm_275) rfl (Nat.le_of_ble_eq_true rfl) rfl ?_
    refine jr.iload_n rfl rfl ?_
    refine jr.tsw_k 2 rfl rfl rfl ?_
    refine jr.aload_n rfl rfl ?_
    refine jr.iload_n rfl rfl ?_
    refine jr.iload_n rfl rfl ?_
    refine jr.iload rfl rfl ?_
    refine jr_v rfl rfl (Or.inl rfl) rfl rfl (nlt rfl) rfl ⟨rfl, Nat.le_of_ble_eq_true rfl, Nat.le_of_ble_eq_true rfl⟩ rfl (jc.deep (r_ofFour hI_M hH_M hS_M ht_M (by omega) (by omega) (by omega)  (fun r1 z1 w1_0 => ?_)) (Nat.le_of_ble_eq_true rfl))
    exact jr.lreturn rfl rfl (q _ (by omega) )
  · refine jc_of (m := xm_275) rfl (Nat.le_of_ble_eq_true rfl) rfl ?_
    refine jr.iload_n rfl rfl ?_
    refine jr.tsw_k 3 rfl rfl rfl ?_
    refine jr.aload_n rfl rfl ?_
    refine jr.iload_n rfl rfl ?_
    refine jr.iload_n rfl rfl ?_
    refine jr.iload rfl rfl ?_
    refine jr_v rfl rfl (Or.inl rfl) rfl rfl (nlt rfl) rfl ⟨rfl, Nat.le_of_ble_eq_true rfl, Nat.le_of_ble_eq_true rfl⟩ rfl (jc.deep (r_ofSix hI_M hH_M hS_M ht_M (by omega) (by omega) (by omega)  (fun r1 z1  => ?_)) (Nat.le_of_ble_eq_true rfl))
    exact jr.lreturn rfl rfl (q _ (by omega) )
  · refine jc_of (m := xm_275) rfl (Nat.le_of_ble_eq_true rfl) rfl ?_
    refine jr.iload_n rfl rfl ?_
    refine jr.tsw_k 4 rfl rfl rfl ?_
    refine jr.aload_n rfl rfl ?_
    refine jr.iload_n rfl rfl ?_
    refine jr.iload_n rfl rfl ?_
    refine jr.iload rfl rfl ?_
    refine jr.iadd rfl ?_
    refine jr_v rfl rfl (Or.inl rfl) rfl rfl (nlt rfl) rfl ⟨rfl, Nat.le_of_ble_eq_true rfl, Nat.le_of_ble_eq_true rfl⟩ rfl (jc.deep (r_one hI_M hH_M hS_M ht_M (by omega) (by omega)  (fun r1 z1 w1_0 => ?_)) (Nat.le_of_ble_eq_true rfl))
    refine jr.i2l rfl (by omega) ?_
    exact jr.lreturn rfl rfl (q _ (by omega) )
  · refine jc_of (m := xm_275) rfl (Nat.le_of_ble_eq_true rfl) rfl ?_
    refine jr.iload_n rfl rfl ?_
    refine jr.tsw_k 5 rfl rfl rfl ?_
    refine jr.aload_n rfl rfl ?_
    refine jr.iload_n rfl rfl ?_
    refine jr.iload_n rfl rfl ?_
    refine jr.iload rfl rfl ?_
    refine jr.iadd rfl ?_
    refine jr_v rfl rfl (Or.inl rfl) rfl rfl (nlt rfl) rfl ⟨rfl, Nat.le_of_ble_eq_true rfl, Nat.le_of_ble_eq_true rfl⟩ rfl (jc.deep (r_one hI_M hH_M hS_M ht_M (by omega) (by omega)  (fun r1 z1 w1_0 => ?_)) (Nat.le_of_ble_eq_true rfl))
    refine jr.i2l rfl (by omega) ?_
    exact jr.lreturn rfl rfl (q _ (by omega) )
  · refine jc_of (m := xm_275) rfl (Nat.le_of_ble_eq_true rfl) rfl ?_
    refine jr.iload_n rfl rfl ?_
    refine jr.tsw_k 6 rfl rfl rfl ?_
    refine jr.iload rfl rfl ?_
    refine jr.if_ne rfl rfl (by first | (refine rgb (by assumption) ?_; exact rfl) | omega) (fun h168 => ?_) (fun h168 => ?_)
    · have sx168 : (1 : Int) ≤ f := by omega
      clear h168
      refine jr.iload rfl rfl ?_
      refine jr.iconst rfl ?_
      refine jr.icmp_ne rfl rfl (by first | (refine rgb (by assumption) ?_; exact rfl) | omega) (rgl rfl) (fun h184 => ?_) (fun h184 => ?_)
      · have sx184 : (2 : Int) ≤ f := by omega
        clear h184
        refine jr.iload rfl rfl ?_
        refine jr.iconst rfl ?_
        refine jr.icmp_ne rfl rfl (by first | (refine rgb (by assumption) ?_; exact rfl) | omega) (rgl rfl) (fun h204 => ?_) (fun h204 => ?_)
        · have sx204 : (3 : Int) ≤ f := by omega
          clear h204
          refine jr.aload_n rfl rfl ?_
          refine jr.iload_n rfl rfl ?_
          refine jr.iload_n rfl rfl ?_
          refine jr.iconst rfl ?_
          refine jr.iadd rfl ?_
          refine jr_v rfl rfl (Or.inl rfl) rfl rfl (nlt rfl) rfl ⟨rfl, Nat.le_of_ble_eq_true rfl, Nat.le_of_ble_eq_true rfl⟩ rfl (jc.deep (r_four hI_M hH_M hS_M ht_M (by omega) (by omega)  (fun r1 z1  => ?_)) (Nat.le_of_ble_eq_true rfl))
          exact jr.lreturn rfl rfl (q _ (by omega) )
        · refine jr.aload_n rfl rfl ?_
          refine jr.iload_n rfl rfl ?_
          refine jr.iload_n rfl rfl ?_
          refine jr.iconst rfl ?_
          refine jr.iadd rfl ?_
          refine jr_v rfl rfl (Or.inl rfl) rfl rfl (nlt rfl) rfl ⟨rfl, Nat.le_of_ble_eq_true rfl, Nat.le_of_ble_eq_true rfl⟩ rfl (jc.deep (r_two hI_M hH_M hS_M ht_M (by omega) (by omega)  (fun r2 z2  => ?_)) (Nat.le_of_ble_eq_true rfl))
          refine jr.iconst rfl ?_
          refine jr.iand rfl ?_
          have b3 : 0 ≤ j_and r2 1 ∧ j_and r2 1 ≤ 1 := j_and_le (by decide)
          generalize j_and r2 1 = v3 at b3 ⊢
          refine jr.i2l rfl (by omega) ?_
          refine jr.goto rfl rfl ?_
          exact jr.lreturn rfl rfl (q _ (by omega) )
      · refine jr.aload_n rfl rfl ?_
        refine jr.iload_n rfl rfl ?_
        refine jr.iload_n rfl rfl ?_
        refine jr.iconst rfl ?_
        refine jr.iadd rfl ?_
        refine jr_v rfl rfl (Or.inl rfl) rfl rfl (nlt rfl) rfl ⟨rfl, Nat.le_of_ble_eq_true rfl, Nat.le_of_ble_eq_true rfl⟩ rfl (jc.deep (r_two hI_M hH_M hS_M ht_M (by omega) (by omega)  (fun r4 z4  => ?_)) (Nat.le_of_ble_eq_true rfl))
        refine jr.iconst rfl ?_
        refine jr.ishr rfl ?_
        have b5 : j_shr r4 3 = r4 / 8 := j_shr_ex 3 (by decide) (by omega) (by omega)
        generalize j_shr r4 3 = v5 at b5 ⊢
        refine jr.i2l rfl (by omega) ?_
        refine jr.goto rfl rfl ?_
        exact jr.lreturn rfl rfl (q _ (by omega) )
    · refine jr.aload_n rfl rfl ?_
      refine jr.iload_n rfl rfl ?_
      refine jr.iload_n rfl rfl ?_
      refine jr_v rfl rfl (Or.inl rfl) rfl rfl (nlt rfl) rfl ⟨rfl, Nat.le_of_ble_eq_true rfl, Nat.le_of_ble_eq_true rfl⟩ rfl (jc.deep (r_one hI_M hH_M hS_M ht_M (by omega) (by omega)  (fun r6 z6 w6_0 => ?_)) (Nat.le_of_ble_eq_true rfl))
      refine jr.i2l rfl (by omega) ?_
      refine jr.goto rfl rfl ?_
      exact jr.lreturn rfl rfl (q _ (by omega) )
  · refine jc_of (m := xm_275) rfl (Nat.le_of_ble_eq_true rfl) rfl ?_
    refine jr.iload_n rfl rfl ?_
    refine jr.tsw_k 7 rfl rfl rfl ?_
    refine jr.iload rfl rfl ?_
    refine jr.iconst rfl ?_
    refine jr.icmp_ge rfl rfl (by first | (refine rgb (by assumption) ?_; exact rfl) | omega) (rgl rfl) (fun h233 => ?_) (fun h233 => ?_)
    · refine jr.iload rfl rfl ?_
      refine jr.iconst rfl ?_
      refine jr.icmp_ne rfl rfl (by first | (refine rgb (by assumption) ?_; exact rfl) | omega) (rgl rfl) (fun h252 => ?_) (fun h252 => ?_)
      · have sx252 : (3 : Int) ≤ f := by omega
        clear h252
        refine jr.aload_n rfl rfl ?_
        refine jr.iload_n rfl rfl ?_
        refine jr.iload_n rfl rfl ?_
        refine jr.iconst rfl ?_
        refine jr.iadd rfl ?_
        refine jr_v rfl rfl (Or.inl rfl) rfl rfl (nlt rfl) rfl ⟨rfl, Nat.le_of_ble_eq_true rfl, Nat.le_of_ble_eq_true rfl⟩ rfl (jc.deep (r_four hI_M hH_M hS_M ht_M (by omega) (by omega)  (fun r1 z1  => ?_)) (Nat.le_of_ble_eq_true rfl))
        exact jr.lreturn rfl rfl (q _ (by omega) )
      · refine jr.aload_n rfl rfl ?_
        refine jr.iload_n rfl rfl ?_
        refine jr.iload_n rfl rfl ?_
        refine jr.iconst rfl ?_
        refine jr.iadd rfl ?_
        refine jr_v rfl rfl (Or.inl rfl) rfl rfl (nlt rfl) rfl ⟨rfl, Nat.le_of_ble_eq_true rfl, Nat.le_of_ble_eq_true rfl⟩ rfl (jc.deep (r_two hI_M hH_M hS_M ht_M (by omega) (by omega)  (fun r2 z2  => ?_)) (Nat.le_of_ble_eq_true rfl))
        refine jr.i2l rfl (by omega) ?_
        refine jr.goto rfl rfl ?_
        exact jr.lreturn rfl rfl (q _ (by omega) )
    · refine jr.aload_n rfl rfl ?_
      refine jr.iload_n rfl rfl ?_
      refine jr.iload_n rfl rfl ?_
      refine jr.iload rfl rfl ?_
      refine jr.iadd rfl ?_
      refine jr_v rfl rfl (Or.inl rfl) rfl rfl (nlt rfl) rfl ⟨rfl, Nat.le_of_ble_eq_true rfl, Nat.le_of_ble_eq_true rfl⟩ rfl (jc.deep (r_one hI_M hH_M hS_M ht_M (by omega) (by omega)  (fun r3 z3 w3_0 => ?_)) (Nat.le_of_ble_eq_true rfl))
      refine jr.i2l rfl (by omega) ?_
      refine jr.goto rfl rfl ?_
      exact jr.lreturn rfl rfl (q _ (by omega) )
  · refine jc_of (m := xm_275) rfl (Nat.le_of_ble_eq_true rfl) rfl ?_
    refine jr.iload_n rfl rfl ?_
    refine jr.tsw_k 8 rfl rfl rfl ?_
    refine jr.aload_n rfl rfl ?_
    refine jr.iload_n rfl rfl ?_
    refine jr.iload_n rfl rfl ?_
    refine jr.iload rfl rfl ?_
    refine jr_v rfl rfl (Or.inl rfl) rfl rfl (nlt rfl) rfl ⟨rfl, Nat.le_of_ble_eq_true rfl, Nat.le_of_ble_eq_true rfl⟩ rfl (jc.deep (r_ofStream hI_M hH_M hS_M ht_M (by omega) (by omega) (by omega)  (fun r1 z1  => ?_)) (Nat.le_of_ble_eq_true rfl))
    exact jr.lreturn rfl rfl (q _ (by omega) )
  · refine jc_of (m := xm_275) rfl (Nat.le_of_ble_eq_true rfl) rfl ?_
    refine jr.iload_n rfl rfl ?_
    refine jr.tsw_k 9 rfl rfl rfl ?_
    refine jr.aload_n rfl rfl ?_
    refine jr.iload_n rfl rfl ?_
    refine jr.iload_n rfl rfl ?_
    refine jr.iconst rfl ?_
    refine jr.iload rfl rfl ?_
    refine jr.imul rfl ?_
    refine jr.iadd rfl ?_
    refine jr_v rfl rfl (Or.inl rfl) rfl rfl (nlt rfl) rfl ⟨rfl, Nat.le_of_ble_eq_true rfl, Nat.le_of_ble_eq_true rfl⟩ rfl (jc.deep (r_two hI_M hH_M hS_M ht_M (by omega) (by omega)  (fun r1 z1  => ?_)) (Nat.le_of_ble_eq_true rfl))
    refine jr.i2l rfl (by omega) ?_
    exact jr.lreturn rfl rfl (q _ (by omega) )
  · refine jc_of (m := xm_275) rfl (Nat.le_of_ble_eq_true rfl) rfl ?_
    refine jr.iload_n rfl rfl ?_
    refine jr.tsw_k 10 rfl rfl rfl ?_
    refine jr.aload_n rfl rfl ?_
    refine jr.iload_n rfl rfl ?_
    refine jr.iload_n rfl rfl ?_
    refine jr.iconst rfl ?_
    refine jr.iload rfl rfl ?_
    refine jr.imul rfl ?_
    refine jr.iadd rfl ?_
    refine jr_v rfl rfl (Or.inl rfl) rfl rfl (nlt rfl) rfl ⟨rfl, Nat.le_of_ble_eq_true rfl, Nat.le_of_ble_eq_true rfl⟩ rfl (jc.deep (r_two hI_M hH_M hS_M ht_M (by omega) (by omega)  (fun r1 z1  => ?_)) (Nat.le_of_ble_eq_true rfl))
    refine jr.i2l rfl (by omega) ?_
    exact jr.lreturn rfl rfl (q _ (by omega) )
  · refine jc_of (m := xm_275) rfl (Nat.le_of_ble_eq_true rfl) rfl ?_
    refine jr.iload_n rfl rfl ?_
    refine jr.tsw_d rfl (by decide) (by decide) rfl ?_
    refine jr.iload rfl rfl ?_
    refine jr.i2l rfl (by omega) ?_
    exact jr.lreturn rfl rfl (q _ (by omega) )
theorem c_isCarried {A : Nat → Option (Nat × (Nat → Int32))} {M : jm} {Q : Option Value → jm → Prop} {x : Int} (h_x : -2147483648 ≤ x ∧ x ≤ 2147483647) (k1 : x = 7 ∨ x = 8 ∨ x = 9 → Q (some (.int (Int32.ofInt 1))) M) (k0 : ¬ (x = 7 ∨ x = 8 ∨ x = 9) → Q (some (.int (Int32.ofInt 0))) M) : jc A 1 277 [.int (Int32.ofInt (x))] M Q := by
  refine jc_of (m := xm_277) rfl (Nat.le_of_ble_eq_true rfl) rfl ?_
  refine jr.iload_n rfl rfl ?_
  refine jr.bipush rfl (jbp _ (nlt rfl)) ?_
  refine jr.icmp_eq rfl rfl (by first | (refine rgb (by assumption) ?_; exact rfl) | omega) (rgl rfl) (fun h3 => ?_) (fun h3 => ?_)
  · refine jr.iconst rfl ?_
    refine jr.goto rfl rfl ?_
    exact jr.ireturn rfl rfl rfl (k1 (by omega))
  · refine jr.iload_n rfl rfl ?_
    refine jr.bipush rfl (jbp _ (nlt rfl)) ?_
    refine jr.icmp_eq rfl rfl (by first | (refine rgb (by assumption) ?_; exact rfl) | omega) (rgl rfl) (fun h9 => ?_) (fun h9 => ?_)
    · refine jr.iconst rfl ?_
      refine jr.goto rfl rfl ?_
      exact jr.ireturn rfl rfl rfl (k1 (by omega))
    · refine jr.iload_n rfl rfl ?_
      refine jr.bipush rfl (jbp _ (nlt rfl)) ?_
      refine jr.icmp_ne rfl rfl (by first | (refine rgb (by assumption) ?_; exact rfl) | omega) (rgl rfl) (fun h15 => ?_) (fun h15 => ?_)
      · refine jr.iconst rfl ?_
        exact jr.ireturn rfl rfl rfl (k0 (by omega))
      · refine jr.iconst rfl ?_
        refine jr.goto rfl rfl ?_
        exact jr.ireturn rfl rfl rfl (k1 (by omega))
end
section
/-! ===== the reference: contracts, d ===== -/
theorem c_isFlow {A : Nat → Option (Nat × (Nat → Int32))} {M : jm} {Q : Option Value → jm → Prop} (hI_M : RI M) {x : Int} (h_x : -2147483648 ≤ x ∧ x ≤ 2147483647) (k1 : 0 ≤ x → x ≤ 23 → M 627 x ≠ 0 → Q (some (.int (Int32.ofInt 1))) M) (k0 : ¬ (0 ≤ x ∧ x ≤ 23 ∧ M 627 x ≠ 0) → Q (some (.int (Int32.ofInt 0))) M) : jc A 2 315 [.ref (598), .int (Int32.ofInt (x))] M Q := by
  refine jc_of (m := xm_315) rfl (Nat.le_of_ble_eq_true rfl) rfl ?_
  refine jr.iload_n rfl rfl ?_
  refine jr.i2l rfl (by omega) ?_
  refine jr.lconst (x := 0) rfl (by decide) ?_
  refine jr.ldc2 (x := 23) rfl rfl (by decide) ?_
  refine jr_s rfl rfl (Or.inl rfl) ⟨Nat.le_of_ble_eq_true rfl, Nat.le_of_ble_eq_true rfl⟩ rfl rfl (jc.deep (c_within (by omega) (by omega) (by omega) (fun l6 u6 => ?_) (fun n6 => ?_)) (Nat.le_of_ble_eq_true rfl))
  · refine jr.if_eq rfl rfl (by first | exact rgl rfl | omega) (fun h => absurd h (by decide)) (fun _ => ?_)
    refine jr.aload_n rfl rfl ?_
    refine jr.getf (i := 39) (v := .ref 627) rfl rfl (nlt rfl) rfl (nlt rfl) rfl rfl rfl rfl ?_
    refine jr.iload_n rfl rfl ?_
    obtain ⟨v1, e1⟩ : ∃ z, M 627 x = z := ⟨_, rfl⟩
    have b1 : 0 ≤ v1 ∧ v1 ≤ 1 := by rw [← e1]; exact (by have q := hI_M 627 x (Nat.le_of_ble_eq_true rfl); rw [xri_row rfl rfl] at q; exact q)
    refine jr.zald (i := x) (x := v1) rfl (nlt rfl) rfl (Nat.le_of_ble_eq_true rfl) (by omega) (by omega) e1 ?_
    refine jr.if_eq rfl rfl (by first | (refine rgb (by assumption) ?_; exact rfl) | omega) (fun h18 => ?_) (fun h18 => ?_)
    · refine jr.iconst rfl ?_
      exact jr.ireturn rfl rfl rfl (k0 (by omega))
    · have sx18 : (1 : Int) ≤ v1 := by omega
      clear h18
      refine jr.iconst rfl ?_
      refine jr.goto rfl rfl ?_
      exact jr.ireturn rfl rfl rfl (k1 (by omega) (by omega) (by omega))
  · refine jr.if_eq rfl rfl (by first | exact rgl rfl | omega) (fun _ => ?_) (fun h => absurd (by decide) h)
    refine jr.iconst rfl ?_
    exact jr.ireturn rfl rfl rfl (k0 (by omega))
end
section
/-! ===== the reference: contracts, 33.re ===== -/
theorem r_net_L2 {A : Nat → Option (Nat × (Nat → Int32))} {Q : Option Value → jm → Prop} {T : jm} {M : jm} (hI_M : RI M) (hH_M : RH M) (hS_M : RF M) (ht_M : Kp T M) (q : ∀ (r : Int), (-1) ≤ r ∧ r ≤ 11 → (r = -1 ∨ (0 ≤ r ∧ r < M 598 6 ∧ (M 603 r = 2 ∧ M 604 r ≤ 380 ∨ M 603 r = 3 ∧ M 604 r ≤ 376))) → (r = -1 → (∀ j : Int, 0 ≤ j → j < M 598 6 → M 603 j ≠ 2 ∧ M 603 j ≠ 3)) → (∀ j : Int, 0 ≤ j → j < r → M 603 j ≠ 2 ∧ M 603 j ≠ 3) → Q (some (.int (Int32.ofInt r))) M) : ∀ (nM : Nat) (h : Int), 0 ≤ h ∧ h ≤ 12 → h ≤ M 598 6 → (∀ j : Int, 0 ≤ j → j < h → M 603 j ≠ 2 ∧ M 603 j ≠ 3) → 12 - h ≤ nM → jr A 0 xm_286 2 [(1, .int (Int32.ofInt (h))), (0, .ref (598))] [] M Q := by
  intro nM
  induction nM using Nat.strongRecOn with
  | ind nM ih =>
    intro h h_h hy0 hy1 hm
    have rt := RH.two hH_M h
    refine jr.iload_n rfl rfl ?_
    refine jr.aload_n rfl rfl ?_
    obtain ⟨v1, e1⟩ : ∃ z, M 598 6 = z := ⟨_, rfl⟩
    have b1 : 0 ≤ v1 ∧ v1 ≤ 12 := by rw [← e1]; exact hI_M 598 6 (Nat.le_of_ble_eq_true rfl)
    refine jr.getf (i := 6) (x := v1) (v := .int (Int32.ofInt (v1))) rfl rfl (nlt rfl) rfl (nlt rfl) rfl rfl e1 rfl ?_
    refine jr.icmp_ge rfl rfl (by first | (refine rgb (by assumption) ?_; exact rfl) | omega) (by first | (refine rgb (by assumption) ?_; exact rfl) | omega) (fun h7 => ?_) (fun h7 => ?_)
    · refine jr.iload_n rfl rfl ?_
      refine jr.aload_n rfl rfl ?_
      refine jr.getf (i := 6) (x := v1) (v := .int (Int32.ofInt (v1))) rfl rfl (nlt rfl) rfl (nlt rfl) rfl rfl e1 rfl ?_
      refine jr.icmp_ge rfl rfl (by first | (refine rgb (by assumption) ?_; exact rfl) | omega) (by first | (refine rgb (by assumption) ?_; exact rfl) | omega) (fun h41 => ?_) (fun h41 => ?_)
      · refine jr.iconst rfl ?_
        exact jr.ireturn rfl rfl rfl (q _ (by first | exact rgq rfl | omega) (by omega) (fun _ j j0 j1 => hy1 j j0 (by omega)) (fun j j0 j1 => hy1 j j0 (by omega)))
      · refine jr.iload_n rfl rfl ?_
        refine jr.goto rfl rfl ?_
        exact jr.ireturn rfl rfl rfl (q _ (by omega) (by omega) (fun q => absurd q (by omega)) (fun j j0 j1 => hy1 j j0 (by omega)))
    · refine jr.aload_n rfl rfl ?_
      refine jr.getf (i := 7) (v := .ref 603) rfl rfl (nlt rfl) rfl (nlt rfl) rfl rfl rfl rfl ?_
      refine jr.iload_n rfl rfl ?_
      obtain ⟨v2, e2⟩ : ∃ z, M 603 h = z := ⟨_, rfl⟩
      have b2 : 0 ≤ v2 ∧ v2 ≤ 11 := by rw [← e2]; exact (by have q := hI_M 603 h (Nat.le_of_ble_eq_true rfl); rw [xri_row rfl rfl] at q; exact q)
      refine jr.iald (i := h) (x := v2) rfl (nlt rfl) rfl (Nat.le_of_ble_eq_true rfl) (by omega) (by omega) e2 ?_
      refine jr.iconst rfl ?_
      refine jr.icmp_eq rfl rfl (by first | (refine rgb (by assumption) ?_; exact rfl) | omega) (rgl rfl) (fun h17 => ?_) (fun h17 => ?_)
      · refine jr.iload_n rfl rfl ?_
        refine jr.aload_n rfl rfl ?_
        refine jr.getf (i := 6) (x := v1) (v := .int (Int32.ofInt (v1))) rfl rfl (nlt rfl) rfl (nlt rfl) rfl rfl e1 rfl ?_
        refine jr.icmp_ge rfl rfl (by first | (refine rgb (by assumption) ?_; exact rfl) | omega) (by first | (refine rgb (by assumption) ?_; exact rfl) | omega) (fun h41 => ?_) (fun h41 => ?_)
        · refine jr.iconst rfl ?_
          exact jr.ireturn rfl rfl rfl (q _ (by first | exact rgq rfl | omega) (by omega) (fun _ j j0 j1 => hy1 j j0 (by omega)) (fun j j0 j1 => hy1 j j0 (by omega)))
        · refine jr.iload_n rfl rfl ?_
          refine jr.goto rfl rfl ?_
          exact jr.ireturn rfl rfl rfl (q _ (by omega) (by omega) (fun q => absurd q (by omega)) (fun j j0 j1 => hy1 j j0 (by omega)))
      · refine jr.aload_n rfl rfl ?_
        refine jr.getf (i := 7) (v := .ref 603) rfl rfl (nlt rfl) rfl (nlt rfl) rfl rfl rfl rfl ?_
        refine jr.iload_n rfl rfl ?_
        refine jr.iald (i := h) (x := v2) rfl (nlt rfl) rfl (Nat.le_of_ble_eq_true rfl) (by omega) (by omega) e2 ?_
        refine jr.iconst rfl ?_
        refine jr.icmp_eq rfl rfl (by first | (refine rgb (by assumption) ?_; exact rfl) | omega) (rgl rfl) (fun h27 => ?_) (fun h27 => ?_)
        · refine jr.iload_n rfl rfl ?_
          refine jr.aload_n rfl rfl ?_
          refine jr.getf (i := 6) (x := v1) (v := .int (Int32.ofInt (v1))) rfl rfl (nlt rfl) rfl (nlt rfl) rfl rfl e1 rfl ?_
          refine jr.icmp_ge rfl rfl (by first | (refine rgb (by assumption) ?_; exact rfl) | omega) (by first | (refine rgb (by assumption) ?_; exact rfl) | omega) (fun h41 => ?_) (fun h41 => ?_)
          · refine jr.iconst rfl ?_
            exact jr.ireturn rfl rfl rfl (q _ (by first | exact rgq rfl | omega) (by omega) (fun _ j j0 j1 => hy1 j j0 (by omega)) (fun j j0 j1 => hy1 j j0 (by omega)))
          · refine jr.iload_n rfl rfl ?_
            refine jr.goto rfl rfl ?_
            exact jr.ireturn rfl rfl rfl (q _ (by omega) (by omega) (fun q => absurd q (by omega)) (fun j j0 j1 => hy1 j j0 (by omega)))
        · refine jr.iinc (ls' := [_, _]) rfl rfl (nlt rfl) rfl ?_
          refine jr.goto rfl rfl ?_
          refine jr.pick (ls := [_, _]) [0, 1] rfl rfl ?_
          exact ih (nM - 1) (by omega) (h + 1) (by omega) (by omega) (fun j j0 j1 => by by_cases q : j = h; (subst q; omega); exact hy1 j j0 (by omega)) (by omega)
theorem r_net {A : Nat → Option (Nat × (Nat → Int32))} {Q : Option Value → jm → Prop} {T : jm} {M : jm} (hI_M : RI M) (hH_M : RH M) (hS_M : RF M) (ht_M : Kp T M) (q : ∀ (r : Int), (-1) ≤ r ∧ r ≤ 11 → (r = -1 ∨ (0 ≤ r ∧ r < M 598 6 ∧ (M 603 r = 2 ∧ M 604 r ≤ 380 ∨ M 603 r = 3 ∧ M 604 r ≤ 376))) → (r = -1 → (∀ j : Int, 0 ≤ j → j < M 598 6 → M 603 j ≠ 2 ∧ M 603 j ≠ 3)) → (∀ j : Int, 0 ≤ j → j < r → M 603 j ≠ 2 ∧ M 603 j ≠ 3) → Q (some (.int (Int32.ofInt r))) M) : jc A 1 286 [.ref (598)] M Q := by
  have bh : (0 : Int) ≤ M 598 6 ∧ M 598 6 ≤ 12 := hI_M 598 6 (Nat.le_of_ble_eq_true rfl)
  refine jc_of (m := xm_286) rfl (Nat.le_of_ble_eq_true rfl) rfl ?_
  refine jr.iconst rfl ?_
  refine jr.istore_n (ls' := [_, _]) rfl (nlt rfl) rfl ?_
  refine jr.pick (ls := [_, _]) [0, 1] rfl rfl ?_
  exact r_net_L2 hI_M hH_M hS_M ht_M q 12 0 (by omega) (by omega) (fun j j0 j1 => by omega) (by omega)
theorem r_piece_L67 {A : Nat → Option (Nat × (Nat → Int32))} {Q : Option Value → jm → Prop} {T : jm} {M : jm} (hI_M : RI M) (hH_M : RH M) (hS_M : RF M) (ht_M : Kp T M) (q : ∀ (r : Int), (-1) ≤ r ∧ r ≤ 11 → (r = -1 ∨ (0 ≤ r ∧ r < M 598 6 ∧ (M 603 r = 2 ∧ M 604 r ≤ 380 ∨ M 603 r = 6 ∧ M 604 r ≤ 392 ∧ 1 ≤ r))) → (r ≠ -1 → (∃ t : Int, 0 ≤ t ∧ t < M 598 6 ∧ (M 603 t = 2 ∨ M 603 t = 3) ∧ (∀ j : Int, 0 ≤ j → j < t → M 603 j ≠ 2 ∧ M 603 j ≠ 3) ∧ ((M 603 r = 2 ∧ t = r) ∨ (M 603 r = 6 ∧ M 603 t = 3)))) → Q (some (.int (Int32.ofInt r))) M) : ∀ (nM : Nat) (h : Int) (x : Int), 1 ≤ h ∧ h ≤ 13 → 0 ≤ x ∧ x ≤ 23 → (∃ t : Int, 0 ≤ t ∧ t < M 598 6 ∧ M 603 t = 3 ∧ (∀ j : Int, 0 ≤ j → j < t → M 603 j ≠ 2 ∧ M 603 j ≠ 3)) → 13 - h ≤ nM → jr A 4 xm_287 67 [(2, .int (Int32.ofInt (h))), (1, .int (Int32.ofInt (x))), (0, .ref (598))] [] M Q := by
  intro nM
  induction nM using Nat.strongRecOn with
  | ind nM ih =>
    intro h x h_h h_x hy0 hm
    have rt := RH.part hH_M h
    refine jr.iload_n rfl rfl ?_
    refine jr.aload_n rfl rfl ?_
    obtain ⟨v1, e1⟩ : ∃ z, M 598 6 = z := ⟨_, rfl⟩
    have b1 : 0 ≤ v1 ∧ v1 ≤ 12 := by rw [← e1]; exact hI_M 598 6 (Nat.le_of_ble_eq_true rfl)
    refine jr.getf (i := 6) (x := v1) (v := .int (Int32.ofInt (v1))) rfl rfl (nlt rfl) rfl (nlt rfl) rfl rfl e1 rfl ?_
    refine jr.icmp_ge rfl rfl (by first | (refine rgb (by assumption) ?_; exact rfl) | omega) (by first | (refine rgb (by assumption) ?_; exact rfl) | omega) (fun h72 => ?_) (fun h72 => ?_)
    · refine jr.iload_n rfl rfl ?_
      refine jr.aload_n rfl rfl ?_
      refine jr.getf (i := 6) (x := v1) (v := .int (Int32.ofInt (v1))) rfl rfl (nlt rfl) rfl (nlt rfl) rfl rfl e1 rfl ?_
      refine jr.icmp_ge rfl rfl (by first | (refine rgb (by assumption) ?_; exact rfl) | omega) (by first | (refine rgb (by assumption) ?_; exact rfl) | omega) (fun h106 => ?_) (fun h106 => ?_)
      · refine jr.iconst rfl ?_
        exact jr.ireturn rfl rfl rfl (q _ (by first | exact rgq rfl | omega) (by omega) (fun q => by first | exact absurd rfl q | (obtain ⟨t, z1, z2, z3, z4⟩ := hy0; exact ⟨t, z1, z2, Or.inr z3, z4, Or.inr ⟨by omega, z3⟩⟩) | exact ⟨r1, by omega, by omega, by omega, w1_2, Or.inl ⟨by omega, rfl⟩⟩))
      · refine jr.aload_n rfl rfl ?_
        refine jr.getf (i := 7) (v := .ref 603) rfl rfl (nlt rfl) rfl (nlt rfl) rfl rfl rfl rfl ?_
        refine jr.iload_n rfl rfl ?_
        obtain ⟨v2, e2⟩ : ∃ z, M 603 h = z := ⟨_, rfl⟩
        have b2 : 0 ≤ v2 ∧ v2 ≤ 11 := by rw [← e2]; exact (by have q := hI_M 603 h (Nat.le_of_ble_eq_true rfl); rw [xri_row rfl rfl] at q; exact q)
        refine jr.iald (i := h) (x := v2) rfl (nlt rfl) rfl (Nat.le_of_ble_eq_true rfl) (by omega) (by omega) e2 ?_
        refine jr.bipush rfl (jbp _ (nlt rfl)) ?_
        refine jr.icmp_ne rfl rfl (by first | (refine rgb (by assumption) ?_; exact rfl) | omega) (rgl rfl) (fun h117 => ?_) (fun h117 => ?_)
        · refine jr.iconst rfl ?_
          exact jr.ireturn rfl rfl rfl (q _ (by first | exact rgq rfl | omega) (by omega) (fun q => by first | exact absurd rfl q | (obtain ⟨t, z1, z2, z3, z4⟩ := hy0; exact ⟨t, z1, z2, Or.inr z3, z4, Or.inr ⟨by omega, z3⟩⟩) | exact ⟨r1, by omega, by omega, by omega, w1_2, Or.inl ⟨by omega, rfl⟩⟩))
        · refine jr.iload_n rfl rfl ?_
          refine jr.goto rfl rfl ?_
          exact jr.ireturn rfl rfl rfl (q _ (by omega) (by omega) (fun q => by first | exact absurd rfl q | (obtain ⟨t, z1, z2, z3, z4⟩ := hy0; exact ⟨t, z1, z2, Or.inr z3, z4, Or.inr ⟨by omega, z3⟩⟩) | exact ⟨r1, by omega, by omega, by omega, w1_2, Or.inl ⟨by omega, rfl⟩⟩))
    · refine jr.aload_n rfl rfl ?_
      refine jr.getf (i := 7) (v := .ref 603) rfl rfl (nlt rfl) rfl (nlt rfl) rfl rfl rfl rfl ?_
      refine jr.iload_n rfl rfl ?_
      obtain ⟨v3, e3⟩ : ∃ z, M 603 h = z := ⟨_, rfl⟩
      have b3 : 0 ≤ v3 ∧ v3 ≤ 11 := by rw [← e3]; exact (by have q := hI_M 603 h (Nat.le_of_ble_eq_true rfl); rw [xri_row rfl rfl] at q; exact q)
      refine jr.iald (i := h) (x := v3) rfl (nlt rfl) rfl (Nat.le_of_ble_eq_true rfl) (by omega) (by omega) e3 ?_
      refine jr.iconst rfl ?_
      refine jr.icmp_eq rfl rfl (by first | (refine rgb (by assumption) ?_; exact rfl) | omega) (rgl rfl) (fun h82 => ?_) (fun h82 => ?_)
      · refine jr.iinc (ls' := [_, _, _]) rfl rfl (nlt rfl) rfl ?_
        refine jr.goto rfl rfl ?_
        refine jr.pick (ls := [_, _, _]) [0, 1, 2] rfl rfl ?_
        exact ih (nM - 1) (by omega) (h + 1) x (by omega) (by omega) hy0 (by omega)
      · refine jr.aload_n rfl rfl ?_
        refine jr.getf (i := 7) (v := .ref 603) rfl rfl (nlt rfl) rfl (nlt rfl) rfl rfl rfl rfl ?_
        refine jr.iload_n rfl rfl ?_
        refine jr.iald (i := h) (x := v3) rfl (nlt rfl) rfl (Nat.le_of_ble_eq_true rfl) (by omega) (by omega) e3 ?_
        refine jr.iconst rfl ?_
        refine jr.icmp_ne rfl rfl (by first | (refine rgb (by assumption) ?_; exact rfl) | omega) (rgl rfl) (fun h92 => ?_) (fun h92 => ?_)
        · refine jr.iload_n rfl rfl ?_
          refine jr.aload_n rfl rfl ?_
          refine jr.getf (i := 6) (x := v1) (v := .int (Int32.ofInt (v1))) rfl rfl (nlt rfl) rfl (nlt rfl) rfl rfl e1 rfl ?_
          refine jr.icmp_ge rfl rfl (by first | (refine rgb (by assumption) ?_; exact rfl) | omega) (by first | (refine rgb (by assumption) ?_; exact rfl) | omega) (fun h106 => ?_) (fun h106 => ?_)
          · refine jr.iconst rfl ?_
            exact jr.ireturn rfl rfl rfl (q _ (by first | exact rgq rfl | omega) (by omega) (fun q => by first | exact absurd rfl q | (obtain ⟨t, z1, z2, z3, z4⟩ := hy0; exact ⟨t, z1, z2, Or.inr z3, z4, Or.inr ⟨by omega, z3⟩⟩) | exact ⟨r1, by omega, by omega, by omega, w1_2, Or.inl ⟨by omega, rfl⟩⟩))
          · refine jr.aload_n rfl rfl ?_
            refine jr.getf (i := 7) (v := .ref 603) rfl rfl (nlt rfl) rfl (nlt rfl) rfl rfl rfl rfl ?_
            refine jr.iload_n rfl rfl ?_
            refine jr.iald (i := h) (x := v3) rfl (nlt rfl) rfl (Nat.le_of_ble_eq_true rfl) (by omega) (by omega) e3 ?_
            refine jr.bipush rfl (jbp _ (nlt rfl)) ?_
            refine jr.icmp_ne rfl rfl (by first | (refine rgb (by assumption) ?_; exact rfl) | omega) (rgl rfl) (fun h117 => ?_) (fun h117 => ?_)
            · refine jr.iconst rfl ?_
              exact jr.ireturn rfl rfl rfl (q _ (by first | exact rgq rfl | omega) (by omega) (fun q => by first | exact absurd rfl q | (obtain ⟨t, z1, z2, z3, z4⟩ := hy0; exact ⟨t, z1, z2, Or.inr z3, z4, Or.inr ⟨by omega, z3⟩⟩) | exact ⟨r1, by omega, by omega, by omega, w1_2, Or.inl ⟨by omega, rfl⟩⟩))
            · refine jr.iload_n rfl rfl ?_
              refine jr.goto rfl rfl ?_
              exact jr.ireturn rfl rfl rfl (q _ (by omega) (by omega) (fun q => by first | exact absurd rfl q | (obtain ⟨t, z1, z2, z3, z4⟩ := hy0; exact ⟨t, z1, z2, Or.inr z3, z4, Or.inr ⟨by omega, z3⟩⟩) | exact ⟨r1, by omega, by omega, by omega, w1_2, Or.inl ⟨by omega, rfl⟩⟩))
        · refine jr.iinc (ls' := [_, _, _]) rfl rfl (nlt rfl) rfl ?_
          refine jr.goto rfl rfl ?_
          refine jr.pick (ls := [_, _, _]) [0, 1, 2] rfl rfl ?_
          exact ih (nM - 1) (by omega) (h + 1) x (by omega) (by omega) hy0 (by omega)
theorem r_piece {A : Nat → Option (Nat × (Nat → Int32))} {Q : Option Value → jm → Prop} {T : jm} {M : jm} (hI_M : RI M) (hH_M : RH M) (hS_M : RF M) (ht_M : Kp T M) {x : Int} (h_x : 0 ≤ x ∧ x ≤ 23) (q : ∀ (r : Int), (-1) ≤ r ∧ r ≤ 11 → (r = -1 ∨ (0 ≤ r ∧ r < M 598 6 ∧ (M 603 r = 2 ∧ M 604 r ≤ 380 ∨ M 603 r = 6 ∧ M 604 r ≤ 392 ∧ 1 ≤ r))) → (r ≠ -1 → (∃ t : Int, 0 ≤ t ∧ t < M 598 6 ∧ (M 603 t = 2 ∨ M 603 t = 3) ∧ (∀ j : Int, 0 ≤ j → j < t → M 603 j ≠ 2 ∧ M 603 j ≠ 3) ∧ ((M 603 r = 2 ∧ t = r) ∨ (M 603 r = 6 ∧ M 603 t = 3)))) → Q (some (.int (Int32.ofInt r))) M) : jc A 5 287 [.ref (598), .int (Int32.ofInt (x))] M Q := by
  refine jc_of (m := xm_287) rfl (Nat.le_of_ble_eq_true rfl) rfl ?_
  refine jr.aload_n rfl rfl ?_
  refine jr_v rfl rfl (Or.inl rfl) rfl rfl (nlt rfl) rfl ⟨rfl, Nat.le_of_ble_eq_true rfl, Nat.le_of_ble_eq_true rfl⟩ rfl (jc.deep (r_net hI_M hH_M hS_M ht_M   (fun r1 z1 w1_0 w1_1 w1_2 => ?_)) (Nat.le_of_ble_eq_true rfl))
  refine jr.istore_n (ls' := [_, _, _]) rfl (nlt rfl) rfl ?_
  refine jr.iload_n rfl rfl ?_
  refine jr.iconst rfl ?_
  refine jr.icmp_ne rfl rfl (by first | (refine rgb (by assumption) ?_; exact rfl) | omega) (rgl rfl) (fun h7 => ?_) (fun h7 => ?_)
  · refine jr.aload_n rfl rfl ?_
    refine jr.getf (i := 7) (v := .ref 603) rfl rfl (nlt rfl) rfl (nlt rfl) rfl rfl rfl rfl ?_
    refine jr.iload_n rfl rfl ?_
    obtain ⟨v2, e2⟩ : ∃ z, M 603 r1 = z := ⟨_, rfl⟩
    have b2 : 0 ≤ v2 ∧ v2 ≤ 11 := by rw [← e2]; exact (by have q := hI_M 603 r1 (Nat.le_of_ble_eq_true rfl); rw [xri_row rfl rfl] at q; exact q)
    refine jr.iald (i := r1) (x := v2) rfl (nlt rfl) rfl (Nat.le_of_ble_eq_true rfl) (by omega) (by omega) e2 ?_
    refine jr.iconst rfl ?_
    refine jr.icmp_ne rfl rfl (by first | (refine rgb (by assumption) ?_; exact rfl) | omega) (rgl rfl) (fun h19 => ?_) (fun h19 => ?_)
    · refine jr.iinc (ls' := [_, _, _]) rfl rfl (nlt rfl) rfl ?_
      refine jr.pick (ls := [_, _, _]) [0, 2, 1] rfl rfl ?_
      exact r_piece_L67 hI_M hH_M hS_M ht_M q 13 (r1 + 1) x (by omega) (by omega) ⟨r1, by omega, by omega, by omega, w1_2⟩ (by omega)
    · refine jr.aload_n rfl rfl ?_
      refine jr.iload_n rfl rfl ?_
      refine jr.aload_n rfl rfl ?_
      refine jr.getf (i := 8) (v := .ref 604) rfl rfl (nlt rfl) rfl (nlt rfl) rfl rfl rfl rfl ?_
      refine jr.iload_n rfl rfl ?_
      obtain ⟨v3, e3⟩ : ∃ z, M 604 r1 = z := ⟨_, rfl⟩
      have b3 : 0 ≤ v3 ∧ v3 ≤ 400 := by rw [← e3]; exact (by have q := hI_M 604 r1 (Nat.le_of_ble_eq_true rfl); rw [xri_row rfl rfl] at q; exact q)
      refine jr.iald (i := r1) (x := v3) rfl (nlt rfl) rfl (Nat.le_of_ble_eq_true rfl) (by omega) (by omega) e3 ?_
      refine jr.iconst rfl ?_
      refine jr_v rfl rfl (Or.inl rfl) rfl rfl (nlt rfl) rfl ⟨rfl, Nat.le_of_ble_eq_true rfl, Nat.le_of_ble_eq_true rfl⟩ rfl (jc.deep (r_ofFour hI_M hH_M hS_M ht_M (by omega) (by omega) (by omega)  (fun r4 z4 w4_0 => ?_)) (Nat.le_of_ble_eq_true rfl))
      refine jr.lconst (x := 0) rfl (by decide) ?_
      refine jr.lcmp_gt rfl rfl rfl (by omega) (by omega) (fun h35 => ?_) (fun h35 => ?_)
      · refine jr.iload_n rfl rfl ?_
        refine jr.goto rfl rfl ?_
        exact jr.ireturn rfl rfl rfl (q _ (by omega) (by omega) (fun q => by first | exact absurd rfl q | (obtain ⟨t, z1, z2, z3, z4⟩ := hy0; exact ⟨t, z1, z2, Or.inr z3, z4, Or.inr ⟨by omega, z3⟩⟩) | exact ⟨r1, by omega, by omega, by omega, w1_2, Or.inl ⟨by omega, rfl⟩⟩))
      · refine jr.aload_n rfl rfl ?_
        refine jr.iload_n rfl rfl ?_
        refine jr.aload_n rfl rfl ?_
        refine jr.getf (i := 8) (v := .ref 604) rfl rfl (nlt rfl) rfl (nlt rfl) rfl rfl rfl rfl ?_
        refine jr.iload_n rfl rfl ?_
        refine jr.iald (i := r1) (x := v3) rfl (nlt rfl) rfl (Nat.le_of_ble_eq_true rfl) (by omega) (by omega) e3 ?_
        refine jr.iconst rfl ?_
        refine jr_v rfl rfl (Or.inl rfl) rfl rfl (nlt rfl) rfl ⟨rfl, Nat.le_of_ble_eq_true rfl, Nat.le_of_ble_eq_true rfl⟩ rfl (jc.deep (r_ofFour hI_M hH_M hS_M ht_M (by omega) (by omega) (by omega)  (fun r5 z5 w5_0 => ?_)) (Nat.le_of_ble_eq_true rfl))
        refine jr.lconst (x := 1) rfl (by decide) ?_
        refine jr.land rfl ?_
        have b6 : 0 ≤ jl_and r5 1 ∧ jl_and r5 1 ≤ 1 := jl_and_le (by decide)
        generalize jl_and r5 1 = v6 at b6 ⊢
        refine jr.lconst (x := 1) rfl (by decide) ?_
        refine jr.lcmp_ne rfl rfl rfl (by omega) (by omega) (fun h54 => ?_) (fun h54 => ?_)
        · refine jr.iconst rfl ?_
          exact jr.ireturn rfl rfl rfl (q _ (by first | exact rgq rfl | omega) (by omega) (fun q => by first | exact absurd rfl q | (obtain ⟨t, z1, z2, z3, z4⟩ := hy0; exact ⟨t, z1, z2, Or.inr z3, z4, Or.inr ⟨by omega, z3⟩⟩) | exact ⟨r1, by omega, by omega, by omega, w1_2, Or.inl ⟨by omega, rfl⟩⟩))
        · refine jr.iload_n rfl rfl ?_
          refine jr.goto rfl rfl ?_
          exact jr.ireturn rfl rfl rfl (q _ (by omega) (by omega) (fun q => by first | exact absurd rfl q | (obtain ⟨t, z1, z2, z3, z4⟩ := hy0; exact ⟨t, z1, z2, Or.inr z3, z4, Or.inr ⟨by omega, z3⟩⟩) | exact ⟨r1, by omega, by omega, by omega, w1_2, Or.inl ⟨by omega, rfl⟩⟩))
  · refine jr.iconst rfl ?_
    exact jr.ireturn rfl rfl rfl (q _ (by first | exact rgq rfl | omega) (by omega) (fun q => by first | exact absurd rfl q | (obtain ⟨t, z1, z2, z3, z4⟩ := hy0; exact ⟨t, z1, z2, Or.inr z3, z4, Or.inr ⟨by omega, z3⟩⟩) | exact ⟨r1, by omega, by omega, by omega, w1_2, Or.inl ⟨by omega, rfl⟩⟩))
theorem r_sideOf {A : Nat → Option (Nat × (Nat → Int32))} {Q : Option Value → jm → Prop} {T : jm} {M : jm} (hI_M : RI M) (hH_M : RH M) (hS_M : RF M) (ht_M : Kp T M) {f : Int} (h_f : 0 ≤ f ∧ f ≤ 23) (q : ∀ (r : Int), (-1) ≤ r ∧ r ≤ 1 → (r = -1 ∨ M 629 f = M 598 60) → Q (some (.int (Int32.ofInt r))) M) : jc A 1 303 [.ref (598), .int (Int32.ofInt (f))] M Q := by
  refine jc_of (m := xm_303) rfl (Nat.le_of_ble_eq_true rfl) rfl ?_
  refine jr.aload_n rfl rfl ?_
  refine jr.getf (i := 39) (v := .ref 627) rfl rfl (nlt rfl) rfl (nlt rfl) rfl rfl rfl rfl ?_
  refine jr.iload_n rfl rfl ?_
  obtain ⟨v1, e1⟩ : ∃ z, M 627 f = z := ⟨_, rfl⟩
  have b1 : 0 ≤ v1 ∧ v1 ≤ 1 := by rw [← e1]; exact (by have q := hI_M 627 f (Nat.le_of_ble_eq_true rfl); rw [xri_row rfl rfl] at q; exact q)
  refine jr.zald (i := f) (x := v1) rfl (nlt rfl) rfl (Nat.le_of_ble_eq_true rfl) (by omega) (by omega) e1 ?_
  refine jr.if_eq rfl rfl (by first | (refine rgb (by assumption) ?_; exact rfl) | omega) (fun h6 => ?_) (fun h6 => ?_)
  · refine jr.iconst rfl ?_
    exact jr.ireturn rfl rfl rfl (q _ (by first | exact rgq rfl | omega) (by omega))
  · refine jr.aload_n rfl rfl ?_
    refine jr.getf (i := 40) (v := .ref 628) rfl rfl (nlt rfl) rfl (nlt rfl) rfl rfl rfl rfl ?_
    refine jr.iload_n rfl rfl ?_
    obtain ⟨v2, e2⟩ : ∃ z, M 628 f = z := ⟨_, rfl⟩
    have b2 : 0 ≤ v2 ∧ v2 ≤ 1 := by rw [← e2]; exact (by have q := hI_M 628 f (Nat.le_of_ble_eq_true rfl); rw [xri_row rfl rfl] at q; exact q)
    refine jr.zald (i := f) (x := v2) rfl (nlt rfl) rfl (Nat.le_of_ble_eq_true rfl) (by omega) (by omega) e2 ?_
    refine jr.aload_n rfl rfl ?_
    obtain ⟨v3, e3⟩ : ∃ z, M 598 59 = z := ⟨_, rfl⟩
    have b3 : 0 ≤ v3 ∧ v3 ≤ 1 := by rw [← e3]; exact hI_M 598 59 (Nat.le_of_ble_eq_true rfl)
    refine jr.getf (i := 59) (x := v3) (v := .int (Int32.ofInt (v3))) rfl rfl (nlt rfl) rfl (nlt rfl) rfl rfl e3 rfl ?_
    refine jr.icmp_ne rfl rfl (by first | (refine rgb (by assumption) ?_; exact rfl) | omega) (by first | (refine rgb (by assumption) ?_; exact rfl) | omega) (fun h19 => ?_) (fun h19 => ?_)
    · refine jr.iconst rfl ?_
      exact jr.ireturn rfl rfl rfl (q _ (by first | exact rgq rfl | omega) (by omega))
    · refine jr.aload_n rfl rfl ?_
      refine jr.getf (i := 41) (v := .ref 629) rfl rfl (nlt rfl) rfl (nlt rfl) rfl rfl rfl rfl ?_
      refine jr.iload_n rfl rfl ?_
      obtain ⟨v4, e4⟩ : ∃ z, M 629 f = z := ⟨_, rfl⟩
      have b4 : 0 ≤ v4 ∧ v4 ≤ 255 := by rw [← e4]; exact (by have q := hI_M 629 f (Nat.le_of_ble_eq_true rfl); rw [xri_row rfl rfl] at q; exact q)
      refine jr.iald (i := f) (x := v4) rfl (nlt rfl) rfl (Nat.le_of_ble_eq_true rfl) (by omega) (by omega) e4 ?_
      refine jr.aload_n rfl rfl ?_
      obtain ⟨v5, e5⟩ : ∃ z, M 598 60 = z := ⟨_, rfl⟩
      have b5 : 0 ≤ v5 ∧ v5 ≤ 255 := by rw [← e5]; exact hI_M 598 60 (Nat.le_of_ble_eq_true rfl)
      refine jr.getf (i := 60) (x := v5) (v := .int (Int32.ofInt (v5))) rfl rfl (nlt rfl) rfl (nlt rfl) rfl rfl e5 rfl ?_
      refine jr.icmp_eq rfl rfl (by first | (refine rgb (by assumption) ?_; exact rfl) | omega) (by first | (refine rgb (by assumption) ?_; exact rfl) | omega) (fun h32 => ?_) (fun h32 => ?_)
      · refine jr.iconst rfl ?_
        refine jr.iload_n rfl rfl ?_
        refine jr.imul rfl ?_
        refine jr.istore_n (ls' := [_, _, _]) rfl (nlt rfl) rfl ?_
        refine jr.iload_n rfl rfl ?_
        refine jr.iconst rfl ?_
        refine jr.iadd rfl ?_
        refine jr.istore_n (ls' := [_, _, _, _]) rfl (nlt rfl) rfl ?_
        refine jr.aload_n rfl rfl ?_
        obtain ⟨v6, e6⟩ : ∃ z, M 598 61 = z := ⟨_, rfl⟩
        have b6 : (-9223372036854775808) ≤ v6 ∧ v6 ≤ 9223372036854775807 := by rw [← e6]; exact hI_M 598 61 (Nat.le_of_ble_eq_true rfl)
        refine jr.getf (i := 61) (x := v6) (v := .long (Int64.ofInt (v6))) rfl rfl (nlt rfl) rfl (nlt rfl) rfl rfl e6 rfl ?_
        refine jr.aload_n rfl rfl ?_
        refine jr.getf (i := 42) (v := .ref 630) rfl rfl (nlt rfl) rfl (nlt rfl) rfl rfl rfl rfl ?_
        refine jr.iload_n rfl rfl ?_
        obtain ⟨v7, e7⟩ : ∃ z, M 630 (2 * f) = z := ⟨_, rfl⟩
        have b7 : (-9223372036854775808) ≤ v7 ∧ v7 ≤ 9223372036854775807 := by rw [← e7]; exact (by have q := hI_M 630 (2 * f) (Nat.le_of_ble_eq_true rfl); rw [xri_row rfl rfl] at q; exact q)
        refine jr.lald (i := (2 * f)) (x := v7) rfl (nlt rfl) rfl (Nat.le_of_ble_eq_true rfl) (by omega) (by omega) e7 ?_
        refine jr.lcmp_ne rfl rfl rfl (by omega) (by omega) (fun h55 => ?_) (fun h55 => ?_)
        · refine jr.aload_n rfl rfl ?_
          refine jr.getf (i := 52) (v := .ref 640) rfl rfl (nlt rfl) rfl (nlt rfl) rfl rfl rfl rfl ?_
          refine jr.iload_n rfl rfl ?_
          obtain ⟨v8, e8⟩ : ∃ z, M 640 f = z := ⟨_, rfl⟩
          have b8 : (-1) ≤ v8 ∧ v8 ≤ 3 := by rw [← e8]; exact (by have q := hI_M 640 f (Nat.le_of_ble_eq_true rfl); rw [xri_row rfl rfl] at q; exact q)
          refine jr.iald (i := f) (x := v8) rfl (nlt rfl) rfl (Nat.le_of_ble_eq_true rfl) (by omega) (by omega) e8 ?_
          refine jr.iconst rfl ?_
          refine jr.icmp_ne rfl rfl (by first | (refine rgb (by assumption) ?_; exact rfl) | omega) (rgl rfl) (fun h108 => ?_) (fun h108 => ?_)
          · refine jr.aload_n rfl rfl ?_
            refine jr.getf (i := 53) (v := .ref 641) rfl rfl (nlt rfl) rfl (nlt rfl) rfl rfl rfl rfl ?_
            refine jr.iload_n rfl rfl ?_
            obtain ⟨v9, e9⟩ : ∃ z, M 641 f = z := ⟨_, rfl⟩
            have b9 : (-9223372036854775808) ≤ v9 ∧ v9 ≤ 9223372036854775807 := by rw [← e9]; exact (by have q := hI_M 641 f (Nat.le_of_ble_eq_true rfl); rw [xri_row rfl rfl] at q; exact q)
            refine jr.lald (i := f) (x := v9) rfl (nlt rfl) rfl (Nat.le_of_ble_eq_true rfl) (by omega) (by omega) e9 ?_
            refine jr.lstore (ls' := [_, _, _, _, _]) rfl (nlt rfl) rfl ?_
            refine jr.aload_n rfl rfl ?_
            refine jr.getf (i := 52) (v := .ref 640) rfl rfl (nlt rfl) rfl (nlt rfl) rfl rfl rfl rfl ?_
            refine jr.iload_n rfl rfl ?_
            refine jr.iald (i := f) (x := v8) rfl (nlt rfl) rfl (Nat.le_of_ble_eq_true rfl) (by omega) (by omega) e8 ?_
            refine jr.iconst rfl ?_
            refine jr.icmp_ne rfl rfl (by first | (refine rgb (by assumption) ?_; exact rfl) | omega) (rgl rfl) (fun h135 => ?_) (fun h135 => ?_)
            · refine jr.aload_n rfl rfl ?_
              refine jr.getf (i := 54) (v := .ref 642) rfl rfl (nlt rfl) rfl (nlt rfl) rfl rfl rfl rfl ?_
              refine jr.iload_n rfl rfl ?_
              obtain ⟨v10, e10⟩ : ∃ z, M 642 f = z := ⟨_, rfl⟩
              have b10 : 0 ≤ v10 ∧ v10 ≤ 70000 := by rw [← e10]; exact (by have q := hI_M 642 f (Nat.le_of_ble_eq_true rfl); rw [xri_row rfl rfl] at q; exact q)
              refine jr.iald (i := f) (x := v10) rfl (nlt rfl) rfl (Nat.le_of_ble_eq_true rfl) (by omega) (by omega) e10 ?_
              refine jr.istore (ls' := [_, _, _, _, _, _]) rfl (nlt rfl) rfl ?_
              refine jr.aload_n rfl rfl ?_
              refine jr.getf (i := 61) (x := v6) (v := .long (Int64.ofInt (v6))) rfl rfl (nlt rfl) rfl (nlt rfl) rfl rfl e6 rfl ?_
              refine jr.aload_n rfl rfl ?_
              refine jr.getf (i := 42) (v := .ref 630) rfl rfl (nlt rfl) rfl (nlt rfl) rfl rfl rfl rfl ?_
              refine jr.iload_n rfl rfl ?_
              obtain ⟨v11, e11⟩ : ∃ z, M 630 ((2 * f) + 1) = z := ⟨_, rfl⟩
              have b11 : (-9223372036854775808) ≤ v11 ∧ v11 ≤ 9223372036854775807 := by rw [← e11]; exact (by have q := hI_M 630 ((2 * f) + 1) (by decide); rw [xri_row rfl rfl] at q; exact q)
              refine jr.lald (i := ((2 * f) + 1)) (x := v11) rfl (nlt rfl) rfl (Nat.le_of_ble_eq_true rfl) (by omega) (by omega) e11 ?_
              refine jr.lcmp_ne rfl rfl rfl (by omega) (by omega) (fun h165 => ?_) (fun h165 => ?_)
              · refine jr.iconst rfl ?_
                exact jr.ireturn rfl rfl rfl (q _ (by first | exact rgq rfl | omega) (by omega))
              · refine jr.aload_n rfl rfl ?_
                obtain ⟨v12, e12⟩ : ∃ z, M 598 63 = z := ⟨_, rfl⟩
                have b12 : 0 ≤ v12 ∧ v12 ≤ 65535 := by rw [← e12]; exact hI_M 598 63 (Nat.le_of_ble_eq_true rfl)
                refine jr.getf (i := 63) (x := v12) (v := .int (Int32.ofInt (v12))) rfl rfl (nlt rfl) rfl (nlt rfl) rfl rfl e12 rfl ?_
                refine jr.aload_n rfl rfl ?_
                refine jr.getf (i := 43) (v := .ref 631) rfl rfl (nlt rfl) rfl (nlt rfl) rfl rfl rfl rfl ?_
                refine jr.iload_n rfl rfl ?_
                obtain ⟨v13, e13⟩ : ∃ z, M 631 ((2 * f) + 1) = z := ⟨_, rfl⟩
                have b13 : 0 ≤ v13 ∧ v13 ≤ 65535 := by rw [← e13]; exact (by have q := hI_M 631 ((2 * f) + 1) (by decide); rw [xri_row rfl rfl] at q; exact q)
                refine jr.iald (i := ((2 * f) + 1)) (x := v13) rfl (nlt rfl) rfl (Nat.le_of_ble_eq_true rfl) (by omega) (by omega) e13 ?_
                refine jr.icmp_ne rfl rfl (by first | (refine rgb (by assumption) ?_; exact rfl) | omega) (by first | (refine rgb (by assumption) ?_; exact rfl) | omega) (fun h179 => ?_) (fun h179 => ?_)
                · refine jr.iconst rfl ?_
                  exact jr.ireturn rfl rfl rfl (q _ (by first | exact rgq rfl | omega) (by omega))
                · refine jr.aload_n rfl rfl ?_
                  obtain ⟨v14, e14⟩ : ∃ z, M 598 62 = z := ⟨_, rfl⟩
                  have b14 : (-9223372036854775808) ≤ v14 ∧ v14 ≤ 9223372036854775807 := by rw [← e14]; exact hI_M 598 62 (Nat.le_of_ble_eq_true rfl)
                  refine jr.getf (i := 62) (x := v14) (v := .long (Int64.ofInt (v14))) rfl rfl (nlt rfl) rfl (nlt rfl) rfl rfl e14 rfl ?_
                  refine jr.lload rfl rfl ?_
                  refine jr.lcmp_ne rfl rfl rfl (by omega) (by omega) (fun h188 => ?_) (fun h188 => ?_)
                  · refine jr.iconst rfl ?_
                    exact jr.ireturn rfl rfl rfl (q _ (by first | exact rgq rfl | omega) (by omega))
                  · refine jr.aload_n rfl rfl ?_
                    obtain ⟨v15, e15⟩ : ∃ z, M 598 64 = z := ⟨_, rfl⟩
                    have b15 : 0 ≤ v15 ∧ v15 ≤ 65535 := by rw [← e15]; exact hI_M 598 64 (Nat.le_of_ble_eq_true rfl)
                    refine jr.getf (i := 64) (x := v15) (v := .int (Int32.ofInt (v15))) rfl rfl (nlt rfl) rfl (nlt rfl) rfl rfl e15 rfl ?_
                    refine jr.iload rfl rfl ?_
                    refine jr.icmp_ne rfl rfl (by first | (refine rgb (by assumption) ?_; exact rfl) | omega) (by first | (refine rgb (by assumption) ?_; exact rfl) | omega) (fun h198 => ?_) (fun h198 => ?_)
                    · refine jr.iconst rfl ?_
                      exact jr.ireturn rfl rfl rfl (q _ (by first | exact rgq rfl | omega) (by omega))
                    · refine jr.iconst rfl ?_
                      refine jr.goto rfl rfl ?_
                      exact jr.ireturn rfl rfl rfl (q _ (by first | exact rgq rfl | omega) (by omega))
            · exact absurd (by omega) h135
          · refine jr.aload_n rfl rfl ?_
            refine jr.getf (i := 42) (v := .ref 630) rfl rfl (nlt rfl) rfl (nlt rfl) rfl rfl rfl rfl ?_
            refine jr.iload_n rfl rfl ?_
            refine jr.lald (i := (2 * f)) (x := v7) rfl (nlt rfl) rfl (Nat.le_of_ble_eq_true rfl) (by omega) (by omega) e7 ?_
            refine jr.goto rfl rfl ?_
            refine jr.lstore (ls' := [_, _, _, _, _]) rfl (nlt rfl) rfl ?_
            refine jr.aload_n rfl rfl ?_
            refine jr.getf (i := 52) (v := .ref 640) rfl rfl (nlt rfl) rfl (nlt rfl) rfl rfl rfl rfl ?_
            refine jr.iload_n rfl rfl ?_
            refine jr.iald (i := f) (x := v8) rfl (nlt rfl) rfl (Nat.le_of_ble_eq_true rfl) (by omega) (by omega) e8 ?_
            refine jr.iconst rfl ?_
            refine jr.icmp_ne rfl rfl (by first | (refine rgb (by assumption) ?_; exact rfl) | omega) (rgl rfl) (fun h135 => ?_) (fun h135 => ?_)
            · exact absurd h135 (by omega)
            · refine jr.aload_n rfl rfl ?_
              refine jr.getf (i := 43) (v := .ref 631) rfl rfl (nlt rfl) rfl (nlt rfl) rfl rfl rfl rfl ?_
              refine jr.iload_n rfl rfl ?_
              obtain ⟨v16, e16⟩ : ∃ z, M 631 (2 * f) = z := ⟨_, rfl⟩
              have b16 : 0 ≤ v16 ∧ v16 ≤ 65535 := by rw [← e16]; exact (by have q := hI_M 631 (2 * f) (Nat.le_of_ble_eq_true rfl); rw [xri_row rfl rfl] at q; exact q)
              refine jr.iald (i := (2 * f)) (x := v16) rfl (nlt rfl) rfl (Nat.le_of_ble_eq_true rfl) (by omega) (by omega) e16 ?_
              refine jr.goto rfl rfl ?_
              refine jr.istore (ls' := [_, _, _, _, _, _]) rfl (nlt rfl) rfl ?_
              refine jr.aload_n rfl rfl ?_
              refine jr.getf (i := 61) (x := v6) (v := .long (Int64.ofInt (v6))) rfl rfl (nlt rfl) rfl (nlt rfl) rfl rfl e6 rfl ?_
              refine jr.aload_n rfl rfl ?_
              refine jr.getf (i := 42) (v := .ref 630) rfl rfl (nlt rfl) rfl (nlt rfl) rfl rfl rfl rfl ?_
              refine jr.iload_n rfl rfl ?_
              obtain ⟨v17, e17⟩ : ∃ z, M 630 ((2 * f) + 1) = z := ⟨_, rfl⟩
              have b17 : (-9223372036854775808) ≤ v17 ∧ v17 ≤ 9223372036854775807 := by rw [← e17]; exact (by have q := hI_M 630 ((2 * f) + 1) (by decide); rw [xri_row rfl rfl] at q; exact q)
              refine jr.lald (i := ((2 * f) + 1)) (x := v17) rfl (nlt rfl) rfl (Nat.le_of_ble_eq_true rfl) (by omega) (by omega) e17 ?_
              refine jr.lcmp_ne rfl rfl rfl (by omega) (by omega) (fun h165 => ?_) (fun h165 => ?_)
              · refine jr.iconst rfl ?_
                exact jr.ireturn rfl rfl rfl (q _ (by first | exact rgq rfl | omega) (by omega))
              · refine jr.aload_n rfl rfl ?_
                obtain ⟨v18, e18⟩ : ∃ z, M 598 63 = z := ⟨_, rfl⟩
                have b18 : 0 ≤ v18 ∧ v18 ≤ 65535 := by rw [← e18]; exact hI_M 598 63 (Nat.le_of_ble_eq_true rfl)
                refine jr.getf (i := 63) (x := v18) (v := .int (Int32.ofInt (v18))) rfl rfl (nlt rfl) rfl (nlt rfl) rfl rfl e18 rfl ?_
                refine jr.aload_n rfl rfl ?_
                refine jr.getf (i := 43) (v := .ref 631) rfl rfl (nlt rfl) rfl (nlt rfl) rfl rfl rfl rfl ?_
                refine jr.iload_n rfl rfl ?_
                obtain ⟨v19, e19⟩ : ∃ z, M 631 ((2 * f) + 1) = z := ⟨_, rfl⟩
                have b19 : 0 ≤ v19 ∧ v19 ≤ 65535 := by rw [← e19]; exact (by have q := hI_M 631 ((2 * f) + 1) (by decide); rw [xri_row rfl rfl] at q; exact q)
                refine jr.iald (i := ((2 * f) + 1)) (x := v19) rfl (nlt rfl) rfl (Nat.le_of_ble_eq_true rfl) (by omega) (by omega) e19 ?_
                refine jr.icmp_ne rfl rfl (by first | (refine rgb (by assumption) ?_; exact rfl) | omega) (by first | (refine rgb (by assumption) ?_; exact rfl) | omega) (fun h179 => ?_) (fun h179 => ?_)
                · refine jr.iconst rfl ?_
                  exact jr.ireturn rfl rfl rfl (q _ (by first | exact rgq rfl | omega) (by omega))
                · refine jr.aload_n rfl rfl ?_
                  obtain ⟨v20, e20⟩ : ∃ z, M 598 62 = z := ⟨_, rfl⟩
                  have b20 : (-9223372036854775808) ≤ v20 ∧ v20 ≤ 9223372036854775807 := by rw [← e20]; exact hI_M 598 62 (Nat.le_of_ble_eq_true rfl)
                  refine jr.getf (i := 62) (x := v20) (v := .long (Int64.ofInt (v20))) rfl rfl (nlt rfl) rfl (nlt rfl) rfl rfl e20 rfl ?_
                  refine jr.lload rfl rfl ?_
                  refine jr.lcmp_ne rfl rfl rfl (by omega) (by omega) (fun h188 => ?_) (fun h188 => ?_)
                  · refine jr.iconst rfl ?_
                    exact jr.ireturn rfl rfl rfl (q _ (by first | exact rgq rfl | omega) (by omega))
                  · refine jr.aload_n rfl rfl ?_
                    obtain ⟨v21, e21⟩ : ∃ z, M 598 64 = z := ⟨_, rfl⟩
                    have b21 : 0 ≤ v21 ∧ v21 ≤ 65535 := by rw [← e21]; exact hI_M 598 64 (Nat.le_of_ble_eq_true rfl)
                    refine jr.getf (i := 64) (x := v21) (v := .int (Int32.ofInt (v21))) rfl rfl (nlt rfl) rfl (nlt rfl) rfl rfl e21 rfl ?_
                    refine jr.iload rfl rfl ?_
                    refine jr.icmp_ne rfl rfl (by first | (refine rgb (by assumption) ?_; exact rfl) | omega) (by first | (refine rgb (by assumption) ?_; exact rfl) | omega) (fun h198 => ?_) (fun h198 => ?_)
                    · refine jr.iconst rfl ?_
                      exact jr.ireturn rfl rfl rfl (q _ (by first | exact rgq rfl | omega) (by omega))
                    · refine jr.iconst rfl ?_
                      refine jr.goto rfl rfl ?_
                      exact jr.ireturn rfl rfl rfl (q _ (by first | exact rgq rfl | omega) (by omega))
        · refine jr.aload_n rfl rfl ?_
          obtain ⟨v22, e22⟩ : ∃ z, M 598 63 = z := ⟨_, rfl⟩
          have b22 : 0 ≤ v22 ∧ v22 ≤ 65535 := by rw [← e22]; exact hI_M 598 63 (Nat.le_of_ble_eq_true rfl)
          refine jr.getf (i := 63) (x := v22) (v := .int (Int32.ofInt (v22))) rfl rfl (nlt rfl) rfl (nlt rfl) rfl rfl e22 rfl ?_
          refine jr.aload_n rfl rfl ?_
          refine jr.getf (i := 43) (v := .ref 631) rfl rfl (nlt rfl) rfl (nlt rfl) rfl rfl rfl rfl ?_
          refine jr.iload_n rfl rfl ?_
          obtain ⟨v23, e23⟩ : ∃ z, M 631 (2 * f) = z := ⟨_, rfl⟩
          have b23 : 0 ≤ v23 ∧ v23 ≤ 65535 := by rw [← e23]; exact (by have q := hI_M 631 (2 * f) (Nat.le_of_ble_eq_true rfl); rw [xri_row rfl rfl] at q; exact q)
          refine jr.iald (i := (2 * f)) (x := v23) rfl (nlt rfl) rfl (Nat.le_of_ble_eq_true rfl) (by omega) (by omega) e23 ?_
          refine jr.icmp_ne rfl rfl (by first | (refine rgb (by assumption) ?_; exact rfl) | omega) (by first | (refine rgb (by assumption) ?_; exact rfl) | omega) (fun h69 => ?_) (fun h69 => ?_)
          · refine jr.aload_n rfl rfl ?_
            refine jr.getf (i := 52) (v := .ref 640) rfl rfl (nlt rfl) rfl (nlt rfl) rfl rfl rfl rfl ?_
            refine jr.iload_n rfl rfl ?_
            obtain ⟨v24, e24⟩ : ∃ z, M 640 f = z := ⟨_, rfl⟩
            have b24 : (-1) ≤ v24 ∧ v24 ≤ 3 := by rw [← e24]; exact (by have q := hI_M 640 f (Nat.le_of_ble_eq_true rfl); rw [xri_row rfl rfl] at q; exact q)
            refine jr.iald (i := f) (x := v24) rfl (nlt rfl) rfl (Nat.le_of_ble_eq_true rfl) (by omega) (by omega) e24 ?_
            refine jr.iconst rfl ?_
            refine jr.icmp_ne rfl rfl (by first | (refine rgb (by assumption) ?_; exact rfl) | omega) (rgl rfl) (fun h108 => ?_) (fun h108 => ?_)
            · refine jr.aload_n rfl rfl ?_
              refine jr.getf (i := 53) (v := .ref 641) rfl rfl (nlt rfl) rfl (nlt rfl) rfl rfl rfl rfl ?_
              refine jr.iload_n rfl rfl ?_
              obtain ⟨v25, e25⟩ : ∃ z, M 641 f = z := ⟨_, rfl⟩
              have b25 : (-9223372036854775808) ≤ v25 ∧ v25 ≤ 9223372036854775807 := by rw [← e25]; exact (by have q := hI_M 641 f (Nat.le_of_ble_eq_true rfl); rw [xri_row rfl rfl] at q; exact q)
              refine jr.lald (i := f) (x := v25) rfl (nlt rfl) rfl (Nat.le_of_ble_eq_true rfl) (by omega) (by omega) e25 ?_
              refine jr.lstore (ls' := [_, _, _, _, _]) rfl (nlt rfl) rfl ?_
              refine jr.aload_n rfl rfl ?_
              refine jr.getf (i := 52) (v := .ref 640) rfl rfl (nlt rfl) rfl (nlt rfl) rfl rfl rfl rfl ?_
              refine jr.iload_n rfl rfl ?_
              refine jr.iald (i := f) (x := v24) rfl (nlt rfl) rfl (Nat.le_of_ble_eq_true rfl) (by omega) (by omega) e24 ?_
              refine jr.iconst rfl ?_
              refine jr.icmp_ne rfl rfl (by first | (refine rgb (by assumption) ?_; exact rfl) | omega) (rgl rfl) (fun h135 => ?_) (fun h135 => ?_)
              · refine jr.aload_n rfl rfl ?_
                refine jr.getf (i := 54) (v := .ref 642) rfl rfl (nlt rfl) rfl (nlt rfl) rfl rfl rfl rfl ?_
                refine jr.iload_n rfl rfl ?_
                obtain ⟨v26, e26⟩ : ∃ z, M 642 f = z := ⟨_, rfl⟩
                have b26 : 0 ≤ v26 ∧ v26 ≤ 70000 := by rw [← e26]; exact (by have q := hI_M 642 f (Nat.le_of_ble_eq_true rfl); rw [xri_row rfl rfl] at q; exact q)
                refine jr.iald (i := f) (x := v26) rfl (nlt rfl) rfl (Nat.le_of_ble_eq_true rfl) (by omega) (by omega) e26 ?_
                refine jr.istore (ls' := [_, _, _, _, _, _]) rfl (nlt rfl) rfl ?_
                refine jr.aload_n rfl rfl ?_
                refine jr.getf (i := 61) (x := v6) (v := .long (Int64.ofInt (v6))) rfl rfl (nlt rfl) rfl (nlt rfl) rfl rfl e6 rfl ?_
                refine jr.aload_n rfl rfl ?_
                refine jr.getf (i := 42) (v := .ref 630) rfl rfl (nlt rfl) rfl (nlt rfl) rfl rfl rfl rfl ?_
                refine jr.iload_n rfl rfl ?_
                obtain ⟨v27, e27⟩ : ∃ z, M 630 ((2 * f) + 1) = z := ⟨_, rfl⟩
                have b27 : (-9223372036854775808) ≤ v27 ∧ v27 ≤ 9223372036854775807 := by rw [← e27]; exact (by have q := hI_M 630 ((2 * f) + 1) (by decide); rw [xri_row rfl rfl] at q; exact q)
                refine jr.lald (i := ((2 * f) + 1)) (x := v27) rfl (nlt rfl) rfl (Nat.le_of_ble_eq_true rfl) (by omega) (by omega) e27 ?_
                refine jr.lcmp_ne rfl rfl rfl (by omega) (by omega) (fun h165 => ?_) (fun h165 => ?_)
                · refine jr.iconst rfl ?_
                  exact jr.ireturn rfl rfl rfl (q _ (by first | exact rgq rfl | omega) (by omega))
                · refine jr.aload_n rfl rfl ?_
                  refine jr.getf (i := 63) (x := v22) (v := .int (Int32.ofInt (v22))) rfl rfl (nlt rfl) rfl (nlt rfl) rfl rfl e22 rfl ?_
                  refine jr.aload_n rfl rfl ?_
                  refine jr.getf (i := 43) (v := .ref 631) rfl rfl (nlt rfl) rfl (nlt rfl) rfl rfl rfl rfl ?_
                  refine jr.iload_n rfl rfl ?_
                  obtain ⟨v28, e28⟩ : ∃ z, M 631 ((2 * f) + 1) = z := ⟨_, rfl⟩
                  have b28 : 0 ≤ v28 ∧ v28 ≤ 65535 := by rw [← e28]; exact (by have q := hI_M 631 ((2 * f) + 1) (by decide); rw [xri_row rfl rfl] at q; exact q)
                  refine jr.iald (i := ((2 * f) + 1)) (x := v28) rfl (nlt rfl) rfl (Nat.le_of_ble_eq_true rfl) (by omega) (by omega) e28 ?_
                  refine jr.icmp_ne rfl rfl (by first | (refine rgb (by assumption) ?_; exact rfl) | omega) (by first | (refine rgb (by assumption) ?_; exact rfl) | omega) (fun h179 => ?_) (fun h179 => ?_)
                  · refine jr.iconst rfl ?_
                    exact jr.ireturn rfl rfl rfl (q _ (by first | exact rgq rfl | omega) (by omega))
                  · refine jr.aload_n rfl rfl ?_
                    obtain ⟨v29, e29⟩ : ∃ z, M 598 62 = z := ⟨_, rfl⟩
                    have b29 : (-9223372036854775808) ≤ v29 ∧ v29 ≤ 9223372036854775807 := by rw [← e29]; exact hI_M 598 62 (Nat.le_of_ble_eq_true rfl)
                    refine jr.getf (i := 62) (x := v29) (v := .long (Int64.ofInt (v29))) rfl rfl (nlt rfl) rfl (nlt rfl) rfl rfl e29 rfl ?_
                    refine jr.lload rfl rfl ?_
                    refine jr.lcmp_ne rfl rfl rfl (by omega) (by omega) (fun h188 => ?_) (fun h188 => ?_)
                    · refine jr.iconst rfl ?_
                      exact jr.ireturn rfl rfl rfl (q _ (by first | exact rgq rfl | omega) (by omega))
                    · refine jr.aload_n rfl rfl ?_
                      obtain ⟨v30, e30⟩ : ∃ z, M 598 64 = z := ⟨_, rfl⟩
                      have b30 : 0 ≤ v30 ∧ v30 ≤ 65535 := by rw [← e30]; exact hI_M 598 64 (Nat.le_of_ble_eq_true rfl)
                      refine jr.getf (i := 64) (x := v30) (v := .int (Int32.ofInt (v30))) rfl rfl (nlt rfl) rfl (nlt rfl) rfl rfl e30 rfl ?_
                      refine jr.iload rfl rfl ?_
                      refine jr.icmp_ne rfl rfl (by first | (refine rgb (by assumption) ?_; exact rfl) | omega) (by first | (refine rgb (by assumption) ?_; exact rfl) | omega) (fun h198 => ?_) (fun h198 => ?_)
                      · refine jr.iconst rfl ?_
                        exact jr.ireturn rfl rfl rfl (q _ (by first | exact rgq rfl | omega) (by omega))
                      · refine jr.iconst rfl ?_
                        refine jr.goto rfl rfl ?_
                        exact jr.ireturn rfl rfl rfl (q _ (by first | exact rgq rfl | omega) (by omega))
              · exact absurd (by omega) h135
            · refine jr.aload_n rfl rfl ?_
              refine jr.getf (i := 42) (v := .ref 630) rfl rfl (nlt rfl) rfl (nlt rfl) rfl rfl rfl rfl ?_
              refine jr.iload_n rfl rfl ?_
              refine jr.lald (i := (2 * f)) (x := v7) rfl (nlt rfl) rfl (Nat.le_of_ble_eq_true rfl) (by omega) (by omega) e7 ?_
              refine jr.goto rfl rfl ?_
              refine jr.lstore (ls' := [_, _, _, _, _]) rfl (nlt rfl) rfl ?_
              refine jr.aload_n rfl rfl ?_
              refine jr.getf (i := 52) (v := .ref 640) rfl rfl (nlt rfl) rfl (nlt rfl) rfl rfl rfl rfl ?_
              refine jr.iload_n rfl rfl ?_
              refine jr.iald (i := f) (x := v24) rfl (nlt rfl) rfl (Nat.le_of_ble_eq_true rfl) (by omega) (by omega) e24 ?_
              refine jr.iconst rfl ?_
              refine jr.icmp_ne rfl rfl (by first | (refine rgb (by assumption) ?_; exact rfl) | omega) (rgl rfl) (fun h135 => ?_) (fun h135 => ?_)
              · exact absurd h135 (by omega)
              · refine jr.aload_n rfl rfl ?_
                refine jr.getf (i := 43) (v := .ref 631) rfl rfl (nlt rfl) rfl (nlt rfl) rfl rfl rfl rfl ?_
                refine jr.iload_n rfl rfl ?_
                refine jr.iald (i := (2 * f)) (x := v23) rfl (nlt rfl) rfl (Nat.le_of_ble_eq_true rfl) (by omega) (by omega) e23 ?_
                refine jr.goto rfl rfl ?_
                refine jr.istore (ls' := [_, _, _, _, _, _]) rfl (nlt rfl) rfl ?_
                refine jr.aload_n rfl rfl ?_
                refine jr.getf (i := 61) (x := v6) (v := .long (Int64.ofInt (v6))) rfl rfl (nlt rfl) rfl (nlt rfl) rfl rfl e6 rfl ?_
                refine jr.aload_n rfl rfl ?_
                refine jr.getf (i := 42) (v := .ref 630) rfl rfl (nlt rfl) rfl (nlt rfl) rfl rfl rfl rfl ?_
                refine jr.iload_n rfl rfl ?_
                obtain ⟨v31, e31⟩ : ∃ z, M 630 ((2 * f) + 1) = z := ⟨_, rfl⟩
                have b31 : (-9223372036854775808) ≤ v31 ∧ v31 ≤ 9223372036854775807 := by rw [← e31]; exact (by have q := hI_M 630 ((2 * f) + 1) (by decide); rw [xri_row rfl rfl] at q; exact q)
                refine jr.lald (i := ((2 * f) + 1)) (x := v31) rfl (nlt rfl) rfl (Nat.le_of_ble_eq_true rfl) (by omega) (by omega) e31 ?_
                refine jr.lcmp_ne rfl rfl rfl (by omega) (by omega) (fun h165 => ?_) (fun h165 => ?_)
                · refine jr.iconst rfl ?_
                  exact jr.ireturn rfl rfl rfl (q _ (by first | exact rgq rfl | omega) (by omega))
                · refine jr.aload_n rfl rfl ?_
                  refine jr.getf (i := 63) (x := v22) (v := .int (Int32.ofInt (v22))) rfl rfl (nlt rfl) rfl (nlt rfl) rfl rfl e22 rfl ?_
                  refine jr.aload_n rfl rfl ?_
                  refine jr.getf (i := 43) (v := .ref 631) rfl rfl (nlt rfl) rfl (nlt rfl) rfl rfl rfl rfl ?_
                  refine jr.iload_n rfl rfl ?_
                  obtain ⟨v32, e32⟩ : ∃ z, M 631 ((2 * f) + 1) = z := ⟨_, rfl⟩
                  have b32 : 0 ≤ v32 ∧ v32 ≤ 65535 := by rw [← e32]; exact (by have q := hI_M 631 ((2 * f) + 1) (by decide); rw [xri_row rfl rfl] at q; exact q)
                  refine jr.iald (i := ((2 * f) + 1)) (x := v32) rfl (nlt rfl) rfl (Nat.le_of_ble_eq_true rfl) (by omega) (by omega) e32 ?_
                  refine jr.icmp_ne rfl rfl (by first | (refine rgb (by assumption) ?_; exact rfl) | omega) (by first | (refine rgb (by assumption) ?_; exact rfl) | omega) (fun h179 => ?_) (fun h179 => ?_)
                  · refine jr.iconst rfl ?_
                    exact jr.ireturn rfl rfl rfl (q _ (by first | exact rgq rfl | omega) (by omega))
                  · refine jr.aload_n rfl rfl ?_
                    obtain ⟨v33, e33⟩ : ∃ z, M 598 62 = z := ⟨_, rfl⟩
                    have b33 : (-9223372036854775808) ≤ v33 ∧ v33 ≤ 9223372036854775807 := by rw [← e33]; exact hI_M 598 62 (Nat.le_of_ble_eq_true rfl)
                    refine jr.getf (i := 62) (x := v33) (v := .long (Int64.ofInt (v33))) rfl rfl (nlt rfl) rfl (nlt rfl) rfl rfl e33 rfl ?_
                    refine jr.lload rfl rfl ?_
                    refine jr.lcmp_ne rfl rfl rfl (by omega) (by omega) (fun h188 => ?_) (fun h188 => ?_)
                    · refine jr.iconst rfl ?_
                      exact jr.ireturn rfl rfl rfl (q _ (by first | exact rgq rfl | omega) (by omega))
                    · refine jr.aload_n rfl rfl ?_
                      obtain ⟨v34, e34⟩ : ∃ z, M 598 64 = z := ⟨_, rfl⟩
                      have b34 : 0 ≤ v34 ∧ v34 ≤ 65535 := by rw [← e34]; exact hI_M 598 64 (Nat.le_of_ble_eq_true rfl)
                      refine jr.getf (i := 64) (x := v34) (v := .int (Int32.ofInt (v34))) rfl rfl (nlt rfl) rfl (nlt rfl) rfl rfl e34 rfl ?_
                      refine jr.iload rfl rfl ?_
                      refine jr.icmp_ne rfl rfl (by first | (refine rgb (by assumption) ?_; exact rfl) | omega) (by first | (refine rgb (by assumption) ?_; exact rfl) | omega) (fun h198 => ?_) (fun h198 => ?_)
                      · refine jr.iconst rfl ?_
                        exact jr.ireturn rfl rfl rfl (q _ (by first | exact rgq rfl | omega) (by omega))
                      · refine jr.iconst rfl ?_
                        refine jr.goto rfl rfl ?_
                        exact jr.ireturn rfl rfl rfl (q _ (by first | exact rgq rfl | omega) (by omega))
          · refine jr.aload_n rfl rfl ?_
            obtain ⟨v35, e35⟩ : ∃ z, M 598 62 = z := ⟨_, rfl⟩
            have b35 : (-9223372036854775808) ≤ v35 ∧ v35 ≤ 9223372036854775807 := by rw [← e35]; exact hI_M 598 62 (Nat.le_of_ble_eq_true rfl)
            refine jr.getf (i := 62) (x := v35) (v := .long (Int64.ofInt (v35))) rfl rfl (nlt rfl) rfl (nlt rfl) rfl rfl e35 rfl ?_
            refine jr.aload_n rfl rfl ?_
            refine jr.getf (i := 42) (v := .ref 630) rfl rfl (nlt rfl) rfl (nlt rfl) rfl rfl rfl rfl ?_
            refine jr.iload_n rfl rfl ?_
            obtain ⟨v36, e36⟩ : ∃ z, M 630 ((2 * f) + 1) = z := ⟨_, rfl⟩
            have b36 : (-9223372036854775808) ≤ v36 ∧ v36 ≤ 9223372036854775807 := by rw [← e36]; exact (by have q := hI_M 630 ((2 * f) + 1) (by decide); rw [xri_row rfl rfl] at q; exact q)
            refine jr.lald (i := ((2 * f) + 1)) (x := v36) rfl (nlt rfl) rfl (Nat.le_of_ble_eq_true rfl) (by omega) (by omega) e36 ?_
            refine jr.lcmp_ne rfl rfl rfl (by omega) (by omega) (fun h82 => ?_) (fun h82 => ?_)
            · refine jr.aload_n rfl rfl ?_
              refine jr.getf (i := 52) (v := .ref 640) rfl rfl (nlt rfl) rfl (nlt rfl) rfl rfl rfl rfl ?_
              refine jr.iload_n rfl rfl ?_
              obtain ⟨v37, e37⟩ : ∃ z, M 640 f = z := ⟨_, rfl⟩
              have b37 : (-1) ≤ v37 ∧ v37 ≤ 3 := by rw [← e37]; exact (by have q := hI_M 640 f (Nat.le_of_ble_eq_true rfl); rw [xri_row rfl rfl] at q; exact q)
              refine jr.iald (i := f) (x := v37) rfl (nlt rfl) rfl (Nat.le_of_ble_eq_true rfl) (by omega) (by omega) e37 ?_
              refine jr.iconst rfl ?_
              refine jr.icmp_ne rfl rfl (by first | (refine rgb (by assumption) ?_; exact rfl) | omega) (rgl rfl) (fun h108 => ?_) (fun h108 => ?_)
              · refine jr.aload_n rfl rfl ?_
                refine jr.getf (i := 53) (v := .ref 641) rfl rfl (nlt rfl) rfl (nlt rfl) rfl rfl rfl rfl ?_
                refine jr.iload_n rfl rfl ?_
                obtain ⟨v38, e38⟩ : ∃ z, M 641 f = z := ⟨_, rfl⟩
                have b38 : (-9223372036854775808) ≤ v38 ∧ v38 ≤ 9223372036854775807 := by rw [← e38]; exact (by have q := hI_M 641 f (Nat.le_of_ble_eq_true rfl); rw [xri_row rfl rfl] at q; exact q)
                refine jr.lald (i := f) (x := v38) rfl (nlt rfl) rfl (Nat.le_of_ble_eq_true rfl) (by omega) (by omega) e38 ?_
                refine jr.lstore (ls' := [_, _, _, _, _]) rfl (nlt rfl) rfl ?_
                refine jr.aload_n rfl rfl ?_
                refine jr.getf (i := 52) (v := .ref 640) rfl rfl (nlt rfl) rfl (nlt rfl) rfl rfl rfl rfl ?_
                refine jr.iload_n rfl rfl ?_
                refine jr.iald (i := f) (x := v37) rfl (nlt rfl) rfl (Nat.le_of_ble_eq_true rfl) (by omega) (by omega) e37 ?_
                refine jr.iconst rfl ?_
                refine jr.icmp_ne rfl rfl (by first | (refine rgb (by assumption) ?_; exact rfl) | omega) (rgl rfl) (fun h135 => ?_) (fun h135 => ?_)
                · refine jr.aload_n rfl rfl ?_
                  refine jr.getf (i := 54) (v := .ref 642) rfl rfl (nlt rfl) rfl (nlt rfl) rfl rfl rfl rfl ?_
                  refine jr.iload_n rfl rfl ?_
                  obtain ⟨v39, e39⟩ : ∃ z, M 642 f = z := ⟨_, rfl⟩
                  have b39 : 0 ≤ v39 ∧ v39 ≤ 70000 := by rw [← e39]; exact (by have q := hI_M 642 f (Nat.le_of_ble_eq_true rfl); rw [xri_row rfl rfl] at q; exact q)
                  refine jr.iald (i := f) (x := v39) rfl (nlt rfl) rfl (Nat.le_of_ble_eq_true rfl) (by omega) (by omega) e39 ?_
                  refine jr.istore (ls' := [_, _, _, _, _, _]) rfl (nlt rfl) rfl ?_
                  refine jr.aload_n rfl rfl ?_
                  refine jr.getf (i := 61) (x := v6) (v := .long (Int64.ofInt (v6))) rfl rfl (nlt rfl) rfl (nlt rfl) rfl rfl e6 rfl ?_
                  refine jr.aload_n rfl rfl ?_
                  refine jr.getf (i := 42) (v := .ref 630) rfl rfl (nlt rfl) rfl (nlt rfl) rfl rfl rfl rfl ?_
                  refine jr.iload_n rfl rfl ?_
                  refine jr.lald (i := ((2 * f) + 1)) (x := v36) rfl (nlt rfl) rfl (Nat.le_of_ble_eq_true rfl) (by omega) (by omega) e36 ?_
                  refine jr.lcmp_ne rfl rfl rfl (by omega) (by omega) (fun h165 => ?_) (fun h165 => ?_)
                  · refine jr.iconst rfl ?_
                    exact jr.ireturn rfl rfl rfl (q _ (by first | exact rgq rfl | omega) (by omega))
                  · refine jr.aload_n rfl rfl ?_
                    refine jr.getf (i := 63) (x := v22) (v := .int (Int32.ofInt (v22))) rfl rfl (nlt rfl) rfl (nlt rfl) rfl rfl e22 rfl ?_
                    refine jr.aload_n rfl rfl ?_
                    refine jr.getf (i := 43) (v := .ref 631) rfl rfl (nlt rfl) rfl (nlt rfl) rfl rfl rfl rfl ?_
                    refine jr.iload_n rfl rfl ?_
                    obtain ⟨v40, e40⟩ : ∃ z, M 631 ((2 * f) + 1) = z := ⟨_, rfl⟩
                    have b40 : 0 ≤ v40 ∧ v40 ≤ 65535 := by rw [← e40]; exact (by have q := hI_M 631 ((2 * f) + 1) (by decide); rw [xri_row rfl rfl] at q; exact q)
                    refine jr.iald (i := ((2 * f) + 1)) (x := v40) rfl (nlt rfl) rfl (Nat.le_of_ble_eq_true rfl) (by omega) (by omega) e40 ?_
                    refine jr.icmp_ne rfl rfl (by first | (refine rgb (by assumption) ?_; exact rfl) | omega) (by first | (refine rgb (by assumption) ?_; exact rfl) | omega) (fun h179 => ?_) (fun h179 => ?_)
                    · refine jr.iconst rfl ?_
                      exact jr.ireturn rfl rfl rfl (q _ (by first | exact rgq rfl | omega) (by omega))
                    · refine jr.aload_n rfl rfl ?_
                      refine jr.getf (i := 62) (x := v35) (v := .long (Int64.ofInt (v35))) rfl rfl (nlt rfl) rfl (nlt rfl) rfl rfl e35 rfl ?_
                      refine jr.lload rfl rfl ?_
                      refine jr.lcmp_ne rfl rfl rfl (by omega) (by omega) (fun h188 => ?_) (fun h188 => ?_)
                      · refine jr.iconst rfl ?_
                        exact jr.ireturn rfl rfl rfl (q _ (by first | exact rgq rfl | omega) (by omega))
                      · refine jr.aload_n rfl rfl ?_
                        obtain ⟨v41, e41⟩ : ∃ z, M 598 64 = z := ⟨_, rfl⟩
                        have b41 : 0 ≤ v41 ∧ v41 ≤ 65535 := by rw [← e41]; exact hI_M 598 64 (Nat.le_of_ble_eq_true rfl)
                        refine jr.getf (i := 64) (x := v41) (v := .int (Int32.ofInt (v41))) rfl rfl (nlt rfl) rfl (nlt rfl) rfl rfl e41 rfl ?_
                        refine jr.iload rfl rfl ?_
                        refine jr.icmp_ne rfl rfl (by first | (refine rgb (by assumption) ?_; exact rfl) | omega) (by first | (refine rgb (by assumption) ?_; exact rfl) | omega) (fun h198 => ?_) (fun h198 => ?_)
                        · refine jr.iconst rfl ?_
                          exact jr.ireturn rfl rfl rfl (q _ (by first | exact rgq rfl | omega) (by omega))
                        · refine jr.iconst rfl ?_
                          refine jr.goto rfl rfl ?_
                          exact jr.ireturn rfl rfl rfl (q _ (by first | exact rgq rfl | omega) (by omega))
                · exact absurd (by omega) h135
              · refine jr.aload_n rfl rfl ?_
                refine jr.getf (i := 42) (v := .ref 630) rfl rfl (nlt rfl) rfl (nlt rfl) rfl rfl rfl rfl ?_
                refine jr.iload_n rfl rfl ?_
                refine jr.lald (i := (2 * f)) (x := v7) rfl (nlt rfl) rfl (Nat.le_of_ble_eq_true rfl) (by omega) (by omega) e7 ?_
                refine jr.goto rfl rfl ?_
                refine jr.lstore (ls' := [_, _, _, _, _]) rfl (nlt rfl) rfl ?_
                refine jr.aload_n rfl rfl ?_
                refine jr.getf (i := 52) (v := .ref 640) rfl rfl (nlt rfl) rfl (nlt rfl) rfl rfl rfl rfl ?_
                refine jr.iload_n rfl rfl ?_
                refine jr.iald (i := f) (x := v37) rfl (nlt rfl) rfl (Nat.le_of_ble_eq_true rfl) (by omega) (by omega) e37 ?_
                refine jr.iconst rfl ?_
                refine jr.icmp_ne rfl rfl (by first | (refine rgb (by assumption) ?_; exact rfl) | omega) (rgl rfl) (fun h135 => ?_) (fun h135 => ?_)
                · exact absurd h135 (by omega)
                · refine jr.aload_n rfl rfl ?_
                  refine jr.getf (i := 43) (v := .ref 631) rfl rfl (nlt rfl) rfl (nlt rfl) rfl rfl rfl rfl ?_
                  refine jr.iload_n rfl rfl ?_
                  refine jr.iald (i := (2 * f)) (x := v23) rfl (nlt rfl) rfl (Nat.le_of_ble_eq_true rfl) (by omega) (by omega) e23 ?_
                  refine jr.goto rfl rfl ?_
                  refine jr.istore (ls' := [_, _, _, _, _, _]) rfl (nlt rfl) rfl ?_
                  refine jr.aload_n rfl rfl ?_
                  refine jr.getf (i := 61) (x := v6) (v := .long (Int64.ofInt (v6))) rfl rfl (nlt rfl) rfl (nlt rfl) rfl rfl e6 rfl ?_
                  refine jr.aload_n rfl rfl ?_
                  refine jr.getf (i := 42) (v := .ref 630) rfl rfl (nlt rfl) rfl (nlt rfl) rfl rfl rfl rfl ?_
                  refine jr.iload_n rfl rfl ?_
                  refine jr.lald (i := ((2 * f) + 1)) (x := v36) rfl (nlt rfl) rfl (Nat.le_of_ble_eq_true rfl) (by omega) (by omega) e36 ?_
                  refine jr.lcmp_ne rfl rfl rfl (by omega) (by omega) (fun h165 => ?_) (fun h165 => ?_)
                  · refine jr.iconst rfl ?_
                    exact jr.ireturn rfl rfl rfl (q _ (by first | exact rgq rfl | omega) (by omega))
                  · refine jr.aload_n rfl rfl ?_
                    refine jr.getf (i := 63) (x := v22) (v := .int (Int32.ofInt (v22))) rfl rfl (nlt rfl) rfl (nlt rfl) rfl rfl e22 rfl ?_
                    refine jr.aload_n rfl rfl ?_
                    refine jr.getf (i := 43) (v := .ref 631) rfl rfl (nlt rfl) rfl (nlt rfl) rfl rfl rfl rfl ?_
                    refine jr.iload_n rfl rfl ?_
                    obtain ⟨v42, e42⟩ : ∃ z, M 631 ((2 * f) + 1) = z := ⟨_, rfl⟩
                    have b42 : 0 ≤ v42 ∧ v42 ≤ 65535 := by rw [← e42]; exact (by have q := hI_M 631 ((2 * f) + 1) (by decide); rw [xri_row rfl rfl] at q; exact q)
                    refine jr.iald (i := ((2 * f) + 1)) (x := v42) rfl (nlt rfl) rfl (Nat.le_of_ble_eq_true rfl) (by omega) (by omega) e42 ?_
                    refine jr.icmp_ne rfl rfl (by first | (refine rgb (by assumption) ?_; exact rfl) | omega) (by first | (refine rgb (by assumption) ?_; exact rfl) | omega) (fun h179 => ?_) (fun h179 => ?_)
                    · refine jr.iconst rfl ?_
                      exact jr.ireturn rfl rfl rfl (q _ (by first | exact rgq rfl | omega) (by omega))
                    · refine jr.aload_n rfl rfl ?_
                      refine jr.getf (i := 62) (x := v35) (v := .long (Int64.ofInt (v35))) rfl rfl (nlt rfl) rfl (nlt rfl) rfl rfl e35 rfl ?_
                      refine jr.lload rfl rfl ?_
                      refine jr.lcmp_ne rfl rfl rfl (by omega) (by omega) (fun h188 => ?_) (fun h188 => ?_)
                      · refine jr.iconst rfl ?_
                        exact jr.ireturn rfl rfl rfl (q _ (by first | exact rgq rfl | omega) (by omega))
                      · refine jr.aload_n rfl rfl ?_
                        obtain ⟨v43, e43⟩ : ∃ z, M 598 64 = z := ⟨_, rfl⟩
                        have b43 : 0 ≤ v43 ∧ v43 ≤ 65535 := by rw [← e43]; exact hI_M 598 64 (Nat.le_of_ble_eq_true rfl)
                        refine jr.getf (i := 64) (x := v43) (v := .int (Int32.ofInt (v43))) rfl rfl (nlt rfl) rfl (nlt rfl) rfl rfl e43 rfl ?_
                        refine jr.iload rfl rfl ?_
                        refine jr.icmp_ne rfl rfl (by first | (refine rgb (by assumption) ?_; exact rfl) | omega) (by first | (refine rgb (by assumption) ?_; exact rfl) | omega) (fun h198 => ?_) (fun h198 => ?_)
                        · refine jr.iconst rfl ?_
                          exact jr.ireturn rfl rfl rfl (q _ (by first | exact rgq rfl | omega) (by omega))
                        · refine jr.iconst rfl ?_
                          refine jr.goto rfl rfl ?_
                          exact jr.ireturn rfl rfl rfl (q _ (by first | exact rgq rfl | omega) (by omega))
            · refine jr.aload_n rfl rfl ?_
              obtain ⟨v44, e44⟩ : ∃ z, M 598 64 = z := ⟨_, rfl⟩
              have b44 : 0 ≤ v44 ∧ v44 ≤ 65535 := by rw [← e44]; exact hI_M 598 64 (Nat.le_of_ble_eq_true rfl)
              refine jr.getf (i := 64) (x := v44) (v := .int (Int32.ofInt (v44))) rfl rfl (nlt rfl) rfl (nlt rfl) rfl rfl e44 rfl ?_
              refine jr.aload_n rfl rfl ?_
              refine jr.getf (i := 43) (v := .ref 631) rfl rfl (nlt rfl) rfl (nlt rfl) rfl rfl rfl rfl ?_
              refine jr.iload_n rfl rfl ?_
              obtain ⟨v45, e45⟩ : ∃ z, M 631 ((2 * f) + 1) = z := ⟨_, rfl⟩
              have b45 : 0 ≤ v45 ∧ v45 ≤ 65535 := by rw [← e45]; exact (by have q := hI_M 631 ((2 * f) + 1) (by decide); rw [xri_row rfl rfl] at q; exact q)
              refine jr.iald (i := ((2 * f) + 1)) (x := v45) rfl (nlt rfl) rfl (Nat.le_of_ble_eq_true rfl) (by omega) (by omega) e45 ?_
              refine jr.icmp_ne rfl rfl (by first | (refine rgb (by assumption) ?_; exact rfl) | omega) (by first | (refine rgb (by assumption) ?_; exact rfl) | omega) (fun h96 => ?_) (fun h96 => ?_)
              · refine jr.aload_n rfl rfl ?_
                refine jr.getf (i := 52) (v := .ref 640) rfl rfl (nlt rfl) rfl (nlt rfl) rfl rfl rfl rfl ?_
                refine jr.iload_n rfl rfl ?_
                obtain ⟨v46, e46⟩ : ∃ z, M 640 f = z := ⟨_, rfl⟩
                have b46 : (-1) ≤ v46 ∧ v46 ≤ 3 := by rw [← e46]; exact (by have q := hI_M 640 f (Nat.le_of_ble_eq_true rfl); rw [xri_row rfl rfl] at q; exact q)
                refine jr.iald (i := f) (x := v46) rfl (nlt rfl) rfl (Nat.le_of_ble_eq_true rfl) (by omega) (by omega) e46 ?_
                refine jr.iconst rfl ?_
                refine jr.icmp_ne rfl rfl (by first | (refine rgb (by assumption) ?_; exact rfl) | omega) (rgl rfl) (fun h108 => ?_) (fun h108 => ?_)
                · refine jr.aload_n rfl rfl ?_
                  refine jr.getf (i := 53) (v := .ref 641) rfl rfl (nlt rfl) rfl (nlt rfl) rfl rfl rfl rfl ?_
                  refine jr.iload_n rfl rfl ?_
                  obtain ⟨v47, e47⟩ : ∃ z, M 641 f = z := ⟨_, rfl⟩
                  have b47 : (-9223372036854775808) ≤ v47 ∧ v47 ≤ 9223372036854775807 := by rw [← e47]; exact (by have q := hI_M 641 f (Nat.le_of_ble_eq_true rfl); rw [xri_row rfl rfl] at q; exact q)
                  refine jr.lald (i := f) (x := v47) rfl (nlt rfl) rfl (Nat.le_of_ble_eq_true rfl) (by omega) (by omega) e47 ?_
                  refine jr.lstore (ls' := [_, _, _, _, _]) rfl (nlt rfl) rfl ?_
                  refine jr.aload_n rfl rfl ?_
                  refine jr.getf (i := 52) (v := .ref 640) rfl rfl (nlt rfl) rfl (nlt rfl) rfl rfl rfl rfl ?_
                  refine jr.iload_n rfl rfl ?_
                  refine jr.iald (i := f) (x := v46) rfl (nlt rfl) rfl (Nat.le_of_ble_eq_true rfl) (by omega) (by omega) e46 ?_
                  refine jr.iconst rfl ?_
                  refine jr.icmp_ne rfl rfl (by first | (refine rgb (by assumption) ?_; exact rfl) | omega) (rgl rfl) (fun h135 => ?_) (fun h135 => ?_)
                  · refine jr.aload_n rfl rfl ?_
                    refine jr.getf (i := 54) (v := .ref 642) rfl rfl (nlt rfl) rfl (nlt rfl) rfl rfl rfl rfl ?_
                    refine jr.iload_n rfl rfl ?_
                    obtain ⟨v48, e48⟩ : ∃ z, M 642 f = z := ⟨_, rfl⟩
                    have b48 : 0 ≤ v48 ∧ v48 ≤ 70000 := by rw [← e48]; exact (by have q := hI_M 642 f (Nat.le_of_ble_eq_true rfl); rw [xri_row rfl rfl] at q; exact q)
                    refine jr.iald (i := f) (x := v48) rfl (nlt rfl) rfl (Nat.le_of_ble_eq_true rfl) (by omega) (by omega) e48 ?_
                    refine jr.istore (ls' := [_, _, _, _, _, _]) rfl (nlt rfl) rfl ?_
                    refine jr.aload_n rfl rfl ?_
                    refine jr.getf (i := 61) (x := v6) (v := .long (Int64.ofInt (v6))) rfl rfl (nlt rfl) rfl (nlt rfl) rfl rfl e6 rfl ?_
                    refine jr.aload_n rfl rfl ?_
                    refine jr.getf (i := 42) (v := .ref 630) rfl rfl (nlt rfl) rfl (nlt rfl) rfl rfl rfl rfl ?_
                    refine jr.iload_n rfl rfl ?_
                    refine jr.lald (i := ((2 * f) + 1)) (x := v36) rfl (nlt rfl) rfl (Nat.le_of_ble_eq_true rfl) (by omega) (by omega) e36 ?_
                    refine jr.lcmp_ne rfl rfl rfl (by omega) (by omega) (fun h165 => ?_) (fun h165 => ?_)
                    · refine jr.iconst rfl ?_
                      exact jr.ireturn rfl rfl rfl (q _ (by first | exact rgq rfl | omega) (by omega))
                    · refine jr.aload_n rfl rfl ?_
                      refine jr.getf (i := 63) (x := v22) (v := .int (Int32.ofInt (v22))) rfl rfl (nlt rfl) rfl (nlt rfl) rfl rfl e22 rfl ?_
                      refine jr.aload_n rfl rfl ?_
                      refine jr.getf (i := 43) (v := .ref 631) rfl rfl (nlt rfl) rfl (nlt rfl) rfl rfl rfl rfl ?_
                      refine jr.iload_n rfl rfl ?_
                      refine jr.iald (i := ((2 * f) + 1)) (x := v45) rfl (nlt rfl) rfl (Nat.le_of_ble_eq_true rfl) (by omega) (by omega) e45 ?_
                      refine jr.icmp_ne rfl rfl (by first | (refine rgb (by assumption) ?_; exact rfl) | omega) (by first | (refine rgb (by assumption) ?_; exact rfl) | omega) (fun h179 => ?_) (fun h179 => ?_)
                      · refine jr.iconst rfl ?_
                        exact jr.ireturn rfl rfl rfl (q _ (by first | exact rgq rfl | omega) (by omega))
                      · refine jr.aload_n rfl rfl ?_
                        refine jr.getf (i := 62) (x := v35) (v := .long (Int64.ofInt (v35))) rfl rfl (nlt rfl) rfl (nlt rfl) rfl rfl e35 rfl ?_
                        refine jr.lload rfl rfl ?_
                        refine jr.lcmp_ne rfl rfl rfl (by omega) (by omega) (fun h188 => ?_) (fun h188 => ?_)
                        · refine jr.iconst rfl ?_
                          exact jr.ireturn rfl rfl rfl (q _ (by first | exact rgq rfl | omega) (by omega))
                        · refine jr.aload_n rfl rfl ?_
                          refine jr.getf (i := 64) (x := v44) (v := .int (Int32.ofInt (v44))) rfl rfl (nlt rfl) rfl (nlt rfl) rfl rfl e44 rfl ?_
                          refine jr.iload rfl rfl ?_
                          refine jr.icmp_ne rfl rfl (by first | (refine rgb (by assumption) ?_; exact rfl) | omega) (by first | (refine rgb (by assumption) ?_; exact rfl) | omega) (fun h198 => ?_) (fun h198 => ?_)
                          · refine jr.iconst rfl ?_
                            exact jr.ireturn rfl rfl rfl (q _ (by first | exact rgq rfl | omega) (by omega))
                          · refine jr.iconst rfl ?_
                            refine jr.goto rfl rfl ?_
                            exact jr.ireturn rfl rfl rfl (q _ (by first | exact rgq rfl | omega) (by omega))
                  · exact absurd (by omega) h135
                · refine jr.aload_n rfl rfl ?_
                  refine jr.getf (i := 42) (v := .ref 630) rfl rfl (nlt rfl) rfl (nlt rfl) rfl rfl rfl rfl ?_
                  refine jr.iload_n rfl rfl ?_
                  refine jr.lald (i := (2 * f)) (x := v7) rfl (nlt rfl) rfl (Nat.le_of_ble_eq_true rfl) (by omega) (by omega) e7 ?_
                  refine jr.goto rfl rfl ?_
                  refine jr.lstore (ls' := [_, _, _, _, _]) rfl (nlt rfl) rfl ?_
                  refine jr.aload_n rfl rfl ?_
                  refine jr.getf (i := 52) (v := .ref 640) rfl rfl (nlt rfl) rfl (nlt rfl) rfl rfl rfl rfl ?_
                  refine jr.iload_n rfl rfl ?_
                  refine jr.iald (i := f) (x := v46) rfl (nlt rfl) rfl (Nat.le_of_ble_eq_true rfl) (by omega) (by omega) e46 ?_
                  refine jr.iconst rfl ?_
                  refine jr.icmp_ne rfl rfl (by first | (refine rgb (by assumption) ?_; exact rfl) | omega) (rgl rfl) (fun h135 => ?_) (fun h135 => ?_)
                  · exact absurd h135 (by omega)
                  · refine jr.aload_n rfl rfl ?_
                    refine jr.getf (i := 43) (v := .ref 631) rfl rfl (nlt rfl) rfl (nlt rfl) rfl rfl rfl rfl ?_
                    refine jr.iload_n rfl rfl ?_
                    refine jr.iald (i := (2 * f)) (x := v23) rfl (nlt rfl) rfl (Nat.le_of_ble_eq_true rfl) (by omega) (by omega) e23 ?_
                    refine jr.goto rfl rfl ?_
                    refine jr.istore (ls' := [_, _, _, _, _, _]) rfl (nlt rfl) rfl ?_
                    refine jr.aload_n rfl rfl ?_
                    refine jr.getf (i := 61) (x := v6) (v := .long (Int64.ofInt (v6))) rfl rfl (nlt rfl) rfl (nlt rfl) rfl rfl e6 rfl ?_
                    refine jr.aload_n rfl rfl ?_
                    refine jr.getf (i := 42) (v := .ref 630) rfl rfl (nlt rfl) rfl (nlt rfl) rfl rfl rfl rfl ?_
                    refine jr.iload_n rfl rfl ?_
                    refine jr.lald (i := ((2 * f) + 1)) (x := v36) rfl (nlt rfl) rfl (Nat.le_of_ble_eq_true rfl) (by omega) (by omega) e36 ?_
                    refine jr.lcmp_ne rfl rfl rfl (by omega) (by omega) (fun h165 => ?_) (fun h165 => ?_)
                    · refine jr.iconst rfl ?_
                      exact jr.ireturn rfl rfl rfl (q _ (by first | exact rgq rfl | omega) (by omega))
                    · refine jr.aload_n rfl rfl ?_
                      refine jr.getf (i := 63) (x := v22) (v := .int (Int32.ofInt (v22))) rfl rfl (nlt rfl) rfl (nlt rfl) rfl rfl e22 rfl ?_
                      refine jr.aload_n rfl rfl ?_
                      refine jr.getf (i := 43) (v := .ref 631) rfl rfl (nlt rfl) rfl (nlt rfl) rfl rfl rfl rfl ?_
                      refine jr.iload_n rfl rfl ?_
                      refine jr.iald (i := ((2 * f) + 1)) (x := v45) rfl (nlt rfl) rfl (Nat.le_of_ble_eq_true rfl) (by omega) (by omega) e45 ?_
                      refine jr.icmp_ne rfl rfl (by first | (refine rgb (by assumption) ?_; exact rfl) | omega) (by first | (refine rgb (by assumption) ?_; exact rfl) | omega) (fun h179 => ?_) (fun h179 => ?_)
                      · refine jr.iconst rfl ?_
                        exact jr.ireturn rfl rfl rfl (q _ (by first | exact rgq rfl | omega) (by omega))
                      · refine jr.aload_n rfl rfl ?_
                        refine jr.getf (i := 62) (x := v35) (v := .long (Int64.ofInt (v35))) rfl rfl (nlt rfl) rfl (nlt rfl) rfl rfl e35 rfl ?_
                        refine jr.lload rfl rfl ?_
                        refine jr.lcmp_ne rfl rfl rfl (by omega) (by omega) (fun h188 => ?_) (fun h188 => ?_)
                        · refine jr.iconst rfl ?_
                          exact jr.ireturn rfl rfl rfl (q _ (by first | exact rgq rfl | omega) (by omega))
                        · refine jr.aload_n rfl rfl ?_
                          refine jr.getf (i := 64) (x := v44) (v := .int (Int32.ofInt (v44))) rfl rfl (nlt rfl) rfl (nlt rfl) rfl rfl e44 rfl ?_
                          refine jr.iload rfl rfl ?_
                          refine jr.icmp_ne rfl rfl (by first | (refine rgb (by assumption) ?_; exact rfl) | omega) (by first | (refine rgb (by assumption) ?_; exact rfl) | omega) (fun h198 => ?_) (fun h198 => ?_)
                          · refine jr.iconst rfl ?_
                            exact jr.ireturn rfl rfl rfl (q _ (by first | exact rgq rfl | omega) (by omega))
                          · refine jr.iconst rfl ?_
                            refine jr.goto rfl rfl ?_
                            exact jr.ireturn rfl rfl rfl (q _ (by first | exact rgq rfl | omega) (by omega))
              · refine jr.iconst rfl ?_
                exact jr.ireturn rfl rfl rfl (q _ (by first | exact rgq rfl | omega) (by omega))
      · refine jr.iconst rfl ?_
        exact jr.ireturn rfl rfl rfl (q _ (by first | exact rgq rfl | omega) (by omega))
theorem r_flowByEnds_L2 {A : Nat → Option (Nat × (Nat → Int32))} {Q : Option Value → jm → Prop} {T : jm} {M0 : jm} (q : ∀ (r : Int) (M' : jm), RI M' → RH M' → RF M' → Kp T M' → (-1) ≤ r ∧ r ≤ 23 → (r = -1 ∨ (M' 629 r = M' 598 60 ∧ 0 ≤ M' 598 66)) → (∀ (a : Nat) (i : Int), a ≠ 598 → M' a i = M0 a i) → (∀ (i : Int), i ≠ 66 → M' 598 i = M0 598 i) → Q (some (.int (Int32.ofInt r))) M') : ∀ (nM : Nat) (M : jm) (f : Int), RI M → RH M → RF M → Kp T M → (∀ (a : Nat) (i : Int), a ≠ 598 → M a i = M0 a i) → (∀ (i : Int), i ≠ 66 → M 598 i = M0 598 i) → 0 ≤ f ∧ f ≤ 24 → 24 - f ≤ nM → jr A 1 xm_304 2 [(1, .int (Int32.ofInt (f))), (0, .ref (598))] [] M Q := by
  intro nM
  induction nM using Nat.strongRecOn with
  | ind nM ih =>
    intro M f hI_M hH_M hS_M ht_M hF_M hG_M h_f hm
    refine jr.iload_n rfl rfl ?_
    refine jr.bipush rfl (jbp _ (nlt rfl)) ?_
    refine jr.icmp_ge rfl rfl (by first | (refine rgb (by assumption) ?_; exact rfl) | omega) (rgl rfl) (fun h5 => ?_) (fun h5 => ?_)
    · refine jr.iconst rfl ?_
      exact jr.ireturn rfl rfl rfl (q _ _ hI_M hH_M hS_M ht_M (by first | exact rgq rfl | omega) (Or.inl rfl) (fun a i f598 => (hF_M a i f598)) (fun i g66 => (hG_M i g66)))
    · refine jr.aload_n rfl rfl ?_
      refine jr.aload_n rfl rfl ?_
      refine jr.iload_n rfl rfl ?_
      refine jr_v rfl rfl (Or.inl rfl) rfl rfl (nlt rfl) rfl ⟨rfl, Nat.le_of_ble_eq_true rfl, Nat.le_of_ble_eq_true rfl⟩ rfl (jc.deep (r_sideOf hI_M hH_M hS_M ht_M (by omega)  (fun r1 z1 w1_0 => ?_)) (Nat.le_of_ble_eq_true rfl))
      refine jr.putf (i := 66) (x := r1) rfl rfl (nlt rfl) rfl (nlt rfl) rfl rfl rfl rfl rfl ?_
      refine jr.aload_n rfl rfl ?_
      refine jr.getf (i := 66) (x := r1) (v := .int (Int32.ofInt (r1))) rfl rfl (nlt rfl) rfl (nlt rfl) rfl rfl (ju_same _ _ _ _) rfl ?_
      refine jr.iconst rfl ?_
      refine jr.icmp_eq rfl rfl (by first | (refine rgb (by assumption) ?_; exact rfl) | omega) (rgl rfl) (fun h22 => ?_) (fun h22 => ?_)
      · refine jr.iinc (ls' := [_, _]) rfl rfl (nlt rfl) rfl ?_
        refine jr.goto rfl rfl ?_
        refine jr.pick (ls := [_, _]) [0, 1] rfl rfl ?_
        exact ih (nM - 1) (by omega) (ju M 598 66 r1) (f + 1) (RI.u hI_M (a := 598) (i := 66) (show (-1 : Int) ≤ _ ∧ _ ≤ (1 : Int) from by omega)) (RH.o hH_M (by decide) (by decide) (by decide)) (RF.o hS_M (by decide) (by decide)) (Kp.o ht_M rfl) (fun a i f598 => ((ju_c _ _ f598).trans (hF_M a i f598))) (fun i g66 => ((ju_i _ _ g66).trans (hG_M i g66))) (by omega)  (by omega)
      · have sx22 : (0 : Int) ≤ r1 := by omega
        clear h22
        refine jr.iload_n rfl rfl ?_
        obtain ⟨v2, e2⟩ : ∃ z, M 629 f = z := ⟨_, rfl⟩
        have b2 : 0 ≤ v2 ∧ v2 ≤ 255 := by rw [← e2]; exact (by have q := hI_M 629 f (Nat.le_of_ble_eq_true rfl); rw [xri_row rfl rfl] at q; exact q)
        obtain ⟨v3, e3⟩ : ∃ z, M 598 60 = z := ⟨_, rfl⟩
        have b3 : 0 ≤ v3 ∧ v3 ≤ 255 := by rw [← e3]; exact hI_M 598 60 (Nat.le_of_ble_eq_true rfl)
        exact jr.ireturn rfl rfl rfl (q _ _ (RI.u hI_M (a := 598) (i := 66) (show (-1 : Int) ≤ _ ∧ _ ≤ (1 : Int) from by omega)) (RH.o hH_M (by decide) (by decide) (by decide)) (RF.o hS_M (by decide) (by decide)) (Kp.o ht_M rfl) (by omega) (Or.inr ⟨by rw [((ju_c _ _ (by decide)).trans e2), ((ju_i _ _ (zne (by decide))).trans e3)]; omega, by rw [(ju_same _ _ _ _)]; omega⟩) (fun a i f598 => ((ju_c _ _ f598).trans (hF_M a i f598))) (fun i g66 => ((ju_i _ _ g66).trans (hG_M i g66))))
theorem r_flowByEnds {A : Nat → Option (Nat × (Nat → Int32))} {Q : Option Value → jm → Prop} {T : jm} {M : jm} (hI_M : RI M) (hH_M : RH M) (hS_M : RF M) (ht_M : Kp T M) (q : ∀ (r : Int) (M' : jm), RI M' → RH M' → RF M' → Kp T M' → (-1) ≤ r ∧ r ≤ 23 → (r = -1 ∨ (M' 629 r = M' 598 60 ∧ 0 ≤ M' 598 66)) → (∀ (a : Nat) (i : Int), a ≠ 598 → M' a i = M a i) → (∀ (i : Int), i ≠ 66 → M' 598 i = M 598 i) → Q (some (.int (Int32.ofInt r))) M') : jc A 2 304 [.ref (598)] M Q := by
  refine jc_of (m := xm_304) rfl (Nat.le_of_ble_eq_true rfl) rfl ?_
  refine jr.iconst rfl ?_
  refine jr.istore_n (ls' := [_, _]) rfl (nlt rfl) rfl ?_
  refine jr.pick (ls := [_, _]) [0, 1] rfl rfl ?_
  exact r_flowByEnds_L2 q 24 M 0 hI_M hH_M hS_M ht_M (fun a i f598 => rfl) (fun i g66 => rfl) (by omega)  (by omega)
end
