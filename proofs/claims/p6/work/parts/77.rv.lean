/-! ===== the reference: fields, and the calls on headers ===== -/
theorem nbs_2t (f : Int → Int) (y : Int) : nbs f y 2 = tw f y := nbs_2 f y
theorem nbs_4t (f : Int → Int) (y : Int) : nbs f y 4 = tw f y * 65536 + tw f (y + 2) := by
  rw [nbs_4]
  unfold tw
  rw [show y + 2 + 1 = y + 3 by omega]
  omega
theorem jl_sho16 {a b : Int} (ha : 0 ≤ a ∧ a ≤ 65535) (hb : 0 ≤ b ∧ b ≤ 65535) : jl_or (jl_shl a 16) b = a * 65536 + b := by
  rw [jl_shl_16, jl_or_16 (by omega), jl_w_id (by omega)]
theorem jl_sho32 {a b : Int} (hb : 0 ≤ b ∧ b ≤ 4294967295) : jl_or (jl_shl a 32) b = jl_w (a * 4294967296 + b) := by
  rw [jl_shl_32, jl_or_32 (by omega)]
theorem r_four_x {A : Nat → Option (Nat × (Nat → Int32))} {Q : Option Value → jm → Prop} {M : jm} (hI_M : RI M) (hH_M : RH M) (hS_M : RF M) {x : Int} (h_x : 0 ≤ x ∧ x ≤ 23) {i : Int} (h_i : 0 ≤ i ∧ i ≤ 396) (q : ∀ (r : Int), 0 ≤ r ∧ r ≤ 4294967295 → r = nbs (rf M x) i 4 → Q (some (.long (Int64.ofInt r))) M) : jc A 3 255 [.ref (598), .int (Int32.ofInt (x)), .int (Int32.ofInt (i))] M Q := by
  refine jc_of (m := xm_255) rfl (Nat.le_of_ble_eq_true rfl) rfl ?_
  refine jr.aload_n rfl rfl ?_
  refine jr.iload_n rfl rfl ?_
  refine jr.iload_n rfl rfl ?_
  refine jr_v rfl rfl (Or.inl rfl) rfl rfl (by decide) rfl ⟨rfl, Nat.le_of_ble_eq_true rfl, Nat.le_of_ble_eq_true rfl⟩ rfl (jc.deep (r_two_x hI_M hH_M hS_M  (by omega) (by omega)  (fun r1 z1 w1_0 => ?_)) (by decide))
  refine jr.i2l rfl (by omega) ?_
  refine jr.bipush rfl (by decide) ?_
  refine jr.lshl rfl ?_
  refine jr.aload_n rfl rfl ?_
  refine jr.iload_n rfl rfl ?_
  refine jr.iload_n rfl rfl ?_
  refine jr.iconst rfl ?_
  refine jr.iadd rfl ?_
  refine jr_v rfl rfl (Or.inl rfl) rfl rfl (by decide) rfl ⟨rfl, Nat.le_of_ble_eq_true rfl, Nat.le_of_ble_eq_true rfl⟩ rfl (jc.deep (r_two_x hI_M hH_M hS_M  (by omega) (by omega)  (fun r2 z2 w2_0 => ?_)) (by decide))
  refine jr.i2l rfl (by omega) ?_
  refine jr.lor rfl ?_
  have b3 : jl_or (jl_shl r1 16) r2 = r1 * 65536 + r2 := jl_sho16 (by omega) (by omega)
  generalize jl_or (jl_shl r1 16) r2 = v3 at b3 ⊢
  exact jr.lreturn rfl rfl (q _ (by omega) (by rw [nbs_4t]; omega))
theorem r_eight_x {A : Nat → Option (Nat × (Nat → Int32))} {Q : Option Value → jm → Prop} {M : jm} (hI_M : RI M) (hH_M : RH M) (hS_M : RF M) {x : Int} (h_x : 0 ≤ x ∧ x ≤ 23) {i : Int} (h_i : 0 ≤ i ∧ i ≤ 392) (q : ∀ (r : Int), (-9223372036854775808) ≤ r ∧ r ≤ 9223372036854775807 → r = jl_w (nbs (rf M x) i 8) → Q (some (.long (Int64.ofInt r))) M) : jc A 4 256 [.ref (598), .int (Int32.ofInt (x)), .int (Int32.ofInt (i))] M Q := by
  refine jc_of (m := xm_256) rfl (Nat.le_of_ble_eq_true rfl) rfl ?_
  refine jr.aload_n rfl rfl ?_
  refine jr.iload_n rfl rfl ?_
  refine jr.iload_n rfl rfl ?_
  refine jr_v rfl rfl (Or.inl rfl) rfl rfl (by decide) rfl ⟨rfl, Nat.le_of_ble_eq_true rfl, Nat.le_of_ble_eq_true rfl⟩ rfl (jc.deep (r_four_x hI_M hH_M hS_M  (by omega) (by omega)  (fun r1 z1 w1_0 => ?_)) (by decide))
  refine jr.bipush rfl (by decide) ?_
  refine jr.lshl rfl ?_
  refine jr.aload_n rfl rfl ?_
  refine jr.iload_n rfl rfl ?_
  refine jr.iload_n rfl rfl ?_
  refine jr.iconst rfl ?_
  refine jr.iadd rfl ?_
  refine jr_v rfl rfl (Or.inl rfl) rfl rfl (by decide) rfl ⟨rfl, Nat.le_of_ble_eq_true rfl, Nat.le_of_ble_eq_true rfl⟩ rfl (jc.deep (r_four_x hI_M hH_M hS_M  (by omega) (by omega)  (fun r2 z2 w2_0 => ?_)) (by decide))
  refine jr.lor rfl ?_
  have b3 : jl_or (jl_shl r1 32) r2 = jl_w (r1 * 4294967296 + r2) ∧ -9223372036854775808 ≤ jl_or (jl_shl r1 32) r2 ∧ jl_or (jl_shl r1 32) r2 ≤ 9223372036854775807 := ⟨jl_sho32 (by omega), jbl_any _⟩
  generalize jl_or (jl_shl r1 32) r2 = v3 at b3 ⊢
  exact jr.lreturn rfl rfl (q _ (by omega) (by rw [nbs_8, ← w1_0, ← w2_0]; omega))
theorem r_fields_x {A : Nat → Option (Nat × (Nat → Int32))} {Q : Option Value → jm → Prop} {M : jm} (hI_M : RI M) (hH_M : RH M) (hS_M : RF M) {k : Int} (h_k : 0 ≤ k ∧ k ≤ 11) (q : ∀ (r : Int), 1 ≤ r ∧ r ≤ 11 → r = xcv_2 k → Q (some (.int (Int32.ofInt r))) M) : jc A 1 271 [.int (Int32.ofInt (k))] M Q := by
  rcases (show k = 0 ∨ k = 1 ∨ k = 2 ∨ k = 3 ∨ k = 4 ∨ k = 5 ∨ k = 6 ∨ k = 7 ∨ k = 8 ∨ k = 9 ∨ k = 10 ∨ k = 11 by omega) with rfl | rfl | rfl | rfl | rfl | rfl | rfl | rfl | rfl | rfl | rfl | rfl
  · refine jc_of (m := xm_271) rfl (Nat.le_of_ble_eq_true rfl) rfl ?_
    refine jr.iload_n rfl rfl ?_
    refine jr.tsw_k 0 rfl rfl rfl ?_
    refine jr.iconst rfl ?_
    exact jr.ireturn rfl rfl rfl (q _ (by omega) (by decide +kernel))
  · refine jc_of (m := xm_271) rfl (Nat.le_of_ble_eq_true rfl) rfl ?_
    refine jr.iload_n rfl rfl ?_
    refine jr.tsw_k 1 rfl rfl rfl ?_
    refine jr.iconst rfl ?_
    exact jr.ireturn rfl rfl rfl (q _ (by omega) (by decide +kernel))
  · refine jc_of (m := xm_271) rfl (Nat.le_of_ble_eq_true rfl) rfl ?_
    refine jr.iload_n rfl rfl ?_
    refine jr.tsw_k 2 rfl rfl rfl ?_
    refine jr.bipush rfl (by decide) ?_
    exact jr.ireturn rfl rfl rfl (q _ (by omega) (by decide +kernel))
  · refine jc_of (m := xm_271) rfl (Nat.le_of_ble_eq_true rfl) rfl ?_
    refine jr.iload_n rfl rfl ?_
    refine jr.tsw_k 3 rfl rfl rfl ?_
    refine jr.bipush rfl (by decide) ?_
    exact jr.ireturn rfl rfl rfl (q _ (by omega) (by decide +kernel))
  · refine jc_of (m := xm_271) rfl (Nat.le_of_ble_eq_true rfl) rfl ?_
    refine jr.iload_n rfl rfl ?_
    refine jr.tsw_k 4 rfl rfl rfl ?_
    refine jr.iconst rfl ?_
    exact jr.ireturn rfl rfl rfl (q _ (by omega) (by decide +kernel))
  · refine jc_of (m := xm_271) rfl (Nat.le_of_ble_eq_true rfl) rfl ?_
    refine jr.iload_n rfl rfl ?_
    refine jr.tsw_k 5 rfl rfl rfl ?_
    refine jr.iconst rfl ?_
    exact jr.ireturn rfl rfl rfl (q _ (by omega) (by decide +kernel))
  · refine jc_of (m := xm_271) rfl (Nat.le_of_ble_eq_true rfl) rfl ?_
    refine jr.iload_n rfl rfl ?_
    refine jr.tsw_k 6 rfl rfl rfl ?_
    refine jr.iconst rfl ?_
    exact jr.ireturn rfl rfl rfl (q _ (by omega) (by decide +kernel))
  · refine jc_of (m := xm_271) rfl (Nat.le_of_ble_eq_true rfl) rfl ?_
    refine jr.iload_n rfl rfl ?_
    refine jr.tsw_k 7 rfl rfl rfl ?_
    refine jr.iconst rfl ?_
    exact jr.ireturn rfl rfl rfl (q _ (by omega) (by decide +kernel))
  · refine jc_of (m := xm_271) rfl (Nat.le_of_ble_eq_true rfl) rfl ?_
    refine jr.iload_n rfl rfl ?_
    refine jr.tsw_k 8 rfl rfl rfl ?_
    refine jr.bipush rfl (by decide) ?_
    exact jr.ireturn rfl rfl rfl (q _ (by omega) (by decide +kernel))
  · refine jc_of (m := xm_271) rfl (Nat.le_of_ble_eq_true rfl) rfl ?_
    refine jr.iload_n rfl rfl ?_
    refine jr.tsw_k 9 rfl rfl rfl ?_
    refine jr.iconst rfl ?_
    exact jr.ireturn rfl rfl rfl (q _ (by omega) (by decide +kernel))
  · refine jc_of (m := xm_271) rfl (Nat.le_of_ble_eq_true rfl) rfl ?_
    refine jr.iload_n rfl rfl ?_
    refine jr.tsw_k 10 rfl rfl rfl ?_
    refine jr.iconst rfl ?_
    exact jr.ireturn rfl rfl rfl (q _ (by omega) (by decide +kernel))
  · refine jc_of (m := xm_271) rfl (Nat.le_of_ble_eq_true rfl) rfl ?_
    refine jr.iload_n rfl rfl ?_
    refine jr.tsw_k 11 rfl rfl rfl ?_
    refine jr.iconst rfl ?_
    exact jr.ireturn rfl rfl rfl (q _ (by omega) (by decide +kernel))
theorem r_ofFour_x {A : Nat → Option (Nat × (Nat → Int32))} {Q : Option Value → jm → Prop} {M : jm} (hI_M : RI M) (hH_M : RH M) (hS_M : RF M) {x : Int} (h_x : 0 ≤ x ∧ x ≤ 23) {a : Int} (h_a : 0 ≤ a ∧ a ≤ 380) {f : Int} (h_f : 0 ≤ f ∧ f ≤ 10) (q : ∀ (r : Int), (-9223372036854775808) ≤ r ∧ r ≤ 9223372036854775807 → (∀ z : Int, r = vof (rf M x) z 2 a f) → Q (some (.long (Int64.ofInt r))) M) : jc A 4 272 [.ref (598), .int (Int32.ofInt (x)), .int (Int32.ofInt (a)), .int (Int32.ofInt (f))] M Q := by
  rcases (show f = 0 ∨ f = 1 ∨ f = 2 ∨ f = 3 ∨ f = 4 ∨ f = 5 ∨ f = 6 ∨ f = 7 ∨ f = 8 ∨ f = 9 ∨ f = 10 by omega) with rfl | rfl | rfl | rfl | rfl | rfl | rfl | rfl | rfl | rfl | rfl
  · refine jc_of (m := xm_272) rfl (Nat.le_of_ble_eq_true rfl) rfl ?_
    refine jr.iload_n rfl rfl ?_
    refine jr.tsw_k 0 rfl rfl rfl ?_
    refine jr.aload_n rfl rfl ?_
    refine jr.iload_n rfl rfl ?_
    refine jr.iload_n rfl rfl ?_
    refine jr_v rfl rfl (Or.inl rfl) rfl rfl (by decide) rfl ⟨rfl, Nat.le_of_ble_eq_true rfl, Nat.le_of_ble_eq_true rfl⟩ rfl (jc.deep (r_one hI_M hH_M hS_M (Kp.rfl _) (by omega) (by omega)  (fun r1 z1 w1_0 => ?_)) (by decide))
    refine jr.bipush rfl (by decide) ?_
    refine jr.iand rfl ?_
    have b2 : j_and r1 15 = r1 % 16 := j_and_m 4 (by decide) _
    generalize j_and r1 15 = v2 at b2 ⊢
    refine jr.i2l rfl (by omega) ?_
    exact jr.lreturn rfl rfl (q _ (by omega) (fun z => by have hw := w1_0; (try simp only [Int.reduceMul, Int.add_zero] at hw); simp only [vof_2_0, nbs_1, nbs_2t, Int.add_zero, rf_a]; omega))
  · refine jc_of (m := xm_272) rfl (Nat.le_of_ble_eq_true rfl) rfl ?_
    refine jr.iload_n rfl rfl ?_
    refine jr.tsw_k 1 rfl rfl rfl ?_
    refine jr.aload_n rfl rfl ?_
    refine jr.iload_n rfl rfl ?_
    refine jr.iload_n rfl rfl ?_
    refine jr.iconst rfl ?_
    refine jr.iadd rfl ?_
    refine jr_v rfl rfl (Or.inl rfl) rfl rfl (by decide) rfl ⟨rfl, Nat.le_of_ble_eq_true rfl, Nat.le_of_ble_eq_true rfl⟩ rfl (jc.deep (r_one hI_M hH_M hS_M (Kp.rfl _) (by omega) (by omega)  (fun r1 z1 w1_0 => ?_)) (by decide))
    refine jr.i2l rfl (by omega) ?_
    exact jr.lreturn rfl rfl (q _ (by omega) (fun z => by have hw := w1_0; (try simp only [Int.reduceMul, Int.add_zero] at hw); simp only [vof_2_1, nbs_1, nbs_2t, Int.add_zero, rf_a]; omega))
  · refine jc_of (m := xm_272) rfl (Nat.le_of_ble_eq_true rfl) rfl ?_
    refine jr.iload_n rfl rfl ?_
    refine jr.tsw_k 2 rfl rfl rfl ?_
    refine jr.aload_n rfl rfl ?_
    refine jr.iload_n rfl rfl ?_
    refine jr.iload_n rfl rfl ?_
    refine jr.iconst rfl ?_
    refine jr.iadd rfl ?_
    refine jr_v rfl rfl (Or.inl rfl) rfl rfl (by decide) rfl ⟨rfl, Nat.le_of_ble_eq_true rfl, Nat.le_of_ble_eq_true rfl⟩ rfl (jc.deep (r_two_x hI_M hH_M hS_M  (by omega) (by omega)  (fun r1 z1 w1_0 => ?_)) (by decide))
    refine jr.i2l rfl (by omega) ?_
    exact jr.lreturn rfl rfl (q _ (by omega) (fun z => by have hw := w1_0; (try simp only [Int.reduceMul, Int.add_zero] at hw); simp only [vof_2_2, nbs_1, nbs_2t, Int.add_zero, rf_a]; omega))
  · refine jc_of (m := xm_272) rfl (Nat.le_of_ble_eq_true rfl) rfl ?_
    refine jr.iload_n rfl rfl ?_
    refine jr.tsw_k 3 rfl rfl rfl ?_
    refine jr.aload_n rfl rfl ?_
    refine jr.iload_n rfl rfl ?_
    refine jr.iload_n rfl rfl ?_
    refine jr.iconst rfl ?_
    refine jr.iadd rfl ?_
    refine jr_v rfl rfl (Or.inl rfl) rfl rfl (by decide) rfl ⟨rfl, Nat.le_of_ble_eq_true rfl, Nat.le_of_ble_eq_true rfl⟩ rfl (jc.deep (r_two_x hI_M hH_M hS_M  (by omega) (by omega)  (fun r1 z1 w1_0 => ?_)) (by decide))
    refine jr.i2l rfl (by omega) ?_
    exact jr.lreturn rfl rfl (q _ (by omega) (fun z => by have hw := w1_0; (try simp only [Int.reduceMul, Int.add_zero] at hw); simp only [vof_2_3, nbs_1, nbs_2t, Int.add_zero, rf_a]; omega))
  · refine jc_of (m := xm_272) rfl (Nat.le_of_ble_eq_true rfl) rfl ?_
    refine jr.iload_n rfl rfl ?_
    refine jr.tsw_k 4 rfl rfl rfl ?_
    refine jr.aload_n rfl rfl ?_
    refine jr.iload_n rfl rfl ?_
    refine jr.iload_n rfl rfl ?_
    refine jr.bipush rfl (by decide) ?_
    refine jr.iadd rfl ?_
    refine jr_v rfl rfl (Or.inl rfl) rfl rfl (by decide) rfl ⟨rfl, Nat.le_of_ble_eq_true rfl, Nat.le_of_ble_eq_true rfl⟩ rfl (jc.deep (r_two_x hI_M hH_M hS_M  (by omega) (by omega)  (fun r1 z1 w1_0 => ?_)) (by decide))
    refine jr.bipush rfl (by decide) ?_
    refine jr.ishr rfl ?_
    have b2 : j_shr r1 13 = r1 / 8192 := j_shr_ex 13 (by decide) (by omega) (by omega)
    generalize j_shr r1 13 = v2 at b2 ⊢
    refine jr.i2l rfl (by omega) ?_
    exact jr.lreturn rfl rfl (q _ (by omega) (fun z => by have hw := w1_0; (try simp only [Int.reduceMul, Int.add_zero] at hw); simp only [vof_2_4, nbs_1, nbs_2t, Int.add_zero, rf_a]; omega))
  · refine jc_of (m := xm_272) rfl (Nat.le_of_ble_eq_true rfl) rfl ?_
    refine jr.iload_n rfl rfl ?_
    refine jr.tsw_k 5 rfl rfl rfl ?_
    refine jr.aload_n rfl rfl ?_
    refine jr.iload_n rfl rfl ?_
    refine jr.iload_n rfl rfl ?_
    refine jr.bipush rfl (by decide) ?_
    refine jr.iadd rfl ?_
    refine jr_v rfl rfl (Or.inl rfl) rfl rfl (by decide) rfl ⟨rfl, Nat.le_of_ble_eq_true rfl, Nat.le_of_ble_eq_true rfl⟩ rfl (jc.deep (r_two_x hI_M hH_M hS_M  (by omega) (by omega)  (fun r1 z1 w1_0 => ?_)) (by decide))
    refine jr.sipush rfl (by decide) ?_
    refine jr.iand rfl ?_
    have b2 : j_and r1 8191 = r1 % 8192 := j_and_m 13 (by decide) _
    generalize j_and r1 8191 = v2 at b2 ⊢
    refine jr.i2l rfl (by omega) ?_
    exact jr.lreturn rfl rfl (q _ (by omega) (fun z => by have hw := w1_0; (try simp only [Int.reduceMul, Int.add_zero] at hw); simp only [vof_2_5, nbs_1, nbs_2t, Int.add_zero, rf_a]; omega))
  · refine jc_of (m := xm_272) rfl (Nat.le_of_ble_eq_true rfl) rfl ?_
    refine jr.iload_n rfl rfl ?_
    refine jr.tsw_k 6 rfl rfl rfl ?_
    refine jr.aload_n rfl rfl ?_
    refine jr.iload_n rfl rfl ?_
    refine jr.iload_n rfl rfl ?_
    refine jr.bipush rfl (by decide) ?_
    refine jr.iadd rfl ?_
    refine jr_v rfl rfl (Or.inl rfl) rfl rfl (by decide) rfl ⟨rfl, Nat.le_of_ble_eq_true rfl, Nat.le_of_ble_eq_true rfl⟩ rfl (jc.deep (r_one hI_M hH_M hS_M (Kp.rfl _) (by omega) (by omega)  (fun r1 z1 w1_0 => ?_)) (by decide))
    refine jr.i2l rfl (by omega) ?_
    exact jr.lreturn rfl rfl (q _ (by omega) (fun z => by have hw := w1_0; (try simp only [Int.reduceMul, Int.add_zero] at hw); simp only [vof_2_6, nbs_1, nbs_2t, Int.add_zero, rf_a]; omega))
  · refine jc_of (m := xm_272) rfl (Nat.le_of_ble_eq_true rfl) rfl ?_
    refine jr.iload_n rfl rfl ?_
    refine jr.tsw_k 7 rfl rfl rfl ?_
    refine jr.aload_n rfl rfl ?_
    refine jr.iload_n rfl rfl ?_
    refine jr.iload_n rfl rfl ?_
    refine jr.bipush rfl (by decide) ?_
    refine jr.iadd rfl ?_
    refine jr_v rfl rfl (Or.inl rfl) rfl rfl (by decide) rfl ⟨rfl, Nat.le_of_ble_eq_true rfl, Nat.le_of_ble_eq_true rfl⟩ rfl (jc.deep (r_one hI_M hH_M hS_M (Kp.rfl _) (by omega) (by omega)  (fun r1 z1 w1_0 => ?_)) (by decide))
    refine jr.i2l rfl (by omega) ?_
    exact jr.lreturn rfl rfl (q _ (by omega) (fun z => by have hw := w1_0; (try simp only [Int.reduceMul, Int.add_zero] at hw); simp only [vof_2_7, nbs_1, nbs_2t, Int.add_zero, rf_a]; omega))
  · refine jc_of (m := xm_272) rfl (Nat.le_of_ble_eq_true rfl) rfl ?_
    refine jr.iload_n rfl rfl ?_
    refine jr.tsw_k 8 rfl rfl rfl ?_
    refine jr.aload_n rfl rfl ?_
    refine jr.iload_n rfl rfl ?_
    refine jr.iload_n rfl rfl ?_
    refine jr.bipush rfl (by decide) ?_
    refine jr.iadd rfl ?_
    refine jr_v rfl rfl (Or.inl rfl) rfl rfl (by decide) rfl ⟨rfl, Nat.le_of_ble_eq_true rfl, Nat.le_of_ble_eq_true rfl⟩ rfl (jc.deep (r_two_x hI_M hH_M hS_M  (by omega) (by omega)  (fun r1 z1 w1_0 => ?_)) (by decide))
    refine jr.i2l rfl (by omega) ?_
    exact jr.lreturn rfl rfl (q _ (by omega) (fun z => by have hw := w1_0; (try simp only [Int.reduceMul, Int.add_zero] at hw); simp only [vof_2_8, nbs_1, nbs_2t, Int.add_zero, rf_a]; omega))
  · refine jc_of (m := xm_272) rfl (Nat.le_of_ble_eq_true rfl) rfl ?_
    refine jr.iload_n rfl rfl ?_
    refine jr.tsw_d rfl (by decide) (by decide) rfl ?_
    refine jr.aload_n rfl rfl ?_
    refine jr.iload_n rfl rfl ?_
    refine jr.iload_n rfl rfl ?_
    refine jr.bipush rfl (by decide) ?_
    refine jr.icmp_ne rfl rfl (by omega) (by omega) (fun h => absurd h (by decide)) (fun _ => ?_)
    refine jr.iload_n rfl rfl ?_
    refine jr.bipush rfl (by decide) ?_
    refine jr.iadd rfl ?_
    refine jr.goto rfl rfl ?_
    refine jr_v rfl rfl (Or.inl rfl) rfl rfl (by decide) rfl ⟨rfl, Nat.le_of_ble_eq_true rfl, Nat.le_of_ble_eq_true rfl⟩ rfl (jc.deep (r_four_x hI_M hH_M hS_M  (by omega) (by omega)  (fun r1 z1 w1_0 => ?_)) (by decide))
    exact jr.lreturn rfl rfl (q _ (by omega) (fun z => by have hw := w1_0; (try simp only [Int.reduceMul, Int.add_zero] at hw); simp only [vof_2_9, nbs_1, nbs_2t, Int.add_zero, rf_a]; omega))
  · refine jc_of (m := xm_272) rfl (Nat.le_of_ble_eq_true rfl) rfl ?_
    refine jr.iload_n rfl rfl ?_
    refine jr.tsw_d rfl (by decide) (by decide) rfl ?_
    refine jr.aload_n rfl rfl ?_
    refine jr.iload_n rfl rfl ?_
    refine jr.iload_n rfl rfl ?_
    refine jr.bipush rfl (by decide) ?_
    refine jr.icmp_ne rfl rfl (by omega) (by omega) (fun _ => ?_) (fun h => absurd (by decide) h)
    refine jr.iload_n rfl rfl ?_
    refine jr.bipush rfl (by decide) ?_
    refine jr.iadd rfl ?_
    refine jr_v rfl rfl (Or.inl rfl) rfl rfl (by decide) rfl ⟨rfl, Nat.le_of_ble_eq_true rfl, Nat.le_of_ble_eq_true rfl⟩ rfl (jc.deep (r_four_x hI_M hH_M hS_M  (by omega) (by omega)  (fun r1 z1 w1_0 => ?_)) (by decide))
    exact jr.lreturn rfl rfl (q _ (by omega) (fun z => by have hw := w1_0; (try simp only [Int.reduceMul, Int.add_zero] at hw); simp only [vof_2_10, nbs_1, nbs_2t, Int.add_zero, rf_a]; omega))
theorem r_ofSix_x {A : Nat → Option (Nat × (Nat → Int32))} {Q : Option Value → jm → Prop} {M : jm} (hI_M : RI M) (hH_M : RH M) (hS_M : RF M) {x : Int} (h_x : 0 ≤ x ∧ x ≤ 23) {a : Int} (h_a : 0 ≤ a ∧ a ≤ 376) {f : Int} (h_f : 0 ≤ f ∧ f ≤ 6) (q : ∀ (r : Int), (-9223372036854775808) ≤ r ∧ r ≤ 9223372036854775807 → (∀ z : Int, r = vof (rf M x) z 3 a f) → Q (some (.long (Int64.ofInt r))) M) : jc A 5 273 [.ref (598), .int (Int32.ofInt (x)), .int (Int32.ofInt (a)), .int (Int32.ofInt (f))] M Q := by
  rcases (show f = 0 ∨ f = 1 ∨ f = 2 ∨ f = 3 ∨ f = 4 ∨ f = 5 ∨ f = 6 by omega) with rfl | rfl | rfl | rfl | rfl | rfl | rfl
  · refine jc_of (m := xm_273) rfl (Nat.le_of_ble_eq_true rfl) rfl ?_
    refine jr.iload_n rfl rfl ?_
    refine jr.tsw_k 0 rfl rfl rfl ?_
    refine jr.aload_n rfl rfl ?_
    refine jr.iload_n rfl rfl ?_
    refine jr.iload_n rfl rfl ?_
    refine jr.iconst rfl ?_
    refine jr.iadd rfl ?_
    refine jr_v rfl rfl (Or.inl rfl) rfl rfl (by decide) rfl ⟨rfl, Nat.le_of_ble_eq_true rfl, Nat.le_of_ble_eq_true rfl⟩ rfl (jc.deep (r_one hI_M hH_M hS_M (Kp.rfl _) (by omega) (by omega)  (fun r1 z1 w1_0 => ?_)) (by decide))
    refine jr.i2l rfl (by omega) ?_
    exact jr.lreturn rfl rfl (q _ (by omega) (fun z => by have hw := w1_0; (try simp only [Int.reduceMul, Int.add_zero] at hw); simp only [vof_3_0, nbs_1, nbs_2t, Int.add_zero, rf_a]; omega))
  · refine jc_of (m := xm_273) rfl (Nat.le_of_ble_eq_true rfl) rfl ?_
    refine jr.iload_n rfl rfl ?_
    refine jr.tsw_k 1 rfl rfl rfl ?_
    refine jr.aload_n rfl rfl ?_
    refine jr.iload_n rfl rfl ?_
    refine jr.iload_n rfl rfl ?_
    refine jr.iconst rfl ?_
    refine jr.iadd rfl ?_
    refine jr_v rfl rfl (Or.inl rfl) rfl rfl (by decide) rfl ⟨rfl, Nat.le_of_ble_eq_true rfl, Nat.le_of_ble_eq_true rfl⟩ rfl (jc.deep (r_two_x hI_M hH_M hS_M  (by omega) (by omega)  (fun r1 z1 w1_0 => ?_)) (by decide))
    refine jr.i2l rfl (by omega) ?_
    exact jr.lreturn rfl rfl (q _ (by omega) (fun z => by have hw := w1_0; (try simp only [Int.reduceMul, Int.add_zero] at hw); simp only [vof_3_1, nbs_1, nbs_2t, Int.add_zero, rf_a]; omega))
  · refine jc_of (m := xm_273) rfl (Nat.le_of_ble_eq_true rfl) rfl ?_
    refine jr.iload_n rfl rfl ?_
    refine jr.tsw_k 2 rfl rfl rfl ?_
    refine jr.aload_n rfl rfl ?_
    refine jr.iload_n rfl rfl ?_
    refine jr.iload_n rfl rfl ?_
    refine jr.iconst rfl ?_
    refine jr.iadd rfl ?_
    refine jr_v rfl rfl (Or.inl rfl) rfl rfl (by decide) rfl ⟨rfl, Nat.le_of_ble_eq_true rfl, Nat.le_of_ble_eq_true rfl⟩ rfl (jc.deep (r_one hI_M hH_M hS_M (Kp.rfl _) (by omega) (by omega)  (fun r1 z1 w1_0 => ?_)) (by decide))
    refine jr.i2l rfl (by omega) ?_
    exact jr.lreturn rfl rfl (q _ (by omega) (fun z => by have hw := w1_0; (try simp only [Int.reduceMul, Int.add_zero] at hw); simp only [vof_3_2, nbs_1, nbs_2t, Int.add_zero, rf_a]; omega))
  · refine jc_of (m := xm_273) rfl (Nat.le_of_ble_eq_true rfl) rfl ?_
    refine jr.iload_n rfl rfl ?_
    refine jr.tsw_k 3 rfl rfl rfl ?_
    refine jr.aload_n rfl rfl ?_
    refine jr.iload_n rfl rfl ?_
    refine jr.iload_n rfl rfl ?_
    refine jr.iconst rfl ?_
    refine jr.iadd rfl ?_
    refine jr_v rfl rfl (Or.inl rfl) rfl rfl (by decide) rfl ⟨rfl, Nat.le_of_ble_eq_true rfl, Nat.le_of_ble_eq_true rfl⟩ rfl (jc.deep (r_one hI_M hH_M hS_M (Kp.rfl _) (by omega) (by omega)  (fun r1 z1 w1_0 => ?_)) (by decide))
    refine jr.i2l rfl (by omega) ?_
    exact jr.lreturn rfl rfl (q _ (by omega) (fun z => by have hw := w1_0; (try simp only [Int.reduceMul, Int.add_zero] at hw); simp only [vof_3_3, nbs_1, nbs_2t, Int.add_zero, rf_a]; omega))
  · refine jc_of (m := xm_273) rfl (Nat.le_of_ble_eq_true rfl) rfl ?_
    refine jr.iload_n rfl rfl ?_
    refine jr.tsw_k 4 rfl rfl rfl ?_
    refine jr.aload_n rfl rfl ?_
    refine jr.iload_n rfl rfl ?_
    refine jr.iload_n rfl rfl ?_
    refine jr.bipush rfl (by decide) ?_
    refine jr.iadd rfl ?_
    refine jr_v rfl rfl (Or.inl rfl) rfl rfl (by decide) rfl ⟨rfl, Nat.le_of_ble_eq_true rfl, Nat.le_of_ble_eq_true rfl⟩ rfl (jc.deep (r_two_x hI_M hH_M hS_M  (by omega) (by omega)  (fun r1 z1 w1_0 => ?_)) (by decide))
    refine jr.i2l rfl (by omega) ?_
    exact jr.lreturn rfl rfl (q _ (by omega) (fun z => by have hw := w1_0; (try simp only [Int.reduceMul, Int.add_zero] at hw); simp only [vof_3_4, nbs_1, nbs_2t, Int.add_zero, rf_a]; omega))
  · refine jc_of (m := xm_273) rfl (Nat.le_of_ble_eq_true rfl) rfl ?_
    refine jr.iload_n rfl rfl ?_
    refine jr.tsw_d rfl (by decide) (by decide) rfl ?_
    refine jr.aload_n rfl rfl ?_
    refine jr.iload_n rfl rfl ?_
    refine jr.iload_n rfl rfl ?_
    refine jr.iconst rfl ?_
    refine jr.icmp_ne rfl rfl (by omega) (by omega) (fun h => absurd h (by decide)) (fun _ => ?_)
    refine jr.iload_n rfl rfl ?_
    refine jr.bipush rfl (by decide) ?_
    refine jr.iadd rfl ?_
    refine jr.goto rfl rfl ?_
    refine jr_v rfl rfl (Or.inl rfl) rfl rfl (by decide) rfl ⟨rfl, Nat.le_of_ble_eq_true rfl, Nat.le_of_ble_eq_true rfl⟩ rfl (jc.deep (r_eight_x hI_M hH_M hS_M  (by omega) (by omega)  (fun r1 z1 w1_0 => ?_)) (by decide))
    exact jr.lreturn rfl rfl (q _ (by omega) (fun z => by have hw := w1_0; (try simp only [Int.reduceMul, Int.add_zero] at hw); simp only [vof_3_5, nbs_1, nbs_2t, Int.add_zero, rf_a]; omega))
  · refine jc_of (m := xm_273) rfl (Nat.le_of_ble_eq_true rfl) rfl ?_
    refine jr.iload_n rfl rfl ?_
    refine jr.tsw_d rfl (by decide) (by decide) rfl ?_
    refine jr.aload_n rfl rfl ?_
    refine jr.iload_n rfl rfl ?_
    refine jr.iload_n rfl rfl ?_
    refine jr.iconst rfl ?_
    refine jr.icmp_ne rfl rfl (by omega) (by omega) (fun _ => ?_) (fun h => absurd (by decide) h)
    refine jr.iload_n rfl rfl ?_
    refine jr.bipush rfl (by decide) ?_
    refine jr.iadd rfl ?_
    refine jr_v rfl rfl (Or.inl rfl) rfl rfl (by decide) rfl ⟨rfl, Nat.le_of_ble_eq_true rfl, Nat.le_of_ble_eq_true rfl⟩ rfl (jc.deep (r_eight_x hI_M hH_M hS_M  (by omega) (by omega)  (fun r1 z1 w1_0 => ?_)) (by decide))
    exact jr.lreturn rfl rfl (q _ (by omega) (fun z => by have hw := w1_0; (try simp only [Int.reduceMul, Int.add_zero] at hw); simp only [vof_3_6, nbs_1, nbs_2t, Int.add_zero, rf_a]; omega))
theorem r_ofStream_x {A : Nat → Option (Nat × (Nat → Int32))} {Q : Option Value → jm → Prop} {M : jm} (hI_M : RI M) (hH_M : RH M) (hS_M : RF M) {x : Int} (h_x : 0 ≤ x ∧ x ≤ 23) {a : Int} (h_a : 0 ≤ a ∧ a ≤ 380) {f : Int} (h_f : 0 ≤ f ∧ f ≤ 7) (q : ∀ (r : Int), (-9223372036854775808) ≤ r ∧ r ≤ 9223372036854775807 → (∀ z : Int, r = vof (rf M x) z 8 a f) → Q (some (.long (Int64.ofInt r))) M) : jc A 4 274 [.ref (598), .int (Int32.ofInt (x)), .int (Int32.ofInt (a)), .int (Int32.ofInt (f))] M Q := by
  rcases (show f = 0 ∨ f = 1 ∨ f = 2 ∨ f = 3 ∨ f = 4 ∨ f = 5 ∨ f = 6 ∨ f = 7 by omega) with rfl | rfl | rfl | rfl | rfl | rfl | rfl | rfl
  · refine jc_of (m := xm_274) rfl (Nat.le_of_ble_eq_true rfl) rfl ?_
    refine jr.iload_n rfl rfl ?_
    refine jr.tsw_k 0 rfl rfl rfl ?_
    refine jr.aload_n rfl rfl ?_
    refine jr.iload_n rfl rfl ?_
    refine jr.iload_n rfl rfl ?_
    refine jr.iconst rfl ?_
    refine jr.iload_n rfl rfl ?_
    refine jr.imul rfl ?_
    refine jr.iadd rfl ?_
    refine jr_v rfl rfl (Or.inl rfl) rfl rfl (by decide) rfl ⟨rfl, Nat.le_of_ble_eq_true rfl, Nat.le_of_ble_eq_true rfl⟩ rfl (jc.deep (r_two_x hI_M hH_M hS_M  (by omega) (by omega)  (fun r1 z1 w1_0 => ?_)) (by decide))
    refine jr.i2l rfl (by omega) ?_
    exact jr.lreturn rfl rfl (q _ (by omega) (fun z => by have hw := w1_0; (try simp only [Int.reduceMul, Int.add_zero] at hw); simp only [vof_8_0, nbs_1, nbs_2t, Int.add_zero, rf_a]; omega))
  · refine jc_of (m := xm_274) rfl (Nat.le_of_ble_eq_true rfl) rfl ?_
    refine jr.iload_n rfl rfl ?_
    refine jr.tsw_k 1 rfl rfl rfl ?_
    refine jr.aload_n rfl rfl ?_
    refine jr.iload_n rfl rfl ?_
    refine jr.iload_n rfl rfl ?_
    refine jr.iconst rfl ?_
    refine jr.iload_n rfl rfl ?_
    refine jr.imul rfl ?_
    refine jr.iadd rfl ?_
    refine jr_v rfl rfl (Or.inl rfl) rfl rfl (by decide) rfl ⟨rfl, Nat.le_of_ble_eq_true rfl, Nat.le_of_ble_eq_true rfl⟩ rfl (jc.deep (r_two_x hI_M hH_M hS_M  (by omega) (by omega)  (fun r1 z1 w1_0 => ?_)) (by decide))
    refine jr.i2l rfl (by omega) ?_
    exact jr.lreturn rfl rfl (q _ (by omega) (fun z => by have hw := w1_0; (try simp only [Int.reduceMul, Int.add_zero] at hw); simp only [vof_8_1, nbs_1, nbs_2t, Int.add_zero, rf_a]; omega))
  · refine jc_of (m := xm_274) rfl (Nat.le_of_ble_eq_true rfl) rfl ?_
    refine jr.iload_n rfl rfl ?_
    refine jr.tsw_k 2 rfl rfl rfl ?_
    refine jr.aload_n rfl rfl ?_
    refine jr.iload_n rfl rfl ?_
    refine jr.iload_n rfl rfl ?_
    refine jr.iconst rfl ?_
    refine jr.iload_n rfl rfl ?_
    refine jr.imul rfl ?_
    refine jr.iadd rfl ?_
    refine jr.iconst rfl ?_
    refine jr.isub rfl ?_
    refine jr_v rfl rfl (Or.inl rfl) rfl rfl (by decide) rfl ⟨rfl, Nat.le_of_ble_eq_true rfl, Nat.le_of_ble_eq_true rfl⟩ rfl (jc.deep (r_four_x hI_M hH_M hS_M  (by omega) (by omega)  (fun r1 z1 w1_0 => ?_)) (by decide))
    exact jr.lreturn rfl rfl (q _ (by omega) (fun z => by have hw := w1_0; rw [show a + 4 * 2 - 4 = a + 4 from by omega] at hw; (try simp only [Int.reduceMul, Int.add_zero] at hw); simp only [vof_8_2, nbs_1, nbs_2t, Int.add_zero, rf_a]; omega))
  · refine jc_of (m := xm_274) rfl (Nat.le_of_ble_eq_true rfl) rfl ?_
    refine jr.iload_n rfl rfl ?_
    refine jr.tsw_k 3 rfl rfl rfl ?_
    refine jr.aload_n rfl rfl ?_
    refine jr.iload_n rfl rfl ?_
    refine jr.iload_n rfl rfl ?_
    refine jr.iconst rfl ?_
    refine jr.iload_n rfl rfl ?_
    refine jr.imul rfl ?_
    refine jr.iadd rfl ?_
    refine jr.iconst rfl ?_
    refine jr.isub rfl ?_
    refine jr_v rfl rfl (Or.inl rfl) rfl rfl (by decide) rfl ⟨rfl, Nat.le_of_ble_eq_true rfl, Nat.le_of_ble_eq_true rfl⟩ rfl (jc.deep (r_four_x hI_M hH_M hS_M  (by omega) (by omega)  (fun r1 z1 w1_0 => ?_)) (by decide))
    exact jr.lreturn rfl rfl (q _ (by omega) (fun z => by have hw := w1_0; rw [show a + 4 * 3 - 4 = a + 8 from by omega] at hw; (try simp only [Int.reduceMul, Int.add_zero] at hw); simp only [vof_8_3, nbs_1, nbs_2t, Int.add_zero, rf_a]; omega))
  · refine jc_of (m := xm_274) rfl (Nat.le_of_ble_eq_true rfl) rfl ?_
    refine jr.iload_n rfl rfl ?_
    refine jr.tsw_k 4 rfl rfl rfl ?_
    refine jr.aload_n rfl rfl ?_
    refine jr.iload_n rfl rfl ?_
    refine jr.iload_n rfl rfl ?_
    refine jr.bipush rfl (by decide) ?_
    refine jr.iadd rfl ?_
    refine jr_v rfl rfl (Or.inl rfl) rfl rfl (by decide) rfl ⟨rfl, Nat.le_of_ble_eq_true rfl, Nat.le_of_ble_eq_true rfl⟩ rfl (jc.deep (r_one hI_M hH_M hS_M (Kp.rfl _) (by omega) (by omega)  (fun r1 z1 w1_0 => ?_)) (by decide))
    refine jr.iconst rfl ?_
    refine jr.ishr rfl ?_
    have b2 : j_shr r1 4 = r1 / 16 := j_shr_ex 4 (by decide) (by omega) (by omega)
    generalize j_shr r1 4 = v2 at b2 ⊢
    refine jr.i2l rfl (by omega) ?_
    exact jr.lreturn rfl rfl (q _ (by omega) (fun z => by have hw := w1_0; (try simp only [Int.reduceMul, Int.add_zero] at hw); simp only [vof_8_4, nbs_1, nbs_2t, Int.add_zero, rf_a]; omega))
  · refine jc_of (m := xm_274) rfl (Nat.le_of_ble_eq_true rfl) rfl ?_
    refine jr.iload_n rfl rfl ?_
    refine jr.tsw_k 5 rfl rfl rfl ?_
    refine jr.aload_n rfl rfl ?_
    refine jr.iload_n rfl rfl ?_
    refine jr.iload_n rfl rfl ?_
    refine jr.bipush rfl (by decide) ?_
    refine jr.iadd rfl ?_
    refine jr_v rfl rfl (Or.inl rfl) rfl rfl (by decide) rfl ⟨rfl, Nat.le_of_ble_eq_true rfl, Nat.le_of_ble_eq_true rfl⟩ rfl (jc.deep (r_one hI_M hH_M hS_M (Kp.rfl _) (by omega) (by omega)  (fun r1 z1 w1_0 => ?_)) (by decide))
    refine jr.i2l rfl (by omega) ?_
    exact jr.lreturn rfl rfl (q _ (by omega) (fun z => by have hw := w1_0; (try simp only [Int.reduceMul, Int.add_zero] at hw); simp only [vof_8_5, nbs_1, nbs_2t, Int.add_zero, rf_a]; omega))
  · refine jc_of (m := xm_274) rfl (Nat.le_of_ble_eq_true rfl) rfl ?_
    refine jr.iload_n rfl rfl ?_
    refine jr.tsw_d rfl (by decide) (by decide) rfl ?_
    refine jr.aload_n rfl rfl ?_
    refine jr.iload_n rfl rfl ?_
    refine jr.iload_n rfl rfl ?_
    refine jr.bipush rfl (by decide) ?_
    refine jr.icmp_ne rfl rfl (by omega) (by omega) (fun h => absurd h (by decide)) (fun _ => ?_)
    refine jr.iload_n rfl rfl ?_
    refine jr.bipush rfl (by decide) ?_
    refine jr.iadd rfl ?_
    refine jr.goto rfl rfl ?_
    refine jr_v rfl rfl (Or.inl rfl) rfl rfl (by decide) rfl ⟨rfl, Nat.le_of_ble_eq_true rfl, Nat.le_of_ble_eq_true rfl⟩ rfl (jc.deep (r_two_x hI_M hH_M hS_M  (by omega) (by omega)  (fun r1 z1 w1_0 => ?_)) (by decide))
    refine jr.i2l rfl (by omega) ?_
    exact jr.lreturn rfl rfl (q _ (by omega) (fun z => by have hw := w1_0; (try simp only [Int.reduceMul, Int.add_zero] at hw); simp only [vof_8_6, nbs_1, nbs_2t, Int.add_zero, rf_a]; omega))
  · refine jc_of (m := xm_274) rfl (Nat.le_of_ble_eq_true rfl) rfl ?_
    refine jr.iload_n rfl rfl ?_
    refine jr.tsw_d rfl (by decide) (by decide) rfl ?_
    refine jr.aload_n rfl rfl ?_
    refine jr.iload_n rfl rfl ?_
    refine jr.iload_n rfl rfl ?_
    refine jr.bipush rfl (by decide) ?_
    refine jr.icmp_ne rfl rfl (by omega) (by omega) (fun _ => ?_) (fun h => absurd (by decide) h)
    refine jr.iload_n rfl rfl ?_
    refine jr.bipush rfl (by decide) ?_
    refine jr.iadd rfl ?_
    refine jr_v rfl rfl (Or.inl rfl) rfl rfl (by decide) rfl ⟨rfl, Nat.le_of_ble_eq_true rfl, Nat.le_of_ble_eq_true rfl⟩ rfl (jc.deep (r_two_x hI_M hH_M hS_M  (by omega) (by omega)  (fun r1 z1 w1_0 => ?_)) (by decide))
    refine jr.i2l rfl (by omega) ?_
    exact jr.lreturn rfl rfl (q _ (by omega) (fun z => by have hw := w1_0; (try simp only [Int.reduceMul, Int.add_zero] at hw); simp only [vof_8_7, nbs_1, nbs_2t, Int.add_zero, rf_a]; omega))
theorem r_valueOf_x {A : Nat → Option (Nat × (Nat → Int32))} {Q : Option Value → jm → Prop} {M : jm} (hI_M : RI M) (hH_M : RH M) (hS_M : RF M) {x : Int} (h_x : 0 ≤ x ∧ x ≤ 23) {k : Int} (h_k : 0 ≤ k ∧ k ≤ 11) {a : Int} (h_a : 0 ≤ a ∧ a ≤ 400) {m : Int} (h_m : 0 ≤ m ∧ m ≤ 400) {f : Int} (h_f : 0 ≤ f ∧ f ≤ 10) (p0 : a + lst k ≤ 400) (p1 : f < xcv_2 k) (q : ∀ (r : Int), (-9223372036854775808) ≤ r ∧ r ≤ 9223372036854775807 → r = vof (rf M x) m k a f → Q (some (.long (Int64.ofInt r))) M) : jc A 6 275 [.ref (598), .int (Int32.ofInt (x)), .int (Int32.ofInt (k)), .int (Int32.ofInt (a)), .int (Int32.ofInt (m)), .int (Int32.ofInt (f))] M Q := by
  rcases (show k = 0 ∨ k = 1 ∨ k = 2 ∨ k = 3 ∨ k = 4 ∨ k = 5 ∨ k = 6 ∨ k = 7 ∨ k = 8 ∨ k = 9 ∨ k = 10 ∨ k = 11 by omega) with rfl | rfl | rfl | rfl | rfl | rfl | rfl | rfl | rfl | rfl | rfl | rfl
  · have lk : lst 0 = 4 := rfl
    have fk : xcv_2 0 = 3 := (by decide +kernel)
    refine jc_of (m := xm_275) rfl (Nat.le_of_ble_eq_true rfl) rfl ?_
    refine jr.iload_n rfl rfl ?_
    refine jr.tsw_k 0 rfl rfl rfl ?_
    refine jr.iload rfl rfl ?_
    refine jr.iconst rfl ?_
    refine jr.icmp_ne rfl rfl (by omega) (by omega) (fun h63 => ?_) (fun h63 => ?_)
    · refine jr.aload_n rfl rfl ?_
      refine jr.iload_n rfl rfl ?_
      refine jr.iload_n rfl rfl ?_
      refine jr.iload rfl rfl ?_
      refine jr.iadd rfl ?_
      refine jr_v rfl rfl (Or.inl rfl) rfl rfl (by decide) rfl ⟨rfl, Nat.le_of_ble_eq_true rfl, Nat.le_of_ble_eq_true rfl⟩ rfl (jc.deep (r_one hI_M hH_M hS_M (Kp.rfl _) (by omega) (by omega)  (fun r1 z1 w1_0 => ?_)) (by decide))
      refine jr.i2l rfl (by omega) ?_
      exact jr.lreturn rfl rfl (q _ (by omega) (by rcases (show f = 0 ∨ f = 1 ∨ f = 2 by omega) with rfl | rfl | rfl <;> first | (exfalso; omega) | (have hw := w1_0; (try simp only [Int.reduceMul, Int.add_zero] at hw); simp only [vof_0_0, vof_0_1, vof_0_2, nbs_1, nbs_2t, Int.add_zero, rf_a]; omega)))
    · refine jr.aload_n rfl rfl ?_
      refine jr.iload_n rfl rfl ?_
      refine jr.iload_n rfl rfl ?_
      refine jr.iconst rfl ?_
      refine jr.iadd rfl ?_
      refine jr_v rfl rfl (Or.inl rfl) rfl rfl (by decide) rfl ⟨rfl, Nat.le_of_ble_eq_true rfl, Nat.le_of_ble_eq_true rfl⟩ rfl (jc.deep (r_two_x hI_M hH_M hS_M  (by omega) (by omega)  (fun r2 z2 w2_0 => ?_)) (by decide))
      refine jr.i2l rfl (by omega) ?_
      refine jr.goto rfl rfl ?_
      exact jr.lreturn rfl rfl (q _ (by omega) (by rcases (show f = 0 ∨ f = 1 ∨ f = 2 by omega) with rfl | rfl | rfl <;> first | (exfalso; omega) | (have hw := w2_0; (try simp only [Int.reduceMul, Int.add_zero] at hw); simp only [vof_0_0, vof_0_1, vof_0_2, nbs_1, nbs_2t, Int.add_zero, rf_a]; omega)))
  · have lk : lst 1 = 4 := rfl
    have fk : xcv_2 1 = 3 := (by decide +kernel)
    refine jc_of (m := xm_275) rfl (Nat.le_of_ble_eq_true rfl) rfl ?_
    refine jr.iload_n rfl rfl ?_
    refine jr.tsw_k 1 rfl rfl rfl ?_
    refine jr.iload rfl rfl ?_
    refine jr.if_ne rfl rfl (by omega) (fun h91 => ?_) (fun h91 => ?_)
    · refine jr.iload rfl rfl ?_
      refine jr.iconst rfl ?_
      refine jr.icmp_ne rfl rfl (by omega) (by omega) (fun h110 => ?_) (fun h110 => ?_)
      · refine jr.aload_n rfl rfl ?_
        refine jr.iload_n rfl rfl ?_
        refine jr.iload_n rfl rfl ?_
        refine jr.iconst rfl ?_
        refine jr.iadd rfl ?_
        refine jr_v rfl rfl (Or.inl rfl) rfl rfl (by decide) rfl ⟨rfl, Nat.le_of_ble_eq_true rfl, Nat.le_of_ble_eq_true rfl⟩ rfl (jc.deep (r_two_x hI_M hH_M hS_M  (by omega) (by omega)  (fun r1 z1 w1_0 => ?_)) (by decide))
        refine jr.i2l rfl (by omega) ?_
        exact jr.lreturn rfl rfl (q _ (by omega) (by rcases (show f = 0 ∨ f = 1 ∨ f = 2 by omega) with rfl | rfl | rfl <;> first | (exfalso; omega) | (have hw := w1_0; (try simp only [Int.reduceMul, Int.add_zero] at hw); simp only [vof_1_0, vof_1_1, vof_1_2, nbs_1, nbs_2t, Int.add_zero, rf_a]; omega)))
      · refine jr.aload_n rfl rfl ?_
        refine jr.iload_n rfl rfl ?_
        refine jr.iload_n rfl rfl ?_
        refine jr_v rfl rfl (Or.inl rfl) rfl rfl (by decide) rfl ⟨rfl, Nat.le_of_ble_eq_true rfl, Nat.le_of_ble_eq_true rfl⟩ rfl (jc.deep (r_two_x hI_M hH_M hS_M  (by omega) (by omega)  (fun r2 z2 w2_0 => ?_)) (by decide))
        refine jr.sipush rfl (by decide) ?_
        refine jr.iand rfl ?_
        have b3 : j_and r2 4095 = r2 % 4096 := j_and_m 12 (by decide) _
        generalize j_and r2 4095 = v3 at b3 ⊢
        refine jr.i2l rfl (by omega) ?_
        refine jr.goto rfl rfl ?_
        exact jr.lreturn rfl rfl (q _ (by omega) (by rcases (show f = 0 ∨ f = 1 ∨ f = 2 by omega) with rfl | rfl | rfl <;> first | (exfalso; omega) | (have hw := w2_0; (try simp only [Int.reduceMul, Int.add_zero] at hw); simp only [vof_1_0, vof_1_1, vof_1_2, nbs_1, nbs_2t, Int.add_zero, rf_a]; omega)))
    · refine jr.aload_n rfl rfl ?_
      refine jr.iload_n rfl rfl ?_
      refine jr.iload_n rfl rfl ?_
      refine jr_v rfl rfl (Or.inl rfl) rfl rfl (by decide) rfl ⟨rfl, Nat.le_of_ble_eq_true rfl, Nat.le_of_ble_eq_true rfl⟩ rfl (jc.deep (r_two_x hI_M hH_M hS_M  (by omega) (by omega)  (fun r4 z4 w4_0 => ?_)) (by decide))
      refine jr.bipush rfl (by decide) ?_
      refine jr.ishr rfl ?_
      have b5 : j_shr r4 12 = r4 / 4096 := j_shr_ex 12 (by decide) (by omega) (by omega)
      generalize j_shr r4 12 = v5 at b5 ⊢
      refine jr.i2l rfl (by omega) ?_
      refine jr.goto rfl rfl ?_
      exact jr.lreturn rfl rfl (q _ (by omega) (by rcases (show f = 0 ∨ f = 1 ∨ f = 2 by omega) with rfl | rfl | rfl <;> first | (exfalso; omega) | (have hw := w4_0; (try simp only [Int.reduceMul, Int.add_zero] at hw); simp only [vof_1_0, vof_1_1, vof_1_2, nbs_1, nbs_2t, Int.add_zero, rf_a]; omega)))
  · have lk : lst 2 = 20 := rfl
    have fk : xcv_2 2 = 11 := (by decide +kernel)
    refine jc_of (m := xm_275) rfl (Nat.le_of_ble_eq_true rfl) rfl ?_
    refine jr.iload_n rfl rfl ?_
    refine jr.tsw_k 2 rfl rfl rfl ?_
    refine jr.aload_n rfl rfl ?_
    refine jr.iload_n rfl rfl ?_
    refine jr.iload_n rfl rfl ?_
    refine jr.iload rfl rfl ?_
    refine jr_v rfl rfl (Or.inl rfl) rfl rfl (by decide) rfl ⟨rfl, Nat.le_of_ble_eq_true rfl, Nat.le_of_ble_eq_true rfl⟩ rfl (jc.deep (r_ofFour_x hI_M hH_M hS_M  (by omega) (by omega) (by omega)  (fun r1 z1 w1_0 => ?_)) (by decide))
    exact jr.lreturn rfl rfl (q _ (by omega) (w1_0 m))
  · have lk : lst 3 = 24 := rfl
    have fk : xcv_2 3 = 7 := (by decide +kernel)
    refine jc_of (m := xm_275) rfl (Nat.le_of_ble_eq_true rfl) rfl ?_
    refine jr.iload_n rfl rfl ?_
    refine jr.tsw_k 3 rfl rfl rfl ?_
    refine jr.aload_n rfl rfl ?_
    refine jr.iload_n rfl rfl ?_
    refine jr.iload_n rfl rfl ?_
    refine jr.iload rfl rfl ?_
    refine jr_v rfl rfl (Or.inl rfl) rfl rfl (by decide) rfl ⟨rfl, Nat.le_of_ble_eq_true rfl, Nat.le_of_ble_eq_true rfl⟩ rfl (jc.deep (r_ofSix_x hI_M hH_M hS_M  (by omega) (by omega) (by omega)  (fun r1 z1 w1_0 => ?_)) (by decide))
    exact jr.lreturn rfl rfl (q _ (by omega) (w1_0 m))
  · have lk : lst 4 = 8 := rfl
    have fk : xcv_2 4 = 2 := (by decide +kernel)
    refine jc_of (m := xm_275) rfl (Nat.le_of_ble_eq_true rfl) rfl ?_
    refine jr.iload_n rfl rfl ?_
    refine jr.tsw_k 4 rfl rfl rfl ?_
    refine jr.aload_n rfl rfl ?_
    refine jr.iload_n rfl rfl ?_
    refine jr.iload_n rfl rfl ?_
    refine jr.iload rfl rfl ?_
    refine jr.iadd rfl ?_
    refine jr_v rfl rfl (Or.inl rfl) rfl rfl (by decide) rfl ⟨rfl, Nat.le_of_ble_eq_true rfl, Nat.le_of_ble_eq_true rfl⟩ rfl (jc.deep (r_one hI_M hH_M hS_M (Kp.rfl _) (by omega) (by omega)  (fun r1 z1 w1_0 => ?_)) (by decide))
    refine jr.i2l rfl (by omega) ?_
    exact jr.lreturn rfl rfl (q _ (by omega) (by rcases (show f = 0 ∨ f = 1 by omega) with rfl | rfl <;> first | (exfalso; omega) | (have hw := w1_0; (try simp only [Int.reduceMul, Int.add_zero] at hw); simp only [vof_4_0, vof_4_1, nbs_1, nbs_2t, Int.add_zero, rf_a]; omega)))
  · have lk : lst 5 = 8 := rfl
    have fk : xcv_2 5 = 3 := (by decide +kernel)
    refine jc_of (m := xm_275) rfl (Nat.le_of_ble_eq_true rfl) rfl ?_
    refine jr.iload_n rfl rfl ?_
    refine jr.tsw_k 5 rfl rfl rfl ?_
    refine jr.aload_n rfl rfl ?_
    refine jr.iload_n rfl rfl ?_
    refine jr.iload_n rfl rfl ?_
    refine jr.iload rfl rfl ?_
    refine jr.iadd rfl ?_
    refine jr_v rfl rfl (Or.inl rfl) rfl rfl (by decide) rfl ⟨rfl, Nat.le_of_ble_eq_true rfl, Nat.le_of_ble_eq_true rfl⟩ rfl (jc.deep (r_one hI_M hH_M hS_M (Kp.rfl _) (by omega) (by omega)  (fun r1 z1 w1_0 => ?_)) (by decide))
    refine jr.i2l rfl (by omega) ?_
    exact jr.lreturn rfl rfl (q _ (by omega) (by rcases (show f = 0 ∨ f = 1 ∨ f = 2 by omega) with rfl | rfl | rfl <;> first | (exfalso; omega) | (have hw := w1_0; (try simp only [Int.reduceMul, Int.add_zero] at hw); simp only [vof_5_0, vof_5_1, vof_5_2, nbs_1, nbs_2t, Int.add_zero, rf_a]; omega)))
  · have lk : lst 6 = 8 := rfl
    have fk : xcv_2 6 = 4 := (by decide +kernel)
    refine jc_of (m := xm_275) rfl (Nat.le_of_ble_eq_true rfl) rfl ?_
    refine jr.iload_n rfl rfl ?_
    refine jr.tsw_k 6 rfl rfl rfl ?_
    refine jr.iload rfl rfl ?_
    refine jr.if_ne rfl rfl (by omega) (fun h168 => ?_) (fun h168 => ?_)
    · refine jr.iload rfl rfl ?_
      refine jr.iconst rfl ?_
      refine jr.icmp_ne rfl rfl (by omega) (by omega) (fun h184 => ?_) (fun h184 => ?_)
      · refine jr.iload rfl rfl ?_
        refine jr.iconst rfl ?_
        refine jr.icmp_ne rfl rfl (by omega) (by omega) (fun h204 => ?_) (fun h204 => ?_)
        · refine jr.aload_n rfl rfl ?_
          refine jr.iload_n rfl rfl ?_
          refine jr.iload_n rfl rfl ?_
          refine jr.iconst rfl ?_
          refine jr.iadd rfl ?_
          refine jr_v rfl rfl (Or.inl rfl) rfl rfl (by decide) rfl ⟨rfl, Nat.le_of_ble_eq_true rfl, Nat.le_of_ble_eq_true rfl⟩ rfl (jc.deep (r_four_x hI_M hH_M hS_M  (by omega) (by omega)  (fun r1 z1 w1_0 => ?_)) (by decide))
          exact jr.lreturn rfl rfl (q _ (by omega) (by rcases (show f = 0 ∨ f = 1 ∨ f = 2 ∨ f = 3 by omega) with rfl | rfl | rfl | rfl <;> first | (exfalso; omega) | (have hw := w1_0; (try simp only [Int.reduceMul, Int.add_zero] at hw); simp only [vof_6_0, vof_6_1, vof_6_2, vof_6_3, nbs_1, nbs_2t, Int.add_zero, rf_a]; omega)))
        · refine jr.aload_n rfl rfl ?_
          refine jr.iload_n rfl rfl ?_
          refine jr.iload_n rfl rfl ?_
          refine jr.iconst rfl ?_
          refine jr.iadd rfl ?_
          refine jr_v rfl rfl (Or.inl rfl) rfl rfl (by decide) rfl ⟨rfl, Nat.le_of_ble_eq_true rfl, Nat.le_of_ble_eq_true rfl⟩ rfl (jc.deep (r_two_x hI_M hH_M hS_M  (by omega) (by omega)  (fun r2 z2 w2_0 => ?_)) (by decide))
          refine jr.iconst rfl ?_
          refine jr.iand rfl ?_
          have b3 : j_and r2 1 = r2 % 2 := j_and_m 1 (by decide) _
          generalize j_and r2 1 = v3 at b3 ⊢
          refine jr.i2l rfl (by omega) ?_
          refine jr.goto rfl rfl ?_
          exact jr.lreturn rfl rfl (q _ (by omega) (by rcases (show f = 0 ∨ f = 1 ∨ f = 2 ∨ f = 3 by omega) with rfl | rfl | rfl | rfl <;> first | (exfalso; omega) | (have hw := w2_0; (try simp only [Int.reduceMul, Int.add_zero] at hw); simp only [vof_6_0, vof_6_1, vof_6_2, vof_6_3, nbs_1, nbs_2t, Int.add_zero, rf_a]; omega)))
      · refine jr.aload_n rfl rfl ?_
        refine jr.iload_n rfl rfl ?_
        refine jr.iload_n rfl rfl ?_
        refine jr.iconst rfl ?_
        refine jr.iadd rfl ?_
        refine jr_v rfl rfl (Or.inl rfl) rfl rfl (by decide) rfl ⟨rfl, Nat.le_of_ble_eq_true rfl, Nat.le_of_ble_eq_true rfl⟩ rfl (jc.deep (r_two_x hI_M hH_M hS_M  (by omega) (by omega)  (fun r4 z4 w4_0 => ?_)) (by decide))
        refine jr.iconst rfl ?_
        refine jr.ishr rfl ?_
        have b5 : j_shr r4 3 = r4 / 8 := j_shr_ex 3 (by decide) (by omega) (by omega)
        generalize j_shr r4 3 = v5 at b5 ⊢
        refine jr.i2l rfl (by omega) ?_
        refine jr.goto rfl rfl ?_
        exact jr.lreturn rfl rfl (q _ (by omega) (by rcases (show f = 0 ∨ f = 1 ∨ f = 2 ∨ f = 3 by omega) with rfl | rfl | rfl | rfl <;> first | (exfalso; omega) | (have hw := w4_0; (try simp only [Int.reduceMul, Int.add_zero] at hw); simp only [vof_6_0, vof_6_1, vof_6_2, vof_6_3, nbs_1, nbs_2t, Int.add_zero, rf_a]; omega)))
    · refine jr.aload_n rfl rfl ?_
      refine jr.iload_n rfl rfl ?_
      refine jr.iload_n rfl rfl ?_
      refine jr_v rfl rfl (Or.inl rfl) rfl rfl (by decide) rfl ⟨rfl, Nat.le_of_ble_eq_true rfl, Nat.le_of_ble_eq_true rfl⟩ rfl (jc.deep (r_one hI_M hH_M hS_M (Kp.rfl _) (by omega) (by omega)  (fun r6 z6 w6_0 => ?_)) (by decide))
      refine jr.i2l rfl (by omega) ?_
      refine jr.goto rfl rfl ?_
      exact jr.lreturn rfl rfl (q _ (by omega) (by rcases (show f = 0 ∨ f = 1 ∨ f = 2 ∨ f = 3 by omega) with rfl | rfl | rfl | rfl <;> first | (exfalso; omega) | (have hw := w6_0; (try simp only [Int.reduceMul, Int.add_zero] at hw); simp only [vof_6_0, vof_6_1, vof_6_2, vof_6_3, nbs_1, nbs_2t, Int.add_zero, rf_a]; omega)))
  · have lk : lst 7 = 8 := rfl
    have fk : xcv_2 7 = 4 := (by decide +kernel)
    refine jc_of (m := xm_275) rfl (Nat.le_of_ble_eq_true rfl) rfl ?_
    refine jr.iload_n rfl rfl ?_
    refine jr.tsw_k 7 rfl rfl rfl ?_
    refine jr.iload rfl rfl ?_
    refine jr.iconst rfl ?_
    refine jr.icmp_ge rfl rfl (by omega) (by omega) (fun h233 => ?_) (fun h233 => ?_)
    · refine jr.iload rfl rfl ?_
      refine jr.iconst rfl ?_
      refine jr.icmp_ne rfl rfl (by omega) (by omega) (fun h252 => ?_) (fun h252 => ?_)
      · refine jr.aload_n rfl rfl ?_
        refine jr.iload_n rfl rfl ?_
        refine jr.iload_n rfl rfl ?_
        refine jr.iconst rfl ?_
        refine jr.iadd rfl ?_
        refine jr_v rfl rfl (Or.inl rfl) rfl rfl (by decide) rfl ⟨rfl, Nat.le_of_ble_eq_true rfl, Nat.le_of_ble_eq_true rfl⟩ rfl (jc.deep (r_four_x hI_M hH_M hS_M  (by omega) (by omega)  (fun r1 z1 w1_0 => ?_)) (by decide))
        exact jr.lreturn rfl rfl (q _ (by omega) (by rcases (show f = 0 ∨ f = 1 ∨ f = 2 ∨ f = 3 by omega) with rfl | rfl | rfl | rfl <;> first | (exfalso; omega) | (have hw := w1_0; (try simp only [Int.reduceMul, Int.add_zero] at hw); simp only [vof_7_0, vof_7_1, vof_7_2, vof_7_3, nbs_1, nbs_2t, Int.add_zero, rf_a]; omega)))
      · refine jr.aload_n rfl rfl ?_
        refine jr.iload_n rfl rfl ?_
        refine jr.iload_n rfl rfl ?_
        refine jr.iconst rfl ?_
        refine jr.iadd rfl ?_
        refine jr_v rfl rfl (Or.inl rfl) rfl rfl (by decide) rfl ⟨rfl, Nat.le_of_ble_eq_true rfl, Nat.le_of_ble_eq_true rfl⟩ rfl (jc.deep (r_two_x hI_M hH_M hS_M  (by omega) (by omega)  (fun r2 z2 w2_0 => ?_)) (by decide))
        refine jr.i2l rfl (by omega) ?_
        refine jr.goto rfl rfl ?_
        exact jr.lreturn rfl rfl (q _ (by omega) (by rcases (show f = 0 ∨ f = 1 ∨ f = 2 ∨ f = 3 by omega) with rfl | rfl | rfl | rfl <;> first | (exfalso; omega) | (have hw := w2_0; (try simp only [Int.reduceMul, Int.add_zero] at hw); simp only [vof_7_0, vof_7_1, vof_7_2, vof_7_3, nbs_1, nbs_2t, Int.add_zero, rf_a]; omega)))
    · refine jr.aload_n rfl rfl ?_
      refine jr.iload_n rfl rfl ?_
      refine jr.iload_n rfl rfl ?_
      refine jr.iload rfl rfl ?_
      refine jr.iadd rfl ?_
      refine jr_v rfl rfl (Or.inl rfl) rfl rfl (by decide) rfl ⟨rfl, Nat.le_of_ble_eq_true rfl, Nat.le_of_ble_eq_true rfl⟩ rfl (jc.deep (r_one hI_M hH_M hS_M (Kp.rfl _) (by omega) (by omega)  (fun r3 z3 w3_0 => ?_)) (by decide))
      refine jr.i2l rfl (by omega) ?_
      refine jr.goto rfl rfl ?_
      exact jr.lreturn rfl rfl (q _ (by omega) (by rcases (show f = 0 ∨ f = 1 ∨ f = 2 ∨ f = 3 by omega) with rfl | rfl | rfl | rfl <;> first | (exfalso; omega) | (have hw := w3_0; (try simp only [Int.reduceMul, Int.add_zero] at hw); simp only [vof_7_0, vof_7_1, vof_7_2, vof_7_3, nbs_1, nbs_2t, Int.add_zero, rf_a]; omega)))
  · have lk : lst 8 = 20 := rfl
    have fk : xcv_2 8 = 8 := (by decide +kernel)
    refine jc_of (m := xm_275) rfl (Nat.le_of_ble_eq_true rfl) rfl ?_
    refine jr.iload_n rfl rfl ?_
    refine jr.tsw_k 8 rfl rfl rfl ?_
    refine jr.aload_n rfl rfl ?_
    refine jr.iload_n rfl rfl ?_
    refine jr.iload_n rfl rfl ?_
    refine jr.iload rfl rfl ?_
    refine jr_v rfl rfl (Or.inl rfl) rfl rfl (by decide) rfl ⟨rfl, Nat.le_of_ble_eq_true rfl, Nat.le_of_ble_eq_true rfl⟩ rfl (jc.deep (r_ofStream_x hI_M hH_M hS_M  (by omega) (by omega) (by omega)  (fun r1 z1 w1_0 => ?_)) (by decide))
    exact jr.lreturn rfl rfl (q _ (by omega) (w1_0 m))
  · have lk : lst 9 = 8 := rfl
    have fk : xcv_2 9 = 4 := (by decide +kernel)
    refine jc_of (m := xm_275) rfl (Nat.le_of_ble_eq_true rfl) rfl ?_
    refine jr.iload_n rfl rfl ?_
    refine jr.tsw_k 9 rfl rfl rfl ?_
    refine jr.aload_n rfl rfl ?_
    refine jr.iload_n rfl rfl ?_
    refine jr.iload_n rfl rfl ?_
    refine jr.iconst rfl ?_
    refine jr.iload rfl rfl ?_
    refine jr.imul rfl ?_
    refine jr.iadd rfl ?_
    refine jr_v rfl rfl (Or.inl rfl) rfl rfl (by decide) rfl ⟨rfl, Nat.le_of_ble_eq_true rfl, Nat.le_of_ble_eq_true rfl⟩ rfl (jc.deep (r_two_x hI_M hH_M hS_M  (by omega) (by omega)  (fun r1 z1 w1_0 => ?_)) (by decide))
    refine jr.i2l rfl (by omega) ?_
    exact jr.lreturn rfl rfl (q _ (by omega) (by rcases (show f = 0 ∨ f = 1 ∨ f = 2 ∨ f = 3 by omega) with rfl | rfl | rfl | rfl <;> first | (exfalso; omega) | (have hw := w1_0; (try simp only [Int.reduceMul, Int.add_zero] at hw); simp only [vof_9_0, vof_9_1, vof_9_2, vof_9_3, nbs_1, nbs_2t, Int.add_zero, rf_a]; omega)))
  · have lk : lst 10 = 4 := rfl
    have fk : xcv_2 10 = 2 := (by decide +kernel)
    refine jc_of (m := xm_275) rfl (Nat.le_of_ble_eq_true rfl) rfl ?_
    refine jr.iload_n rfl rfl ?_
    refine jr.tsw_k 10 rfl rfl rfl ?_
    refine jr.aload_n rfl rfl ?_
    refine jr.iload_n rfl rfl ?_
    refine jr.iload_n rfl rfl ?_
    refine jr.iconst rfl ?_
    refine jr.iload rfl rfl ?_
    refine jr.imul rfl ?_
    refine jr.iadd rfl ?_
    refine jr_v rfl rfl (Or.inl rfl) rfl rfl (by decide) rfl ⟨rfl, Nat.le_of_ble_eq_true rfl, Nat.le_of_ble_eq_true rfl⟩ rfl (jc.deep (r_two_x hI_M hH_M hS_M  (by omega) (by omega)  (fun r1 z1 w1_0 => ?_)) (by decide))
    refine jr.i2l rfl (by omega) ?_
    exact jr.lreturn rfl rfl (q _ (by omega) (by rcases (show f = 0 ∨ f = 1 by omega) with rfl | rfl <;> first | (exfalso; omega) | (have hw := w1_0; (try simp only [Int.reduceMul, Int.add_zero] at hw); simp only [vof_10_0, vof_10_1, nbs_1, nbs_2t, Int.add_zero, rf_a]; omega)))
  · have lk : lst 11 = 0 := rfl
    have fk : xcv_2 11 = 1 := (by decide +kernel)
    refine jc_of (m := xm_275) rfl (Nat.le_of_ble_eq_true rfl) rfl ?_
    refine jr.iload_n rfl rfl ?_
    refine jr.tsw_d rfl (by decide) (by decide) rfl ?_
    refine jr.iload rfl rfl ?_
    refine jr.i2l rfl (by omega) ?_
    exact jr.lreturn rfl rfl (q _ (by omega) rfl)
theorem r_kind_x {A : Nat → Option (Nat × (Nat → Int32))} {Q : Option Value → jm → Prop} {M : jm} (hI_M : RI M) (hH_M : RH M) (hS_M : RF M) {x : Int} (h_x : (-2147483648) ≤ x ∧ x ≤ 2147483647) {h : Int} (h_h : (-2147483648) ≤ h ∧ h ≤ 2147483647) (q : ∀ (r : Int) (M' : jm), RI M' → RH M' → RF M' → (-2) ≤ r ∧ r ≤ 11 → (((x < 0 ∨ 23 < x ∨ M 600 x = -1) ∧ r = -2) ∨ (((0 ≤ x ∧ x ≤ 23) ∧ M 600 x ≠ -1) ∧ ∃ C : Int, HE (rf M x) (M 600 x) C ∧ r = kA (rf M x) (M 600 x) C h)) → (∀ (a : Nat) (i : Int), a ≠ 598 → a ≠ 603 → a ≠ 604 → a ≠ 605 → M' a i = M a i) → (∀ (i : Int), i ≠ 6 → i ≠ 10 → i ≠ 11 → i ≠ 12 → M' 598 i = M 598 i) → Q (some (.int (Int32.ofInt r))) M') : jc A 5 269 [.ref (598), .int (Int32.ofInt (x)), .int (Int32.ofInt (h))] M Q := by
  refine jc_of (m := xm_269) rfl (Nat.le_of_ble_eq_true rfl) rfl ?_
  refine jr.aload_n rfl rfl ?_
  refine jr.iload_n rfl rfl ?_
  refine jr_v rfl rfl (Or.inl rfl) rfl rfl (by decide) rfl ⟨rfl, Nat.le_of_ble_eq_true rfl, Nat.le_of_ble_eq_true rfl⟩ rfl (jc.deep (c_isThere hI_M (by omega) (fun l2 u2 t2 => ?_) (fun n2 => ?_)) (by decide))
  · refine jr.if_ne rfl rfl (by omega) (fun _ => ?_) (fun h => absurd (by decide) h)
    refine jr.aload_n rfl rfl ?_
    refine jr.iload_n rfl rfl ?_
    obtain ⟨v2, e2⟩ : ∃ z, M 600 x = z := ⟨_, rfl⟩
    have b2 : (-1) ≤ v2 ∧ v2 ≤ 400 := by rw [← e2]; exact (by have q := hI_M 600 x (by decide); rw [xri_row rfl rfl] at q; exact q)
    refine jr_v rfl rfl (Or.inl rfl) rfl rfl (by decide) rfl ⟨rfl, Nat.le_of_ble_eq_true rfl, Nat.le_of_ble_eq_true rfl⟩ rfl (jc.deep (r_look_x hI_M hH_M hS_M  (by omega) (by rw [e2]; omega) (fun M1 hI_M1 hH_M1 hS_M1  w1_0 w1_1 w1_2 w1_3 => ?_)) (by decide))
    refine jr.iload_n rfl rfl ?_
    refine jr.i2l rfl (by omega) ?_
    refine jr.lconst (x := 0) rfl (by decide) ?_
    refine jr.aload_n rfl rfl ?_
    obtain ⟨v3, e3⟩ : ∃ z, M1 598 6 = z := ⟨_, rfl⟩
    have b3 : 0 ≤ v3 ∧ v3 ≤ 12 := by rw [← e3]; exact hI_M1 598 6 (by decide)
    refine jr.getf (i := 6) (x := v3) (v := .int (Int32.ofInt (v3))) rfl rfl (by decide) rfl (by decide) rfl rfl e3 rfl ?_
    refine jr.iconst rfl ?_
    refine jr.isub rfl ?_
    refine jr.i2l rfl (by omega) ?_
    refine jr_s rfl rfl (Or.inl rfl) ⟨Nat.le_of_ble_eq_true rfl, Nat.le_of_ble_eq_true rfl⟩ rfl rfl (jc.deep (c_within (by omega) (by omega) (by omega) (fun l26 u26 => ?_) (fun n26 => ?_)) (by decide))
    · refine jr.if_eq rfl rfl (by omega) (fun h => absurd h (by decide)) (fun _ => ?_)
      refine jr.aload_n rfl rfl ?_
      refine jr.getf (i := 7) (v := .ref 603) rfl rfl (by decide) rfl (by decide) rfl rfl rfl rfl ?_
      refine jr.iload_n rfl rfl ?_
      obtain ⟨v4, e4⟩ : ∃ z, M1 603 h = z := ⟨_, rfl⟩
      have b4 : 0 ≤ v4 ∧ v4 ≤ 11 := by rw [← e4]; exact (by have q := hI_M1 603 h (by decide); rw [xri_row rfl rfl] at q; exact q)
      refine jr.iald (i := h) (x := v4) rfl (by decide) rfl (by decide) (by omega) (by omega) e4 ?_
      refine jr.goto rfl rfl ?_
      exact jr.ireturn rfl rfl rfl (q _ _ hI_M1 hH_M1 hS_M1  (by omega) (Or.inr ⟨by omega, M1 598 6, HQ6.e w1_1, (by have hr := w1_1.2.1 h (by omega) (by omega); have h1 : M1 603 h = _ := hr.2.1; have h2 : M1 604 h = _ := hr.2.2.1; unfold kA; rw [if_pos ⟨by omega, by omega⟩]; omega)⟩) (fun a i f598 f603 f604 f605 => ((w1_2 a i f598 f603 f604 f605).trans rfl)) (fun i g6 g10 g11 g12 => ((w1_3 i g6 g10 g11 g12).trans rfl)))
    · refine jr.if_eq rfl rfl (by omega) (fun _ => ?_) (fun h => absurd (by decide) h)
      refine jr.iconst rfl ?_
      exact jr.ireturn rfl rfl rfl (q _ _ hI_M1 hH_M1 hS_M1  (by omega) (Or.inr ⟨by omega, M1 598 6, HQ6.e w1_1, (by unfold kA; rw [if_neg (by omega)])⟩) (fun a i f598 f603 f604 f605 => ((w1_2 a i f598 f603 f604 f605).trans rfl)) (fun i g6 g10 g11 g12 => ((w1_3 i g6 g10 g11 g12).trans rfl)))
  · refine jr.if_ne rfl rfl (by omega) (fun h => absurd h (by decide)) (fun _ => ?_)
    refine jr.bipush rfl (by decide) ?_
    exact jr.ireturn rfl rfl rfl (q _ _ hI_M hH_M hS_M  (by omega) (Or.inl ⟨by omega, by omega⟩) (fun a i f598 f603 f604 f605 => rfl) (fun i g6 g10 g11 g12 => rfl))
theorem r_place_x {A : Nat → Option (Nat × (Nat → Int32))} {Q : Option Value → jm → Prop} {M : jm} (hI_M : RI M) (hH_M : RH M) (hS_M : RF M) {x : Int} (h_x : (-2147483648) ≤ x ∧ x ≤ 2147483647) {h : Int} (h_h : (-2147483648) ≤ h ∧ h ≤ 2147483647) (q : ∀ (r : Int) (M' : jm), RI M' → RH M' → RF M' → (-2) ≤ r ∧ r ≤ 400 → (((x < 0 ∨ 23 < x ∨ M 600 x = -1) ∧ r = -2) ∨ (((0 ≤ x ∧ x ≤ 23) ∧ M 600 x ≠ -1) ∧ ∃ C : Int, HE (rf M x) (M 600 x) C ∧ r = pA (rf M x) (M 600 x) C h)) → (∀ (a : Nat) (i : Int), a ≠ 598 → a ≠ 603 → a ≠ 604 → a ≠ 605 → M' a i = M a i) → (∀ (i : Int), i ≠ 6 → i ≠ 10 → i ≠ 11 → i ≠ 12 → M' 598 i = M 598 i) → Q (some (.int (Int32.ofInt r))) M') : jc A 5 270 [.ref (598), .int (Int32.ofInt (x)), .int (Int32.ofInt (h))] M Q := by
  refine jc_of (m := xm_270) rfl (Nat.le_of_ble_eq_true rfl) rfl ?_
  refine jr.aload_n rfl rfl ?_
  refine jr.iload_n rfl rfl ?_
  refine jr_v rfl rfl (Or.inl rfl) rfl rfl (by decide) rfl ⟨rfl, Nat.le_of_ble_eq_true rfl, Nat.le_of_ble_eq_true rfl⟩ rfl (jc.deep (c_isThere hI_M (by omega) (fun l2 u2 t2 => ?_) (fun n2 => ?_)) (by decide))
  · refine jr.if_ne rfl rfl (by omega) (fun _ => ?_) (fun h => absurd (by decide) h)
    refine jr.aload_n rfl rfl ?_
    refine jr.iload_n rfl rfl ?_
    obtain ⟨v2, e2⟩ : ∃ z, M 600 x = z := ⟨_, rfl⟩
    have b2 : (-1) ≤ v2 ∧ v2 ≤ 400 := by rw [← e2]; exact (by have q := hI_M 600 x (by decide); rw [xri_row rfl rfl] at q; exact q)
    refine jr_v rfl rfl (Or.inl rfl) rfl rfl (by decide) rfl ⟨rfl, Nat.le_of_ble_eq_true rfl, Nat.le_of_ble_eq_true rfl⟩ rfl (jc.deep (r_look_x hI_M hH_M hS_M  (by omega) (by rw [e2]; omega) (fun M1 hI_M1 hH_M1 hS_M1  w1_0 w1_1 w1_2 w1_3 => ?_)) (by decide))
    refine jr.iload_n rfl rfl ?_
    refine jr.i2l rfl (by omega) ?_
    refine jr.lconst (x := 0) rfl (by decide) ?_
    refine jr.aload_n rfl rfl ?_
    obtain ⟨v3, e3⟩ : ∃ z, M1 598 6 = z := ⟨_, rfl⟩
    have b3 : 0 ≤ v3 ∧ v3 ≤ 12 := by rw [← e3]; exact hI_M1 598 6 (by decide)
    refine jr.getf (i := 6) (x := v3) (v := .int (Int32.ofInt (v3))) rfl rfl (by decide) rfl (by decide) rfl rfl e3 rfl ?_
    refine jr.iconst rfl ?_
    refine jr.isub rfl ?_
    refine jr.i2l rfl (by omega) ?_
    refine jr_s rfl rfl (Or.inl rfl) ⟨Nat.le_of_ble_eq_true rfl, Nat.le_of_ble_eq_true rfl⟩ rfl rfl (jc.deep (c_within (by omega) (by omega) (by omega) (fun l26 u26 => ?_) (fun n26 => ?_)) (by decide))
    · refine jr.if_eq rfl rfl (by omega) (fun h => absurd h (by decide)) (fun _ => ?_)
      refine jr.aload_n rfl rfl ?_
      refine jr.getf (i := 8) (v := .ref 604) rfl rfl (by decide) rfl (by decide) rfl rfl rfl rfl ?_
      refine jr.iload_n rfl rfl ?_
      obtain ⟨v4, e4⟩ : ∃ z, M1 604 h = z := ⟨_, rfl⟩
      have b4 : 0 ≤ v4 ∧ v4 ≤ 400 := by rw [← e4]; exact (by have q := hI_M1 604 h (by decide); rw [xri_row rfl rfl] at q; exact q)
      refine jr.iald (i := h) (x := v4) rfl (by decide) rfl (by decide) (by omega) (by omega) e4 ?_
      refine jr.goto rfl rfl ?_
      exact jr.ireturn rfl rfl rfl (q _ _ hI_M1 hH_M1 hS_M1  (by omega) (Or.inr ⟨by omega, M1 598 6, HQ6.e w1_1, (by have hr := w1_1.2.1 h (by omega) (by omega); have h1 : M1 603 h = _ := hr.2.1; have h2 : M1 604 h = _ := hr.2.2.1; unfold pA; rw [if_pos ⟨by omega, by omega⟩]; omega)⟩) (fun a i f598 f603 f604 f605 => ((w1_2 a i f598 f603 f604 f605).trans rfl)) (fun i g6 g10 g11 g12 => ((w1_3 i g6 g10 g11 g12).trans rfl)))
    · refine jr.if_eq rfl rfl (by omega) (fun _ => ?_) (fun h => absurd (by decide) h)
      refine jr.iconst rfl ?_
      exact jr.ireturn rfl rfl rfl (q _ _ hI_M1 hH_M1 hS_M1  (by omega) (Or.inr ⟨by omega, M1 598 6, HQ6.e w1_1, (by unfold pA; rw [if_neg (by omega)])⟩) (fun a i f598 f603 f604 f605 => ((w1_2 a i f598 f603 f604 f605).trans rfl)) (fun i g6 g10 g11 g12 => ((w1_3 i g6 g10 g11 g12).trans rfl)))
  · refine jr.if_ne rfl rfl (by omega) (fun h => absurd h (by decide)) (fun _ => ?_)
    refine jr.bipush rfl (by decide) ?_
    exact jr.ireturn rfl rfl rfl (q _ _ hI_M hH_M hS_M  (by omega) (Or.inl ⟨by omega, by omega⟩) (fun a i f598 f603 f604 f605 => rfl) (fun i g6 g10 g11 g12 => rfl))
