section
theorem c_Headers_addressOf_x {A : Nat → Option (Nat × (Nat → Int32))} {Q : Option Value → jm → Prop} {f : Int → Int} {N : Int} {M : jm} (hC_M : CI M) {t : Nat} (k_t : kd t = 18) {x : Int} (h_x : (-2147483648) ≤ x ∧ x ≤ 2147483647) {y : Int} (h_y : 0 ≤ y ∧ y ≤ 1) {C : Int} (g_C : M t 3 = C) (p0 : HS M t f N) (q : ∀ (r : Int), (-9223372036854775808) ≤ r ∧ r ≤ 9223372036854775807 → (r = adf f N C x y) → Q (some (.long (Int64.ofInt r))) M) : jc A 3 113 [.ref (t), .int (Int32.ofInt (x)), .int (Int32.ofInt (y))] M Q := by
  refine jc_of (m := xm_113) rfl (Nat.le_of_ble_eq_true rfl) rfl ?_
  have b_C : 0 ≤ C ∧ C ≤ 12 := by rw [← g_C]; exact (CI.r hC_M k_t (by decide) 3)
  refine jr.aload_n rfl rfl ?_
  refine jr.iload_n rfl rfl ?_
  refine jr_v rfl rfl (Or.inl rfl) rfl rfl (Nat.lt_trans (kx_18 k_t).1 (by decide)) (kx_18 k_t).2 ⟨rfl, Nat.le_of_ble_eq_true rfl, Nat.le_of_ble_eq_true rfl⟩ rfl (jc.deep (c_Headers_kindAt_x hC_M k_t (by omega) g_C p0 (fun r1 z1 w1_0 => ?_)) (by decide))
  refine jr.iconst rfl ?_
  refine jr.icmp_ne rfl rfl (by omega) (by omega) (fun h6 => ?_) (fun h6 => ?_)
  · refine jr.iconst rfl ?_
    refine jr.istore_n rfl (by decide) rfl ?_
    refine jr.aload_n rfl rfl ?_
    refine jr.iload_n rfl rfl ?_
    refine jr.iload_n rfl rfl ?_
    refine jr.iload_n rfl rfl ?_
    refine jr.iadd rfl ?_
    refine jr_v rfl rfl (Or.inl rfl) rfl rfl (Nat.lt_trans (kx_18 k_t).1 (by decide)) (kx_18 k_t).2 ⟨rfl, Nat.le_of_ble_eq_true rfl, Nat.le_of_ble_eq_true rfl⟩ rfl (jc.deep (c_Headers_valueOf_x hC_M k_t (by omega) (by omega) g_C p0 (fun r2 z2 w2_0 => ?_)) (by decide))
    exact jr.lreturn rfl rfl (q _ (by omega) (by unfold adf; rw [← w1_0]; first | (rw [if_pos (by omega), ← w2_0]) | (rw [if_neg (by omega), ← w2_0])))
  · refine jr.bipush rfl (by decide) ?_
    refine jr.goto rfl rfl ?_
    refine jr.istore_n rfl (by decide) rfl ?_
    refine jr.aload_n rfl rfl ?_
    refine jr.iload_n rfl rfl ?_
    refine jr.iload_n rfl rfl ?_
    refine jr.iload_n rfl rfl ?_
    refine jr.iadd rfl ?_
    refine jr_v rfl rfl (Or.inl rfl) rfl rfl (Nat.lt_trans (kx_18 k_t).1 (by decide)) (kx_18 k_t).2 ⟨rfl, Nat.le_of_ble_eq_true rfl, Nat.le_of_ble_eq_true rfl⟩ rfl (jc.deep (c_Headers_valueOf_x hC_M k_t (by omega) (by omega) g_C p0 (fun r3 z3 w3_0 => ?_)) (by decide))
    exact jr.lreturn rfl rfl (q _ (by omega) (by unfold adf; rw [← w1_0]; first | (rw [if_pos (by omega), ← w3_0]) | (rw [if_neg (by omega), ← w3_0])))
end
section
/-! ===== each field's value ===== -/
theorem vof_eq {f : Int → Int} {z k a j o c s b : Int} (h : k ≠ 11) (ho : xcv_4 (4 * (xcv_3 k + j)) = o) (hc : xcv_4 (4 * (xcv_3 k + j) + 1) = c) (hs : xcv_4 (4 * (xcv_3 k + j) + 2) = s) (hb : xcv_4 (4 * (xcv_3 k + j) + 3) = b) : vof f z k a j = if 64 ≤ b then jl_w (nbs f (a + o) c.toNat) else nbs f (a + o) c.toNat / ((2 ^ s.toNat : Nat) : Int) % ((2 ^ b.toNat : Nat) : Int) := by
  unfold vof
  rw [if_neg h, ho, hc, hs, hb]
theorem vof_11 (f : Int → Int) (z a j : Int) : vof f z 11 a j = z := rfl
theorem vof_0_0 (f : Int → Int) (z a : Int) : vof f z 0 a 0 = nbs f (a + 0) 1 / 1 % 256 := (vof_eq (o := 0) (c := 1) (s := 0) (b := 8) (by decide) (by decide +kernel) (by decide +kernel) (by decide +kernel) (by decide +kernel)).trans (if_neg (by decide))
theorem vof_0_1 (f : Int → Int) (z a : Int) : vof f z 0 a 1 = nbs f (a + 1) 1 / 1 % 256 := (vof_eq (o := 1) (c := 1) (s := 0) (b := 8) (by decide) (by decide +kernel) (by decide +kernel) (by decide +kernel) (by decide +kernel)).trans (if_neg (by decide))
theorem vof_0_2 (f : Int → Int) (z a : Int) : vof f z 0 a 2 = nbs f (a + 2) 2 / 1 % 65536 := (vof_eq (o := 2) (c := 2) (s := 0) (b := 16) (by decide) (by decide +kernel) (by decide +kernel) (by decide +kernel) (by decide +kernel)).trans (if_neg (by decide))
theorem vof_1_0 (f : Int → Int) (z a : Int) : vof f z 1 a 0 = nbs f (a + 0) 2 / 4096 % 16 := (vof_eq (o := 0) (c := 2) (s := 12) (b := 4) (by decide) (by decide +kernel) (by decide +kernel) (by decide +kernel) (by decide +kernel)).trans (if_neg (by decide))
theorem vof_1_1 (f : Int → Int) (z a : Int) : vof f z 1 a 1 = nbs f (a + 0) 2 / 1 % 4096 := (vof_eq (o := 0) (c := 2) (s := 0) (b := 12) (by decide) (by decide +kernel) (by decide +kernel) (by decide +kernel) (by decide +kernel)).trans (if_neg (by decide))
theorem vof_1_2 (f : Int → Int) (z a : Int) : vof f z 1 a 2 = nbs f (a + 2) 2 / 1 % 65536 := (vof_eq (o := 2) (c := 2) (s := 0) (b := 16) (by decide) (by decide +kernel) (by decide +kernel) (by decide +kernel) (by decide +kernel)).trans (if_neg (by decide))
theorem vof_2_0 (f : Int → Int) (z a : Int) : vof f z 2 a 0 = nbs f (a + 0) 1 / 1 % 16 := (vof_eq (o := 0) (c := 1) (s := 0) (b := 4) (by decide) (by decide +kernel) (by decide +kernel) (by decide +kernel) (by decide +kernel)).trans (if_neg (by decide))
theorem vof_2_1 (f : Int → Int) (z a : Int) : vof f z 2 a 1 = nbs f (a + 1) 1 / 1 % 256 := (vof_eq (o := 1) (c := 1) (s := 0) (b := 8) (by decide) (by decide +kernel) (by decide +kernel) (by decide +kernel) (by decide +kernel)).trans (if_neg (by decide))
theorem vof_2_2 (f : Int → Int) (z a : Int) : vof f z 2 a 2 = nbs f (a + 2) 2 / 1 % 65536 := (vof_eq (o := 2) (c := 2) (s := 0) (b := 16) (by decide) (by decide +kernel) (by decide +kernel) (by decide +kernel) (by decide +kernel)).trans (if_neg (by decide))
theorem vof_2_3 (f : Int → Int) (z a : Int) : vof f z 2 a 3 = nbs f (a + 4) 2 / 1 % 65536 := (vof_eq (o := 4) (c := 2) (s := 0) (b := 16) (by decide) (by decide +kernel) (by decide +kernel) (by decide +kernel) (by decide +kernel)).trans (if_neg (by decide))
theorem vof_2_4 (f : Int → Int) (z a : Int) : vof f z 2 a 4 = nbs f (a + 6) 2 / 8192 % 8 := (vof_eq (o := 6) (c := 2) (s := 13) (b := 3) (by decide) (by decide +kernel) (by decide +kernel) (by decide +kernel) (by decide +kernel)).trans (if_neg (by decide))
theorem vof_2_5 (f : Int → Int) (z a : Int) : vof f z 2 a 5 = nbs f (a + 6) 2 / 1 % 8192 := (vof_eq (o := 6) (c := 2) (s := 0) (b := 13) (by decide) (by decide +kernel) (by decide +kernel) (by decide +kernel) (by decide +kernel)).trans (if_neg (by decide))
theorem vof_2_6 (f : Int → Int) (z a : Int) : vof f z 2 a 6 = nbs f (a + 8) 1 / 1 % 256 := (vof_eq (o := 8) (c := 1) (s := 0) (b := 8) (by decide) (by decide +kernel) (by decide +kernel) (by decide +kernel) (by decide +kernel)).trans (if_neg (by decide))
theorem vof_2_7 (f : Int → Int) (z a : Int) : vof f z 2 a 7 = nbs f (a + 9) 1 / 1 % 256 := (vof_eq (o := 9) (c := 1) (s := 0) (b := 8) (by decide) (by decide +kernel) (by decide +kernel) (by decide +kernel) (by decide +kernel)).trans (if_neg (by decide))
theorem vof_2_8 (f : Int → Int) (z a : Int) : vof f z 2 a 8 = nbs f (a + 10) 2 / 1 % 65536 := (vof_eq (o := 10) (c := 2) (s := 0) (b := 16) (by decide) (by decide +kernel) (by decide +kernel) (by decide +kernel) (by decide +kernel)).trans (if_neg (by decide))
theorem vof_2_9 (f : Int → Int) (z a : Int) : vof f z 2 a 9 = nbs f (a + 12) 4 / 1 % 4294967296 := (vof_eq (o := 12) (c := 4) (s := 0) (b := 32) (by decide) (by decide +kernel) (by decide +kernel) (by decide +kernel) (by decide +kernel)).trans (if_neg (by decide))
theorem vof_2_10 (f : Int → Int) (z a : Int) : vof f z 2 a 10 = nbs f (a + 16) 4 / 1 % 4294967296 := (vof_eq (o := 16) (c := 4) (s := 0) (b := 32) (by decide) (by decide +kernel) (by decide +kernel) (by decide +kernel) (by decide +kernel)).trans (if_neg (by decide))
theorem vof_3_0 (f : Int → Int) (z a : Int) : vof f z 3 a 0 = nbs f (a + 1) 1 / 1 % 256 := (vof_eq (o := 1) (c := 1) (s := 0) (b := 8) (by decide) (by decide +kernel) (by decide +kernel) (by decide +kernel) (by decide +kernel)).trans (if_neg (by decide))
theorem vof_3_1 (f : Int → Int) (z a : Int) : vof f z 3 a 1 = nbs f (a + 2) 2 / 1 % 65536 := (vof_eq (o := 2) (c := 2) (s := 0) (b := 16) (by decide) (by decide +kernel) (by decide +kernel) (by decide +kernel) (by decide +kernel)).trans (if_neg (by decide))
theorem vof_3_2 (f : Int → Int) (z a : Int) : vof f z 3 a 2 = nbs f (a + 4) 1 / 1 % 256 := (vof_eq (o := 4) (c := 1) (s := 0) (b := 8) (by decide) (by decide +kernel) (by decide +kernel) (by decide +kernel) (by decide +kernel)).trans (if_neg (by decide))
theorem vof_3_3 (f : Int → Int) (z a : Int) : vof f z 3 a 3 = nbs f (a + 5) 1 / 1 % 256 := (vof_eq (o := 5) (c := 1) (s := 0) (b := 8) (by decide) (by decide +kernel) (by decide +kernel) (by decide +kernel) (by decide +kernel)).trans (if_neg (by decide))
theorem vof_3_4 (f : Int → Int) (z a : Int) : vof f z 3 a 4 = nbs f (a + 6) 2 / 1 % 65536 := (vof_eq (o := 6) (c := 2) (s := 0) (b := 16) (by decide) (by decide +kernel) (by decide +kernel) (by decide +kernel) (by decide +kernel)).trans (if_neg (by decide))
theorem vof_3_5 (f : Int → Int) (z a : Int) : vof f z 3 a 5 = jl_w (nbs f (a + 8) 8) := (vof_eq (o := 8) (c := 8) (s := 0) (b := 64) (by decide) (by decide +kernel) (by decide +kernel) (by decide +kernel) (by decide +kernel)).trans (if_pos (by decide))
theorem vof_3_6 (f : Int → Int) (z a : Int) : vof f z 3 a 6 = jl_w (nbs f (a + 16) 8) := (vof_eq (o := 16) (c := 8) (s := 0) (b := 64) (by decide) (by decide +kernel) (by decide +kernel) (by decide +kernel) (by decide +kernel)).trans (if_pos (by decide))
theorem vof_4_0 (f : Int → Int) (z a : Int) : vof f z 4 a 0 = nbs f (a + 0) 1 / 1 % 256 := (vof_eq (o := 0) (c := 1) (s := 0) (b := 8) (by decide) (by decide +kernel) (by decide +kernel) (by decide +kernel) (by decide +kernel)).trans (if_neg (by decide))
theorem vof_4_1 (f : Int → Int) (z a : Int) : vof f z 4 a 1 = nbs f (a + 1) 1 / 1 % 256 := (vof_eq (o := 1) (c := 1) (s := 0) (b := 8) (by decide) (by decide +kernel) (by decide +kernel) (by decide +kernel) (by decide +kernel)).trans (if_neg (by decide))
theorem vof_5_0 (f : Int → Int) (z a : Int) : vof f z 5 a 0 = nbs f (a + 0) 1 / 1 % 256 := (vof_eq (o := 0) (c := 1) (s := 0) (b := 8) (by decide) (by decide +kernel) (by decide +kernel) (by decide +kernel) (by decide +kernel)).trans (if_neg (by decide))
theorem vof_5_1 (f : Int → Int) (z a : Int) : vof f z 5 a 1 = nbs f (a + 1) 1 / 1 % 256 := (vof_eq (o := 1) (c := 1) (s := 0) (b := 8) (by decide) (by decide +kernel) (by decide +kernel) (by decide +kernel) (by decide +kernel)).trans (if_neg (by decide))
theorem vof_5_2 (f : Int → Int) (z a : Int) : vof f z 5 a 2 = nbs f (a + 2) 1 / 1 % 256 := (vof_eq (o := 2) (c := 1) (s := 0) (b := 8) (by decide) (by decide +kernel) (by decide +kernel) (by decide +kernel) (by decide +kernel)).trans (if_neg (by decide))
theorem vof_6_0 (f : Int → Int) (z a : Int) : vof f z 6 a 0 = nbs f (a + 0) 1 / 1 % 256 := (vof_eq (o := 0) (c := 1) (s := 0) (b := 8) (by decide) (by decide +kernel) (by decide +kernel) (by decide +kernel) (by decide +kernel)).trans (if_neg (by decide))
theorem vof_6_1 (f : Int → Int) (z a : Int) : vof f z 6 a 1 = nbs f (a + 2) 2 / 8 % 8192 := (vof_eq (o := 2) (c := 2) (s := 3) (b := 13) (by decide) (by decide +kernel) (by decide +kernel) (by decide +kernel) (by decide +kernel)).trans (if_neg (by decide))
theorem vof_6_2 (f : Int → Int) (z a : Int) : vof f z 6 a 2 = nbs f (a + 2) 2 / 1 % 2 := (vof_eq (o := 2) (c := 2) (s := 0) (b := 1) (by decide) (by decide +kernel) (by decide +kernel) (by decide +kernel) (by decide +kernel)).trans (if_neg (by decide))
theorem vof_6_3 (f : Int → Int) (z a : Int) : vof f z 6 a 3 = nbs f (a + 4) 4 / 1 % 4294967296 := (vof_eq (o := 4) (c := 4) (s := 0) (b := 32) (by decide) (by decide +kernel) (by decide +kernel) (by decide +kernel) (by decide +kernel)).trans (if_neg (by decide))
theorem vof_7_0 (f : Int → Int) (z a : Int) : vof f z 7 a 0 = nbs f (a + 0) 1 / 1 % 256 := (vof_eq (o := 0) (c := 1) (s := 0) (b := 8) (by decide) (by decide +kernel) (by decide +kernel) (by decide +kernel) (by decide +kernel)).trans (if_neg (by decide))
theorem vof_7_1 (f : Int → Int) (z a : Int) : vof f z 7 a 1 = nbs f (a + 1) 1 / 1 % 256 := (vof_eq (o := 1) (c := 1) (s := 0) (b := 8) (by decide) (by decide +kernel) (by decide +kernel) (by decide +kernel) (by decide +kernel)).trans (if_neg (by decide))
end
