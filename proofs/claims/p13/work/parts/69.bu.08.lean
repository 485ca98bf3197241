section
theorem vof_8_1 (f : Int → Int) (z a : Int) : vof f z 8 a 1 = nbs f (a + 2) 2 / 1 % 65536 := (vof_eq (o := 2) (c := 2) (s := 0) (b := 16) (by decide) (by decide +kernel) (by decide +kernel) (by decide +kernel) (by decide +kernel)).trans (if_neg (by decide))
theorem vof_8_2 (f : Int → Int) (z a : Int) : vof f z 8 a 2 = nbs f (a + 4) 4 / 1 % 4294967296 := (vof_eq (o := 4) (c := 4) (s := 0) (b := 32) (by decide) (by decide +kernel) (by decide +kernel) (by decide +kernel) (by decide +kernel)).trans (if_neg (by decide))
theorem vof_8_3 (f : Int → Int) (z a : Int) : vof f z 8 a 3 = nbs f (a + 8) 4 / 1 % 4294967296 := (vof_eq (o := 8) (c := 4) (s := 0) (b := 32) (by decide) (by decide +kernel) (by decide +kernel) (by decide +kernel) (by decide +kernel)).trans (if_neg (by decide))
theorem vof_8_4 (f : Int → Int) (z a : Int) : vof f z 8 a 4 = nbs f (a + 12) 1 / 16 % 16 := (vof_eq (o := 12) (c := 1) (s := 4) (b := 4) (by decide) (by decide +kernel) (by decide +kernel) (by decide +kernel) (by decide +kernel)).trans (if_neg (by decide))
theorem vof_8_5 (f : Int → Int) (z a : Int) : vof f z 8 a 5 = nbs f (a + 13) 1 / 1 % 256 := (vof_eq (o := 13) (c := 1) (s := 0) (b := 8) (by decide) (by decide +kernel) (by decide +kernel) (by decide +kernel) (by decide +kernel)).trans (if_neg (by decide))
theorem vof_8_6 (f : Int → Int) (z a : Int) : vof f z 8 a 6 = nbs f (a + 14) 2 / 1 % 65536 := (vof_eq (o := 14) (c := 2) (s := 0) (b := 16) (by decide) (by decide +kernel) (by decide +kernel) (by decide +kernel) (by decide +kernel)).trans (if_neg (by decide))
theorem vof_8_7 (f : Int → Int) (z a : Int) : vof f z 8 a 7 = nbs f (a + 16) 2 / 1 % 65536 := (vof_eq (o := 16) (c := 2) (s := 0) (b := 16) (by decide) (by decide +kernel) (by decide +kernel) (by decide +kernel) (by decide +kernel)).trans (if_neg (by decide))
theorem vof_9_0 (f : Int → Int) (z a : Int) : vof f z 9 a 0 = nbs f (a + 0) 2 / 1 % 65536 := (vof_eq (o := 0) (c := 2) (s := 0) (b := 16) (by decide) (by decide +kernel) (by decide +kernel) (by decide +kernel) (by decide +kernel)).trans (if_neg (by decide))
theorem vof_9_1 (f : Int → Int) (z a : Int) : vof f z 9 a 1 = nbs f (a + 2) 2 / 1 % 65536 := (vof_eq (o := 2) (c := 2) (s := 0) (b := 16) (by decide) (by decide +kernel) (by decide +kernel) (by decide +kernel) (by decide +kernel)).trans (if_neg (by decide))
theorem vof_9_2 (f : Int → Int) (z a : Int) : vof f z 9 a 2 = nbs f (a + 4) 2 / 1 % 65536 := (vof_eq (o := 4) (c := 2) (s := 0) (b := 16) (by decide) (by decide +kernel) (by decide +kernel) (by decide +kernel) (by decide +kernel)).trans (if_neg (by decide))
theorem vof_9_3 (f : Int → Int) (z a : Int) : vof f z 9 a 3 = nbs f (a + 6) 2 / 1 % 65536 := (vof_eq (o := 6) (c := 2) (s := 0) (b := 16) (by decide) (by decide +kernel) (by decide +kernel) (by decide +kernel) (by decide +kernel)).trans (if_neg (by decide))
theorem vof_10_0 (f : Int → Int) (z a : Int) : vof f z 10 a 0 = nbs f (a + 0) 2 / 1 % 65536 := (vof_eq (o := 0) (c := 2) (s := 0) (b := 16) (by decide) (by decide +kernel) (by decide +kernel) (by decide +kernel) (by decide +kernel)).trans (if_neg (by decide))
theorem vof_10_1 (f : Int → Int) (z a : Int) : vof f z 10 a 1 = nbs f (a + 2) 2 / 1 % 65536 := (vof_eq (o := 2) (c := 2) (s := 0) (b := 16) (by decide) (by decide +kernel) (by decide +kernel) (by decide +kernel) (by decide +kernel)).trans (if_neg (by decide))
theorem xcv2_k : xcv_2 0 = 3 ∧ xcv_2 1 = 3 ∧ xcv_2 2 = 11 ∧ xcv_2 3 = 7 ∧ xcv_2 4 = 2 ∧ xcv_2 5 = 3 ∧ xcv_2 6 = 4 ∧ xcv_2 7 = 4 ∧ xcv_2 8 = 8 ∧ xcv_2 9 = 4 ∧ xcv_2 10 = 2 ∧ xcv_2 11 = 1 := by decide +kernel
theorem vA_k {f : Int → Int} {N C x j k : Int} (h0 : 0 ≤ x ∧ x < C) (hk : hX f N x = k) (hj : 0 ≤ j ∧ j < xcv_2 k) : vA f N C x j = vof f (hZ f N x) k (hY f N x) j := (vA_in h0 hk rfl hj rfl).symm
theorem ofs_r {f : Int → Int} {N C x : Int} (h0 : 0 ≤ x ∧ x < C) (hk : hX f N x = 2 ∨ hX f N x = 6) : 0 ≤ vA f N C x (if kA f N C x = 2 then 5 else 1) ∧ vA f N C x (if kA f N C x = 2 then 5 else 1) ≤ 8191 := by
  rw [kA_i h0]
  rcases hk with hk | hk
  · rw [if_pos hk, vA_k h0 hk (by decide +kernel), vof_2_5]
    omega
  · rw [if_neg (by omega), vA_k h0 hk (by decide +kernel), vof_6_1]
    omega
noncomputable def enf (f : Int → Int) (N C x : Int) : Int := if 0 ≤ x ∧ x < C then hY f N x + hZ f N x else 0
theorem enf_i {f : Int → Int} {N C x : Int} (h : 0 ≤ x ∧ x < C) : enf f N C x = hY f N x + hZ f N x := by
  unfold enf
  rw [if_pos h]
theorem c_Headers_offsetOf_x {A : Nat → Option (Nat × (Nat → Int32))} {Q : Option Value → jm → Prop} {f : Int → Int} {N : Int} {M : jm} (hC_M : CI M) {t : Nat} (k_t : kd t = 18) {x : Int} (h_x : (-2147483648) ≤ x ∧ x ≤ 2147483647) {C : Int} (g_C : M t 3 = C) (p0 : HS M t f N) (p1 : 0 ≤ x ∧ x < C) (p2 : hX f N x = 2 ∨ hX f N x = 6) (q : ∀ (r : Int), 0 ≤ r ∧ r ≤ 65528 → (r = ofs f N C x) → Q (some (.int (Int32.ofInt r))) M) : jc A 3 117 [.ref (t), .int (Int32.ofInt (x))] M Q := by
  refine jc_of (m := xm_117) rfl (Nat.le_of_ble_eq_true rfl) rfl ?_
  have b_C : 0 ≤ C ∧ C ≤ 12 := by rw [← g_C]; exact (CI.r hC_M k_t (by decide) 3)
  refine jr.bipush rfl (by decide) ?_
  refine jr.aload_n rfl rfl ?_
  refine jr.iload_n rfl rfl ?_
  refine jr.aload_n rfl rfl ?_
  refine jr.iload_n rfl rfl ?_
  refine jr_v rfl rfl (Or.inl rfl) rfl rfl (Nat.lt_trans (kx_18 k_t).1 (by decide)) (kx_18 k_t).2 ⟨rfl, Nat.le_of_ble_eq_true rfl, Nat.le_of_ble_eq_true rfl⟩ rfl (jc.deep (c_Headers_kindAt_x hC_M k_t (by omega) g_C p0 (fun r1 z1 w1_0 => ?_)) (by decide))
  refine jr.iconst rfl ?_
  refine jr.icmp_ne rfl rfl (by omega) (by omega) (fun h10 => ?_) (fun h10 => ?_)
  · refine jr.iconst rfl ?_
    refine jr_v rfl rfl (Or.inl rfl) rfl rfl (Nat.lt_trans (kx_18 k_t).1 (by decide)) (kx_18 k_t).2 ⟨rfl, Nat.le_of_ble_eq_true rfl, Nat.le_of_ble_eq_true rfl⟩ rfl (jc.deep (c_Headers_valueOf_x hC_M k_t (by omega) (by omega) g_C p0 (fun r2 z2 w2_0 => ?_)) (by decide))
    have hv : 0 ≤ r2 ∧ r2 ≤ 8191 := (by have hq := ofs_r (f := f) (N := N) (C := C) (x := x) p1 p2; rw [← w1_0] at hq; first | (rw [if_pos (by omega), ← w2_0] at hq; exact hq) | (rw [if_neg (by omega), ← w2_0] at hq; exact hq))
    refine jr.l2i rfl ?_
    refine jr.imul rfl ?_
    exact jr.ireturn rfl rfl rfl (q _ (by omega) (by unfold ofs; rw [← w1_0]; first | (rw [if_pos (by omega), ← w2_0]) | (rw [if_neg (by omega), ← w2_0])))
  · refine jr.iconst rfl ?_
    refine jr.goto rfl rfl ?_
    refine jr_v rfl rfl (Or.inl rfl) rfl rfl (Nat.lt_trans (kx_18 k_t).1 (by decide)) (kx_18 k_t).2 ⟨rfl, Nat.le_of_ble_eq_true rfl, Nat.le_of_ble_eq_true rfl⟩ rfl (jc.deep (c_Headers_valueOf_x hC_M k_t (by omega) (by omega) g_C p0 (fun r3 z3 w3_0 => ?_)) (by decide))
    have hv : 0 ≤ r3 ∧ r3 ≤ 8191 := (by have hq := ofs_r (f := f) (N := N) (C := C) (x := x) p1 p2; rw [← w1_0] at hq; first | (rw [if_pos (by omega), ← w3_0] at hq; exact hq) | (rw [if_neg (by omega), ← w3_0] at hq; exact hq))
    refine jr.l2i rfl ?_
    refine jr.imul rfl ?_
    exact jr.ireturn rfl rfl rfl (q _ (by omega) (by unfold ofs; rw [← w1_0]; first | (rw [if_pos (by omega), ← w3_0]) | (rw [if_neg (by omega), ← w3_0])))
end
