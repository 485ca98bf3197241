section
theorem c_Flow_layRow_x_L92 {A : Nat → Option (Nat × (Nat → Int32))} {Q : Option Value → jm → Prop} {T : jm} {t : Nat} (k_t : kd t = 1) {y : Int} {z : Int} (q : ∀ (M' : jm), CI M' → FR W_c_Flow_layRow_x T M' → (M' 1 = rwl (T 1) y (rcB T t z) ∧ ∀ (b : Nat) (k : Int), b ≠ 1 → M' b k = T b k) → Q none M') : ∀ (nM : Nat) (M : jm) (i : Int), CI M → FR W_c_Flow_layRow_x T M → 0 ≤ y ∧ y ≤ 1552 → 0 ≤ z ∧ z ≤ 2000000000 → 0 ≤ i ∧ i ≤ 2 → (M 1 = lyI (ly0 (T 1) y (T t 2) (j_w (T t 5 + flgF T t))) y (T (t + 2)) (T (t + 5)) (T (t + 1)) (T (t + 3)) i.toNat) → (∀ (b : Nat) (k : Int), b ≠ 1 → M b k = T b k) → 2 - i ≤ nM → jr A 2 xm_64 92 [(2, .int (Int32.ofInt (y))), (3, .int (Int32.ofInt (z))), (5, .int (Int32.ofInt (i))), (0, .ref (t)), (1, .ref (1))] [] M Q := by
  intro nM
  induction nM using Nat.strongRecOn with
  | ind nM ih =>
    intro M i hC_M ht_M h_y h_z h_i hy0 hy1 hm
    refine jr.iload rfl rfl ?_
    refine jr.iconst rfl ?_
    refine jr.icmp_ge rfl rfl (by omega) (by omega) (fun h95 => ?_) (fun h95 => ?_)
    · refine jr.aload_n rfl rfl ?_
      refine jr.iload_n rfl rfl ?_
      refine jr.bipush rfl (by decide) ?_
      refine jr.iadd rfl ?_
      refine jr.iconst rfl ?_
      refine jr.aload_n rfl rfl ?_
      obtain ⟨v1, e1⟩ : ∃ z_, M t 6 = z_ := ⟨_, rfl⟩
      have b1 : (-2147483648) ≤ v1 ∧ v1 ≤ 2147483647 := by rw [← e1]; exact (CI.r hC_M k_t (by decide) 6)
      refine jr.getf (i := 6) (x := v1) (v := .int (Int32.ofInt (v1))) rfl rfl (Nat.lt_trans (kx_1 k_t).1 (by decide)) (kx_1 k_t).2 (by decide) rfl rfl e1 rfl ?_
      refine jr.iload_n rfl rfl ?_
      refine jr.isub rfl ?_
      refine jr.iw (j_w (v1 - z)) (j_w_eq _) ?_
      have b2 : -2147483648 ≤ j_w (v1 - z) ∧ j_w (v1 - z) ≤ 2147483647 := jb_any _
      refine jr.i2l rfl (by omega) ?_
      refine jr_s rfl rfl (Or.inr rfl) ⟨Nat.le_of_ble_eq_true rfl, Nat.le_of_ble_eq_true rfl⟩ rfl rfl (jc.deep (c_PacketWall_putNumber_tf hC_M (FR.rfl _ M) (show kd 1 = 43 from rfl) (by omega) (by omega) (by omega) rfl (fun M3 hC_M3 hf_M3 w3_0 => ?_)) (by decide))
      have ht_M3 : FR W_c_Flow_layRow_x T M3 := FR.t ht_M hf_M3 (kw_sub rfl)
      refine jr.aload_n rfl rfl ?_
      refine jr.iload_n rfl rfl ?_
      refine jr.bipush rfl (by decide) ?_
      refine jr.iadd rfl ?_
      refine jr.iconst rfl ?_
      refine jr.aload_n rfl rfl ?_
      have k4 := kf_1_10 k_t
      refine jr.getf (i := 10) (v := .ref (t + 6)) rfl rfl (Nat.lt_trans (kx_1 k_t).1 (by decide)) (kx_1 k_t).2 (by decide) rfl rfl rfl (jval_ref rfl k4.1) ?_
      refine jr.iconst rfl ?_
      obtain ⟨v5, e5⟩ : ∃ z_, M ((t + 6)) 0 = z_ := ⟨_, rfl⟩
      have b5 : (-9223372036854775808) ≤ v5 ∧ v5 ≤ 9223372036854775807 := by rw [← e5]; exact (CI.r hC_M k4.2 (by decide) 0)
      have e6 : M3 ((t + 6)) 0 = v5 := (hf_M3.g k4.2 rfl).trans e5
      refine jr.lald (i := 0) (x := v5) rfl (Nat.lt_trans (kx_6 k4.2).1 (by decide)) (kx_6 k4.2).2 (by decide) (by omega) (by omega) e6 ?_
      refine jr.aload_n rfl rfl ?_
      have k7 := kf_1_10 k_t
      refine jr.getf (i := 10) (v := .ref (t + 6)) rfl rfl (Nat.lt_trans (kx_1 k_t).1 (by decide)) (kx_1 k_t).2 (by decide) rfl rfl rfl (jval_ref rfl k7.1) ?_
      refine jr.iconst rfl ?_
      obtain ⟨v8, e8⟩ : ∃ z_, M ((t + 6)) 1 = z_ := ⟨_, rfl⟩
      have b8 : (-9223372036854775808) ≤ v8 ∧ v8 ≤ 9223372036854775807 := by rw [← e8]; exact (CI.r hC_M k7.2 (by decide) 1)
      have e9 : M3 ((t + 6)) 1 = v8 := (hf_M3.g k7.2 rfl).trans e8
      refine jr.lald (i := 1) (x := v8) rfl (Nat.lt_trans (kx_6 k7.2).1 (by decide)) (kx_6 k7.2).2 (by decide) (by omega) (by omega) e9 ?_
      refine jr.ladd rfl ?_
      refine jr.lw (jl_w (v5 + v8)) (jl_w_eq _) ?_
      have b10 : -9223372036854775808 ≤ jl_w (v5 + v8) ∧ jl_w (v5 + v8) ≤ 9223372036854775807 := jbl_any _
      refine jr_s rfl rfl (Or.inr rfl) ⟨Nat.le_of_ble_eq_true rfl, Nat.le_of_ble_eq_true rfl⟩ rfl rfl (jc.deep (c_PacketWall_putNumber_tf hC_M3 (FR.rfl _ M3) (show kd 1 = 43 from rfl) (by omega) (by omega) (by omega) rfl (fun M11 hC_M11 hf_M11 w11_0 => ?_)) (by decide))
      have ht_M11 : FR W_c_Flow_layRow_x T M11 := FR.t ht_M3 hf_M11 (kw_sub rfl)
      refine jr.aload_n rfl rfl ?_
      refine jr.iload_n rfl rfl ?_
      refine jr.bipush rfl (by decide) ?_
      refine jr.iadd rfl ?_
      refine jr.iconst rfl ?_
      refine jr.aload_n rfl rfl ?_
      have k12 := kf_1_11 k_t
      refine jr.getf (i := 11) (v := .ref (t + 7)) rfl rfl (Nat.lt_trans (kx_1 k_t).1 (by decide)) (kx_1 k_t).2 (by decide) rfl rfl rfl (jval_ref rfl k12.1) ?_
      refine jr.iconst rfl ?_
      obtain ⟨v13, e13⟩ : ∃ z_, M ((t + 7)) 0 = z_ := ⟨_, rfl⟩
      have b13 : (-9223372036854775808) ≤ v13 ∧ v13 ≤ 9223372036854775807 := by rw [← e13]; exact (CI.r hC_M k12.2 (by decide) 0)
      have e14 : M3 ((t + 7)) 0 = v13 := (hf_M3.g k12.2 rfl).trans e13
      have e15 : M11 ((t + 7)) 0 = v13 := (hf_M11.g k12.2 rfl).trans e14
      refine jr.lald (i := 0) (x := v13) rfl (Nat.lt_trans (kx_3 k12.2).1 (by decide)) (kx_3 k12.2).2 (by decide) (by omega) (by omega) e15 ?_
      refine jr.aload_n rfl rfl ?_
      have k16 := kf_1_11 k_t
      refine jr.getf (i := 11) (v := .ref (t + 7)) rfl rfl (Nat.lt_trans (kx_1 k_t).1 (by decide)) (kx_1 k_t).2 (by decide) rfl rfl rfl (jval_ref rfl k16.1) ?_
      refine jr.iconst rfl ?_
      obtain ⟨v17, e17⟩ : ∃ z_, M ((t + 7)) 1 = z_ := ⟨_, rfl⟩
      have b17 : (-9223372036854775808) ≤ v17 ∧ v17 ≤ 9223372036854775807 := by rw [← e17]; exact (CI.r hC_M k16.2 (by decide) 1)
      have e18 : M3 ((t + 7)) 1 = v17 := (hf_M3.g k16.2 rfl).trans e17
      have e19 : M11 ((t + 7)) 1 = v17 := (hf_M11.g k16.2 rfl).trans e18
      refine jr.lald (i := 1) (x := v17) rfl (Nat.lt_trans (kx_3 k16.2).1 (by decide)) (kx_3 k16.2).2 (by decide) (by omega) (by omega) e19 ?_
      refine jr.ladd rfl ?_
      refine jr.lw (jl_w (v13 + v17)) (jl_w_eq _) ?_
      have b20 : -9223372036854775808 ≤ jl_w (v13 + v17) ∧ jl_w (v13 + v17) ≤ 9223372036854775807 := jbl_any _
      refine jr_s rfl rfl (Or.inr rfl) ⟨Nat.le_of_ble_eq_true rfl, Nat.le_of_ble_eq_true rfl⟩ rfl rfl (jc.deep (c_PacketWall_putNumber_tf hC_M11 (FR.rfl _ M11) (show kd 1 = 43 from rfl) (by omega) (by omega) (by omega) rfl (fun M21 hC_M21 hf_M21 w21_0 => ?_)) (by decide))
      have ht_M21 : FR W_c_Flow_layRow_x T M21 := FR.t ht_M11 hf_M21 (kw_sub rfl)
      refine jr.aload_n rfl rfl ?_
      refine jr.iload_n rfl rfl ?_
      refine jr.bipush rfl (by decide) ?_
      refine jr.iadd rfl ?_
      refine jr.iconst rfl ?_
      refine jr.aload_n rfl rfl ?_
      refine jr.iload_n rfl rfl ?_
      refine jr.iload_n rfl rfl ?_
      refine jr.bipush rfl (by decide) ?_
      refine jr.iadd rfl ?_
      refine jr_s rfl rfl (Or.inr rfl) ⟨Nat.le_of_ble_eq_true rfl, Nat.le_of_ble_eq_true rfl⟩ rfl rfl (jc.deep (c_PacketWall_addedTwos_tx hC_M21 (by omega) (by omega) (by omega) (fun r22 z22 w22_0 => ?_)) (by decide))
      refine jr_s rfl rfl (Or.inr rfl) ⟨Nat.le_of_ble_eq_true rfl, Nat.le_of_ble_eq_true rfl⟩ rfl rfl (jc.deep (c_PacketWall_foldedSum_x hC_M21 (by omega) (fun r23 z23 w23_0 => ?_)) (by decide))
      refine jr.i2l rfl (by omega) ?_
      refine jr_s rfl rfl (Or.inr rfl) ⟨Nat.le_of_ble_eq_true rfl, Nat.le_of_ble_eq_true rfl⟩ rfl rfl (jc.deep (c_PacketWall_putNumber_tf hC_M21 (FR.rfl _ M21) (show kd 1 = 43 from rfl) (by omega) (by omega) (by omega) rfl (fun M24 hC_M24 hf_M24 w24_0 => ?_)) (by decide))
      have ht_M24 : FR W_c_Flow_layRow_x T M24 := FR.t ht_M21 hf_M24 (kw_sub rfl)
      exact jr.vreturn rfl rfl (q _ hC_M24 ht_M24  ⟨(by unfold rcB; rw [(show T t 6 = _ from (hy1 t 6 (kd_ne (by rw [k_t]; decide))).symm.trans e1), (show T (t + 6) 0 = _ from (hy1 (t + 6) 0 (kd_ne (by rw [(kf_1_10 k_t).2]; decide))).symm.trans e5), (show T (t + 6) 1 = _ from (hy1 (t + 6) 1 (kd_ne (by rw [(kf_1_10 k_t).2]; decide))).symm.trans e8), (show T (t + 7) 0 = _ from (hy1 (t + 7) 0 (kd_ne (by rw [(kf_1_11 k_t).2]; decide))).symm.trans e13), (show T (t + 7) 1 = _ from (hy1 (t + 7) 1 (kd_ne (by rw [(kf_1_11 k_t).2]; decide))).symm.trans e17)]; exact lay_fin (by omega) (by have h9 := hy0; rw [show i = 2 from by omega] at h9; exact h9) w3_0 w11_0 w21_0 w24_0 w23_0 w22_0), (fun b k hb => ((w24_0.2 b k hb).trans ((w21_0.2 b k hb).trans ((w11_0.2 b k hb).trans ((w3_0.2 b k hb).trans (hy1 b k hb))))))⟩)
    · refine jr.aload_n rfl rfl ?_
      refine jr.iload_n rfl rfl ?_
      refine jr.iconst rfl ?_
      refine jr.iadd rfl ?_
      refine jr.iconst rfl ?_
      refine jr.iload rfl rfl ?_
      refine jr.imul rfl ?_
      refine jr.iadd rfl ?_
      refine jr.iconst rfl ?_
      refine jr.aload_n rfl rfl ?_
      have k25 := kf_1_4 k_t
      refine jr.getf (i := 4) (v := .ref (t + 2)) rfl rfl (Nat.lt_trans (kx_1 k_t).1 (by decide)) (kx_1 k_t).2 (by decide) rfl rfl rfl (jval_ref rfl k25.1) ?_
      refine jr.iload rfl rfl ?_
      obtain ⟨v26, e26⟩ : ∃ z_, M ((t + 2)) i = z_ := ⟨_, rfl⟩
      have b26 : (-2147483648) ≤ v26 ∧ v26 ≤ 2147483647 := by rw [← e26]; exact (CI.r hC_M k25.2 (by decide) i)
      refine jr.iald (i := i) (x := v26) rfl (Nat.lt_trans (kx_7 k25.2).1 (by decide)) (kx_7 k25.2).2 (by decide) (by omega) (by omega) e26 ?_
      refine jr.i2l rfl (by omega) ?_
      refine jr_s rfl rfl (Or.inr rfl) ⟨Nat.le_of_ble_eq_true rfl, Nat.le_of_ble_eq_true rfl⟩ rfl rfl (jc.deep (c_PacketWall_putNumber_tf hC_M (FR.rfl _ M) (show kd 1 = 43 from rfl) (by omega) (by omega) (by omega) rfl (fun M27 hC_M27 hf_M27 w27_0 => ?_)) (by decide))
      have ht_M27 : FR W_c_Flow_layRow_x T M27 := FR.t ht_M hf_M27 (kw_sub rfl)
      refine jr.aload_n rfl rfl ?_
      refine jr.iload_n rfl rfl ?_
      refine jr.bipush rfl (by decide) ?_
      refine jr.iadd rfl ?_
      refine jr.iconst rfl ?_
      refine jr.iload rfl rfl ?_
      refine jr.imul rfl ?_
      refine jr.iadd rfl ?_
      refine jr.iconst rfl ?_
      refine jr.aload_n rfl rfl ?_
      have k28 := kf_1_9 k_t
      refine jr.getf (i := 9) (v := .ref (t + 5)) rfl rfl (Nat.lt_trans (kx_1 k_t).1 (by decide)) (kx_1 k_t).2 (by decide) rfl rfl rfl (jval_ref rfl k28.1) ?_
      refine jr.iload rfl rfl ?_
      obtain ⟨v29, e29⟩ : ∃ z_, M ((t + 5)) i = z_ := ⟨_, rfl⟩
      have b29 : (-2147483648) ≤ v29 ∧ v29 ≤ 2147483647 := by rw [← e29]; exact (CI.r hC_M k28.2 (by decide) i)
      have e30 : M27 ((t + 5)) i = v29 := (hf_M27.g k28.2 rfl).trans e29
      refine jr.iald (i := i) (x := v29) rfl (Nat.lt_trans (kx_8 k28.2).1 (by decide)) (kx_8 k28.2).2 (by decide) (by omega) (by omega) e30 ?_
      refine jr.i2l rfl (by omega) ?_
      refine jr_s rfl rfl (Or.inr rfl) ⟨Nat.le_of_ble_eq_true rfl, Nat.le_of_ble_eq_true rfl⟩ rfl rfl (jc.deep (c_PacketWall_putNumber_tf hC_M27 (FR.rfl _ M27) (show kd 1 = 43 from rfl) (by omega) (by omega) (by omega) rfl (fun M31 hC_M31 hf_M31 w31_0 => ?_)) (by decide))
      have ht_M31 : FR W_c_Flow_layRow_x T M31 := FR.t ht_M27 hf_M31 (kw_sub rfl)
      refine jr.aload_n rfl rfl ?_
      refine jr.iload_n rfl rfl ?_
      refine jr.bipush rfl (by decide) ?_
      refine jr.iadd rfl ?_
      refine jr.bipush rfl (by decide) ?_
      refine jr.iload rfl rfl ?_
      refine jr.imul rfl ?_
      refine jr.iadd rfl ?_
      refine jr.bipush rfl (by decide) ?_
      refine jr.aload_n rfl rfl ?_
      have k32 := kf_1_3 k_t
      refine jr.getf (i := 3) (v := .ref (t + 1)) rfl rfl (Nat.lt_trans (kx_1 k_t).1 (by decide)) (kx_1 k_t).2 (by decide) rfl rfl rfl (jval_ref rfl k32.1) ?_
      refine jr.iload rfl rfl ?_
      obtain ⟨v33, e33⟩ : ∃ z_, M ((t + 1)) i = z_ := ⟨_, rfl⟩
      have b33 : (-9223372036854775808) ≤ v33 ∧ v33 ≤ 9223372036854775807 := by rw [← e33]; exact (CI.r hC_M k32.2 (by decide) i)
      have e34 : M27 ((t + 1)) i = v33 := (hf_M27.g k32.2 rfl).trans e33
      have e35 : M31 ((t + 1)) i = v33 := (hf_M31.g k32.2 rfl).trans e34
      refine jr.lald (i := i) (x := v33) rfl (Nat.lt_trans (kx_2 k32.2).1 (by decide)) (kx_2 k32.2).2 (by decide) (by omega) (by omega) e35 ?_
      refine jr_s rfl rfl (Or.inr rfl) ⟨Nat.le_of_ble_eq_true rfl, Nat.le_of_ble_eq_true rfl⟩ rfl rfl (jc.deep (c_PacketWall_putNumber_tf hC_M31 (FR.rfl _ M31) (show kd 1 = 43 from rfl) (by omega) (by omega) (by omega) rfl (fun M36 hC_M36 hf_M36 w36_0 => ?_)) (by decide))
      have ht_M36 : FR W_c_Flow_layRow_x T M36 := FR.t ht_M31 hf_M36 (kw_sub rfl)
      refine jr.aload_n rfl rfl ?_
      refine jr.iload_n rfl rfl ?_
      refine jr.bipush rfl (by decide) ?_
      refine jr.iadd rfl ?_
      refine jr.iconst rfl ?_
      refine jr.iload rfl rfl ?_
      refine jr.imul rfl ?_
      refine jr.iadd rfl ?_
      refine jr.iconst rfl ?_
      refine jr.aload_n rfl rfl ?_
      have k37 := kf_1_7 k_t
      refine jr.getf (i := 7) (v := .ref (t + 3)) rfl rfl (Nat.lt_trans (kx_1 k_t).1 (by decide)) (kx_1 k_t).2 (by decide) rfl rfl rfl (jval_ref rfl k37.1) ?_
      refine jr.iload rfl rfl ?_
      obtain ⟨v38, e38⟩ : ∃ z_, M ((t + 3)) i = z_ := ⟨_, rfl⟩
      have b38 : (-2147483648) ≤ v38 ∧ v38 ≤ 2147483647 := by rw [← e38]; exact (CI.r hC_M k37.2 (by decide) i)
      have e39 : M27 ((t + 3)) i = v38 := (hf_M27.g k37.2 rfl).trans e38
      have e40 : M31 ((t + 3)) i = v38 := (hf_M31.g k37.2 rfl).trans e39
      have e41 : M36 ((t + 3)) i = v38 := (hf_M36.g k37.2 rfl).trans e40
      refine jr.iald (i := i) (x := v38) rfl (Nat.lt_trans (kx_5 k37.2).1 (by decide)) (kx_5 k37.2).2 (by decide) (by omega) (by omega) e41 ?_
      refine jr.i2l rfl (by omega) ?_
      refine jr_s rfl rfl (Or.inr rfl) ⟨Nat.le_of_ble_eq_true rfl, Nat.le_of_ble_eq_true rfl⟩ rfl rfl (jc.deep (c_PacketWall_putNumber_tf hC_M36 (FR.rfl _ M36) (show kd 1 = 43 from rfl) (by omega) (by omega) (by omega) rfl (fun M42 hC_M42 hf_M42 w42_0 => ?_)) (by decide))
      have ht_M42 : FR W_c_Flow_layRow_x T M42 := FR.t ht_M36 hf_M42 (kw_sub rfl)
      refine jr.iinc (ls' := [_, _, _, _, _]) rfl rfl (by decide) rfl ?_
      refine jr.goto rfl rfl ?_
      refine jr.pick (ls := [_, _, _, _, _]) [1, 2, 0, 3, 4] rfl rfl ?_
      exact ih (nM - 1) (by omega) M42 (i + 1) hC_M42 ht_M42 (by omega) (by omega) (by omega) (by rw [lyI_s (by omega), w42_0.pt (by omega), w36_0.pt (by omega), w31_0.pt (by omega), w27_0.pt (by omega), hy0, (show T (t + 2) i = _ from (hy1 (t + 2) i (kd_ne (by rw [(kf_1_4 k_t).2]; decide))).symm.trans e26), (show T (t + 5) i = _ from (hy1 (t + 5) i (kd_ne (by rw [(kf_1_9 k_t).2]; decide))).symm.trans e29), (show T (t + 1) i = _ from (hy1 (t + 1) i (kd_ne (by rw [(kf_1_3 k_t).2]; decide))).symm.trans e33), (show T (t + 3) i = _ from (hy1 (t + 3) i (kd_ne (by rw [(kf_1_7 k_t).2]; decide))).symm.trans e38)]; rfl) (fun b k hb => ((w42_0.2 b k hb).trans ((w36_0.2 b k hb).trans ((w31_0.2 b k hb).trans ((w27_0.2 b k hb).trans (hy1 b k hb)))))) (by omega)
end
