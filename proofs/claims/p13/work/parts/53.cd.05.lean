theorem c_Headers_valueOf_o2 {A : Nat → Option (Nat × (Nat → Int32))} {Q : Option Value → jm → Prop} {M : jm} (hC_M : CI M) {t : Nat} (k_t : kd t = 18) {x : Int} (h_x : (-2147483648) ≤ x ∧ x ≤ 2147483647) (p0 : 0 ≤ x ∧ x < M t 3) (p1 : M (t + 1) x = 2) (q : ∀ (r : Int), 0 ≤ r ∧ r ≤ 8191 → Q (some (.long (Int64.ofInt r))) M) : jc A 2 110 [.ref (t), .int (Int32.ofInt (x)), .int (Int32.ofInt (5))] M Q := by
  refine jc_of (m := xm_110) rfl (Nat.le_of_ble_eq_true rfl) rfl ?_
  refine jr.aload_n rfl rfl ?_
  refine jr.iload_n rfl rfl ?_
  refine jr_v rfl rfl (Or.inl rfl) rfl rfl (Nat.lt_trans (kx_18 k_t).1 (by decide)) (kx_18 k_t).2 ⟨rfl, Nat.le_of_ble_eq_true rfl, Nat.le_of_ble_eq_true rfl⟩ rfl (jc.deep (c_Headers_kindAt hC_M k_t (by omega) (fun r1 z1 w1_0 w1_1 => ?_)) (by decide))
  refine jr.istore_n (ls' := [_, _, _, _]) rfl (by decide) rfl ?_
  refine jr.iload_n rfl rfl ?_
  refine jr.if_lt rfl rfl (by omega) (fun h => absurd h (by decide)) (fun _ => ?_)
  refine jr.iload_n rfl rfl ?_
  refine jr.iload_n rfl rfl ?_
  refine jr_s rfl rfl (Or.inl rfl) ⟨Nat.le_of_ble_eq_true rfl, Nat.le_of_ble_eq_true rfl⟩ rfl rfl (jc.deep (c_Headers_fieldCount hC_M (by omega) (fun r2 z2 w2_0 w2_1 => ?_)) (by decide))
  have hx2 := xt_2_2 r1
  refine jr.icmp_lt rfl rfl (by omega) (by omega) (fun h15 => ?_) (fun h => absurd h (by omega))
  refine jr.iload_n rfl rfl ?_
  refine jr.bipush rfl (by decide) ?_
  refine jr.icmp_ne rfl rfl (by omega) (by omega) (fun h25 => ?_) (fun h => absurd h (by omega))
  refine jr.iconst rfl ?_
  refine jr.gst (v := .ref 1000003) rfl rfl ?_
  refine jr.iload_n rfl rfl ?_
  obtain ⟨v3, e3⟩ : ∃ z_, xcv_3 r1 = z_ := ⟨_, rfl⟩
  have b3 : 0 ≤ v3 ∧ v3 ≤ 51 := by rw [← e3]; exact xcr_3 (by omega) (by omega)
  refine jr.ials (i := r1) v3 rfl (by decide) rfl (by decide) (by omega) (by omega) (by rw [← e3]; exact (Int32.ofInt_toInt _).symm) ?_
  have hx3 := xt_3_2 r1
  refine jr.iload_n rfl rfl ?_
  refine jr.iadd rfl ?_
  refine jr.imul rfl ?_
  refine jr.istore (ls' := [_, _, _, _, _]) rfl (by decide) rfl ?_
  refine jr.aload_n rfl rfl ?_
  obtain ⟨v4, e4⟩ : ∃ z_, M t 7 = z_ := ⟨_, rfl⟩
  have b4 : 0 ≤ v4 ∧ v4 ≤ 597 := by rw [← e4]; exact (CI.r hC_M k_t (by decide) 7)
  have k5 : kd (v4).toNat = 33 := ((congrArg (fun z : Int => kd z.toNat) (show M t 7 = v4 from e4)).symm.trans (CI.x hC_M k_t 7 rfl (by decide)))
  refine jr.getf (i := 7) (x := v4) (v := .ref (v4.toNat)) rfl rfl (Nat.lt_trans (kx_18 k_t).1 (by decide)) (kx_18 k_t).2 (by decide) rfl rfl e4 (jval_mut rfl (kn_18_7 k_t)) ?_
  have k6 := kf_33_0 k5
  refine jr.getf (i := 0) (v := .ref ((v4.toNat) + 1)) rfl rfl (Nat.lt_trans (kx_33 k5).1 (by decide)) (kx_33 k5).2 (by decide) rfl rfl rfl (jval_ref rfl k6.1) ?_
  refine jr.aload_n rfl rfl ?_
  have k7 := kf_18_1 k_t
  refine jr.getf (i := 1) (v := .ref (t + 2)) rfl rfl (Nat.lt_trans (kx_18 k_t).1 (by decide)) (kx_18 k_t).2 (by decide) rfl rfl rfl (jval_ref rfl k7.1) ?_
  refine jr.iload_n rfl rfl ?_
  obtain ⟨v8, e8⟩ : ∃ z_, M ((t + 2)) x = z_ := ⟨_, rfl⟩
  have b8 : 0 ≤ v8 ∧ v8 ≤ 400 := by rw [← e8]; exact (CI.r hC_M k7.2 (by decide) x)
  refine jr.iald (i := x) (x := v8) rfl (Nat.lt_trans (kx_20 k7.2).1 (by decide)) (kx_20 k7.2).2 (by decide) (by omega) (by omega) e8 ?_
  refine jr.gst (v := .ref 1000004) rfl rfl ?_
  refine jr.iload rfl rfl ?_
  obtain ⟨v9, e9⟩ : ∃ z_, xcv_4 (4 * (v3 + 5)) = z_ := ⟨_, rfl⟩
  have b9 : 0 ≤ v9 ∧ v9 ≤ 64 := by rw [← e9]; exact xcr_4 (by omega) (by omega)
  refine jr.ials (i := (4 * (v3 + 5))) v9 rfl (by decide) rfl (by decide) (by omega) (by omega) (by rw [← e9]; exact (Int32.ofInt_toInt _).symm) ?_
  refine jr.iadd rfl ?_
  refine jr.gst (v := .ref 1000004) rfl rfl ?_
  refine jr.iload rfl rfl ?_
  refine jr.iconst rfl ?_
  refine jr.iadd rfl ?_
  obtain ⟨v10, e10⟩ : ∃ z_, xcv_4 ((4 * (v3 + 5)) + 1) = z_ := ⟨_, rfl⟩
  have b10 : 0 ≤ v10 ∧ v10 ≤ 64 := by rw [← e10]; exact xcr_4 (by omega) (by omega)
  refine jr.ials (i := ((4 * (v3 + 5)) + 1)) v10 rfl (by decide) rfl (by decide) (by omega) (by omega) (by rw [← e10]; exact (Int32.ofInt_toInt _).symm) ?_
  have hf1 := xf1 (i := ((4 * (v3 + 5)) + 1)) (by omega) (by omega) (by omega)
  refine jr_s rfl rfl (Or.inr rfl) ⟨Nat.le_of_ble_eq_true rfl, Nat.le_of_ble_eq_true rfl⟩ rfl rfl (jc.deep (c_PacketWall_numberAt_p hC_M k6.2 (by omega) (by omega) (fun r11 z11  => ?_)) (by decide))
  refine jr.lstore (ls' := [_, _, _, _, _, _]) rfl (by decide) rfl ?_
  refine jr.gst (v := .ref 1000004) rfl rfl ?_
  refine jr.iload rfl rfl ?_
  refine jr.iconst rfl ?_
  refine jr.iadd rfl ?_
  obtain ⟨v12, e12⟩ : ∃ z_, xcv_4 ((4 * (v3 + 5)) + 3) = z_ := ⟨_, rfl⟩
  have b12 : 0 ≤ v12 ∧ v12 ≤ 64 := by rw [← e12]; exact xcr_4 (by omega) (by omega)
  refine jr.ials (i := ((4 * (v3 + 5)) + 3)) v12 rfl (by decide) rfl (by decide) (by omega) (by omega) (by rw [← e12]; exact (Int32.ofInt_toInt _).symm) ?_
  have hx4 := xt_4_47 ((4 * (v3 + 5)) + 3)
  refine jr.istore (ls' := [_, _, _, _, _, _, _]) rfl (by decide) rfl ?_
  refine jr.iload rfl rfl ?_
  refine jr.bipush rfl (by decide) ?_
  refine jr.icmp_lt rfl rfl (by omega) (by omega) (fun h94 => ?_) (fun h => absurd h (by omega))
  refine jr.lload rfl rfl ?_
  refine jr.gst (v := .ref 1000004) rfl rfl ?_
  refine jr.iload rfl rfl ?_
  refine jr.iconst rfl ?_
  refine jr.iadd rfl ?_
  obtain ⟨v13, e13⟩ : ∃ z_, xcv_4 ((4 * (v3 + 5)) + 2) = z_ := ⟨_, rfl⟩
  have b13 : 0 ≤ v13 ∧ v13 ≤ 64 := by rw [← e13]; exact xcr_4 (by omega) (by omega)
  refine jr.ials (i := ((4 * (v3 + 5)) + 2)) v13 rfl (by decide) rfl (by decide) (by omega) (by omega) (by rw [← e13]; exact (Int32.ofInt_toInt _).symm) ?_
  refine jr.lushr rfl ?_
  have b14 : -9223372036854775808 ≤ jl_ushr r11 v13 ∧ jl_ushr r11 v13 ≤ 9223372036854775807 := jbl_any _
  generalize jl_ushr r11 v13 = v14 at b14 ⊢
  refine jr.lconst (x := 1) rfl (by decide) ?_
  refine jr.iload rfl rfl ?_
  refine jr.lshl rfl ?_
  have b15 : jl_shl 1 v12 = 8192 := (by rw [show v12 = 13 from by omega]; decide)
  generalize jl_shl 1 v12 = v15 at b15 ⊢
  refine jr.lconst (x := 1) rfl (by decide) ?_
  refine jr.lsub rfl ?_
  refine jr.land rfl ?_
  have b16 : 0 ≤ jl_and v14 (v15 - 1) ∧ jl_and v14 (v15 - 1) ≤ 8191 := (by have hq := jl_and_le (x := v14) (m := v15 - 1) (by omega); omega)
  generalize jl_and v14 (v15 - 1) = v16 at b16 ⊢
  exact jr.lreturn rfl rfl (q _ (by omega) )
