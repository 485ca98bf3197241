section
theorem c_Headers_valueOf_x {A : Nat → Option (Nat × (Nat → Int32))} {Q : Option Value → jm → Prop} {f : Int → Int} {N : Int} {M : jm} (hC_M : CI M) {t : Nat} (k_t : kd t = 18) {x : Int} (h_x : (-2147483648) ≤ x ∧ x ≤ 2147483647) {y : Int} (h_y : (-2147483648) ≤ y ∧ y ≤ 2147483647) {C : Int} (g_C : M t 3 = C) (p0 : HS M t f N) (q : ∀ (r : Int), (-9223372036854775808) ≤ r ∧ r ≤ 9223372036854775807 → (r = vA f N C x y) → Q (some (.long (Int64.ofInt r))) M) : jc A 2 110 [.ref (t), .int (Int32.ofInt (x)), .int (Int32.ofInt (y))] M Q := by
  refine jc_of (m := xm_110) rfl (Nat.le_of_ble_eq_true rfl) rfl ?_
  have b_C : 0 ≤ C ∧ C ≤ 12 := by rw [← g_C]; exact (CI.r hC_M k_t (by decide) 3)
  refine jr.aload_n rfl rfl ?_
  refine jr.iload_n rfl rfl ?_
  refine jr_v rfl rfl (Or.inl rfl) rfl rfl (Nat.lt_trans (kx_18 k_t).1 (by decide)) (kx_18 k_t).2 ⟨rfl, Nat.le_of_ble_eq_true rfl, Nat.le_of_ble_eq_true rfl⟩ rfl (jc.deep (c_Headers_kindAt_x hC_M k_t (by omega) g_C p0 (fun r1 z1 w1_0 => ?_)) (by decide))
  have hk0 : r1 = -1 ∨ (0 ≤ x ∧ x < C) := (by have hq := w1_0; unfold kA at hq; split at hq <;> omega)
  refine jr.istore_n (ls' := [_, _, _, _]) rfl (by decide) rfl ?_
  refine jr.iload_n rfl rfl ?_
  refine jr.if_lt rfl rfl (by omega) (fun h7 => ?_) (fun h7 => ?_)
  · refine jr.ldc2 (x := (-1)) rfl rfl (by decide) ?_
    exact jr.lreturn rfl rfl (q _ (by omega) (vA_out (by first | (exact Or.inr (Or.inl (by omega))) | (exact Or.elim (Decidable.em (0 ≤ x ∧ x < C)) (fun hc => Or.inr (Or.inr (by have hr := (p0.2.2.2.2.1 x hc.1 (by omega)).1.1; have hq := w1_0; unfold kA at hq; rw [if_pos hc] at hq; rw [← hq] at hr ⊢; omega))) (fun hc => Or.inl (by omega))))))
  · refine jr.iload_n rfl rfl ?_
    refine jr.iload_n rfl rfl ?_
    refine jr_s rfl rfl (Or.inl rfl) ⟨Nat.le_of_ble_eq_true rfl, Nat.le_of_ble_eq_true rfl⟩ rfl rfl (jc.deep (c_Headers_fieldCount_x hC_M (by omega) (fun r2 z2 w2_0 => ?_)) (by decide))
    refine jr.icmp_lt rfl rfl (by omega) (by omega) (fun h15 => ?_) (fun h15 => ?_)
    · refine jr.iload_n rfl rfl ?_
      refine jr.bipush rfl (by decide) ?_
      refine jr.icmp_ne rfl rfl (by omega) (by omega) (fun h25 => ?_) (fun h25 => ?_)
      · have sx25 : r1 ≤ (10 : Int) := by omega
        clear h25
        refine jr.iconst rfl ?_
        refine jr.gst (v := .ref 1000003) rfl rfl ?_
        refine jr.iload_n rfl rfl ?_
        obtain ⟨v3, e3⟩ : ∃ z_, xcv_3 r1 = z_ := ⟨_, rfl⟩
        have b3 : 0 ≤ v3 ∧ v3 ≤ 51 := by rw [← e3]; exact xcr_3 (by omega) (by omega)
        refine jr.ials (i := r1) v3 rfl (by decide) rfl (by decide) (by omega) (by omega) (by rw [← e3]; exact (Int32.ofInt_toInt _).symm) ?_
        have hx0 : 0 ≤ x ∧ x < C := (by have hq := w1_0; unfold kA at hq; split at hq <;> omega)
        have hkx : hX f N x = r1 := (by have hq := w1_0; unfold kA at hq; rw [if_pos hx0] at hq; exact hq.symm)
        have hr := p0.2.2.2.2.1 x hx0.1 (by omega)
        have hl := hok_l hr.1 (fun i h0 h1 => (p0.1 i h0 h1).2) p0.2.2.1.2
        have hN4 := p0.2.2.1
        have hy1 := hr.2.2.1
        have hz1 := hr.2.2.2
        rw [hkx] at hl
        have hvt := vtab (k := r1) (j := y) (by omega) (by omega) (by omega)
        have hff := xff (i := r1) (by omega) (by omega)
        rw [e3] at hvt hff
        refine jr.iload_n rfl rfl ?_
        refine jr.iadd rfl ?_
        refine jr.imul rfl ?_
        refine jr.istore (ls' := [_, _, _, _, _]) rfl (by decide) rfl ?_
        refine jr.aload_n rfl rfl ?_
        obtain ⟨v4, e4⟩ : ∃ z_, M t 7 = z_ := ⟨_, rfl⟩
        have b4 : 0 ≤ v4 ∧ v4 ≤ 597 := by rw [← e4]; exact (CI.r hC_M k_t (by decide) 7)
        have k5 : kd (v4).toNat = 33 := ((congrArg (fun z : Int => kd z.toNat) (show M t 7 = v4 from e4)).symm.trans (CI.x hC_M k_t 7 rfl (by decide)))
        refine jr.getf (i := 7) (x := v4) (v := .ref (v4.toNat)) rfl rfl (Nat.lt_trans (kx_18 k_t).1 (by decide)) (kx_18 k_t).2 (by decide) rfl rfl e4 (jval_mut rfl (kn_18_7 k_t)) ?_
        have k6 := kf_33_0 k5
        refine jr.getf (i := 0) (v := .ref ((v4.toNat) + 1)) rfl rfl (Nat.lt_trans (kx_33 k5).1 (by decide)) (kx_33 k5).2 (by decide) rfl rfl rfl (jval_ref rfl k6.1) ?_
        refine jr.aload_n rfl rfl ?_
        have k7 := kf_18_1 k_t
        refine jr.getf (i := 1) (v := .ref (t + 2)) rfl rfl (Nat.lt_trans (kx_18 k_t).1 (by decide)) (kx_18 k_t).2 (by decide) rfl rfl rfl (jval_ref rfl k7.1) ?_
        refine jr.iload_n rfl rfl ?_
        obtain ⟨v8, e8⟩ : ∃ z_, M ((t + 2)) x = z_ := ⟨_, rfl⟩
        have b8 : 0 ≤ v8 ∧ v8 ≤ 400 := by rw [← e8]; exact (CI.r hC_M k7.2 (by decide) x)
        refine jr.iald (i := x) (x := v8) rfl (Nat.lt_trans (kx_20 k7.2).1 (by decide)) (kx_20 k7.2).2 (by decide) (by omega) (by omega) e8 ?_
        refine jr.gst (v := .ref 1000004) rfl rfl ?_
        refine jr.iload rfl rfl ?_
        obtain ⟨v9, e9⟩ : ∃ z_, xcv_4 (4 * (v3 + y)) = z_ := ⟨_, rfl⟩
        have b9 : 0 ≤ v9 ∧ v9 ≤ 64 := by rw [← e9]; exact xcr_4 (by omega) (by omega)
        refine jr.ials (i := (4 * (v3 + y))) v9 rfl (by decide) rfl (by decide) (by omega) (by omega) (by rw [← e9]; exact (Int32.ofInt_toInt _).symm) ?_
        refine jr.iadd rfl ?_
        refine jr.gst (v := .ref 1000004) rfl rfl ?_
        refine jr.iload rfl rfl ?_
        refine jr.iconst rfl ?_
        refine jr.iadd rfl ?_
        obtain ⟨v10, e10⟩ : ∃ z_, xcv_4 ((4 * (v3 + y)) + 1) = z_ := ⟨_, rfl⟩
        have b10 : 0 ≤ v10 ∧ v10 ≤ 64 := by rw [← e10]; exact xcr_4 (by omega) (by omega)
        refine jr.ials (i := ((4 * (v3 + y)) + 1)) v10 rfl (by decide) rfl (by decide) (by omega) (by omega) (by rw [← e10]; exact (Int32.ofInt_toInt _).symm) ?_
        refine jr_s rfl rfl (Or.inr rfl) ⟨Nat.le_of_ble_eq_true rfl, Nat.le_of_ble_eq_true rfl⟩ rfl rfl (jc.deep (c_PacketWall_numberAt_pw hC_M k6.2 (by omega) (by omega) (by omega) (by have hq := p0.1; rw [e4] at hq; exact hq) (fun r11 z11 w11_0 => ?_)) (by decide))
        refine jr.lstore (ls' := [_, _, _, _, _, _]) rfl (by decide) rfl ?_
        refine jr.gst (v := .ref 1000004) rfl rfl ?_
        refine jr.iload rfl rfl ?_
        refine jr.iconst rfl ?_
        refine jr.iadd rfl ?_
        obtain ⟨v12, e12⟩ : ∃ z_, xcv_4 ((4 * (v3 + y)) + 3) = z_ := ⟨_, rfl⟩
        have b12 : 0 ≤ v12 ∧ v12 ≤ 64 := by rw [← e12]; exact xcr_4 (by omega) (by omega)
        refine jr.ials (i := ((4 * (v3 + y)) + 3)) v12 rfl (by decide) rfl (by decide) (by omega) (by omega) (by rw [← e12]; exact (Int32.ofInt_toInt _).symm) ?_
        refine jr.istore (ls' := [_, _, _, _, _, _, _]) rfl (by decide) rfl ?_
        refine jr.iload rfl rfl ?_
        refine jr.bipush rfl (by decide) ?_
        refine jr.icmp_lt rfl rfl (by omega) (by omega) (fun h94 => ?_) (fun h94 => ?_)
        · refine jr.lload rfl rfl ?_
          refine jr.gst (v := .ref 1000004) rfl rfl ?_
          refine jr.iload rfl rfl ?_
          refine jr.iconst rfl ?_
          refine jr.iadd rfl ?_
          obtain ⟨v13, e13⟩ : ∃ z_, xcv_4 ((4 * (v3 + y)) + 2) = z_ := ⟨_, rfl⟩
          have b13 : 0 ≤ v13 ∧ v13 ≤ 64 := by rw [← e13]; exact xcr_4 (by omega) (by omega)
          refine jr.ials (i := ((4 * (v3 + y)) + 2)) v13 rfl (by decide) rfl (by decide) (by omega) (by omega) (by rw [← e13]; exact (Int32.ofInt_toInt _).symm) ?_
          have hnr := nbs_r4 (f := f) (y := v8 + v9) (n := v10.toNat) (by omega) (fun i h0 h1 => (p0.1 i (by omega) (by omega)).2)
          have hraw : r11 = nbs f (v8 + v9) v10.toNat := (by rw [w11_0, jl_w_id (by omega)])
          refine jr.lushr rfl ?_
          have b14 : jl_ushr r11 v13 = r11 / ((2 ^ v13.toNat : Nat) : Int) ∧ 0 ≤ jl_ushr r11 v13 ∧ jl_ushr r11 v13 ≤ r11 := jl_ushr_xb (by omega) (by omega)
          generalize jl_ushr r11 v13 = v14 at b14 ⊢
          refine jr.lconst (x := 1) rfl (by decide) ?_
          refine jr.iload rfl rfl ?_
          refine jr.lshl rfl ?_
          have b15 : jl_shl 1 v12 = ((2 ^ v12.toNat : Nat) : Int) ∧ 1 ≤ jl_shl 1 v12 ∧ jl_shl 1 v12 ≤ 4294967296 := jl_shl_1 (by omega)
          generalize jl_shl 1 v12 = v15 at b15 ⊢
          refine jr.lconst (x := 1) rfl (by decide) ?_
          refine jr.lsub rfl ?_
          refine jr.land rfl ?_
          have b16 : jl_and v14 (v15 - 1) = v14 % v15 ∧ 0 ≤ jl_and v14 (v15 - 1) ∧ jl_and v14 (v15 - 1) ≤ v14 := jl_and_p (by omega) (by omega) b15.1
          generalize jl_and v14 (v15 - 1) = v16 at b16 ⊢
          exact jr.lreturn rfl rfl (q _ (by omega) (vA_in hx0 hkx (show hY f N x = v8 by omega) ⟨by omega, by omega⟩ (by unfold vof; rw [if_neg (by omega), e3, e9, e10, e12, if_neg (by omega), e13, b16.1, b14.1, b15.1, hraw])))
        · refine jr.lload rfl rfl ?_
          refine jr.goto rfl rfl ?_
          exact jr.lreturn rfl rfl (q _ (by omega) (vA_in hx0 hkx (show hY f N x = v8 by omega) ⟨by omega, by omega⟩ (by unfold vof; rw [if_neg (by omega), e3, e9, e10, e12, if_pos (by omega)]; exact w11_0)))
      · refine jr.aload_n rfl rfl ?_
        have k17 := kf_18_2 k_t
        refine jr.getf (i := 2) (v := .ref (t + 3)) rfl rfl (Nat.lt_trans (kx_18 k_t).1 (by decide)) (kx_18 k_t).2 (by decide) rfl rfl rfl (jval_ref rfl k17.1) ?_
        refine jr.iload_n rfl rfl ?_
        obtain ⟨v18, e18⟩ : ∃ z_, M ((t + 3)) x = z_ := ⟨_, rfl⟩
        have b18 : (-400) ≤ v18 ∧ v18 ≤ 2048 := by rw [← e18]; exact (CI.r hC_M k17.2 (by decide) x)
        refine jr.iald (i := x) (x := v18) rfl (Nat.lt_trans (kx_21 k17.2).1 (by decide)) (kx_21 k17.2).2 (by decide) (by omega) (by omega) e18 ?_
        have hx0 : 0 ≤ x ∧ x < C := (by have hq := w1_0; unfold kA at hq; split at hq <;> omega)
        have hkx : hX f N x = r1 := (by have hq := w1_0; unfold kA at hq; rw [if_pos hx0] at hq; exact hq.symm)
        have hr := p0.2.2.2.2.1 x hx0.1 (by omega)
        have hl := hok_l hr.1 (fun i h0 h1 => (p0.1 i h0 h1).2) p0.2.2.1.2
        have hN4 := p0.2.2.1
        have hy1 := hr.2.2.1
        have hz1 := hr.2.2.2
        rw [hkx] at hl
        refine jr.i2l rfl (by omega) ?_
        exact jr.lreturn rfl rfl (q _ (by omega) (vA_in hx0 hkx rfl ⟨by omega, by omega⟩ (by unfold vof; rw [if_pos (by omega)]; omega)))
    · refine jr.ldc2 (x := (-1)) rfl rfl (by decide) ?_
      exact jr.lreturn rfl rfl (q _ (by omega) (vA_out (by first | (exact Or.inr (Or.inl (by omega))) | (exact Or.elim (Decidable.em (0 ≤ x ∧ x < C)) (fun hc => Or.inr (Or.inr (by have hr := (p0.2.2.2.2.1 x hc.1 (by omega)).1.1; have hq := w1_0; unfold kA at hq; rw [if_pos hc] at hq; rw [← hq] at hr ⊢; omega))) (fun hc => Or.inl (by omega))))))
end
section
end
