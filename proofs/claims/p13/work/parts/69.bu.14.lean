section
theorem c_Headers_dueSum_x {A : Nat → Option (Nat × (Nat → Int32))} {Q : Option Value → jm → Prop} {f f1 : Int → Int} {N : Int} {M : jm} (hC_M : CI M) {t : Nat} (k_t : kd t = 18) {x : Int} (h_x : (-2147483648) ≤ x ∧ x ≤ 2147483647) {C : Int} (g_C : M t 3 = C) (p0 : HS2 M t f f1 N) (q : ∀ (r : Int), (-1) ≤ r ∧ r ≤ 65535 → (r = dS f f1 N C x) → Q (some (.int (Int32.ofInt r))) M) : jc A 4 120 [.ref (t), .int (Int32.ofInt (x))] M Q := by
  refine jc_of (m := xm_120) rfl (Nat.le_of_ble_eq_true rfl) rfl ?_
  have b_C : 0 ≤ C ∧ C ≤ 12 := by rw [← g_C]; exact (CI.r hC_M k_t (by decide) 3)
  refine jr.aload_n rfl rfl ?_
  refine jr.iload_n rfl rfl ?_
  refine jr_v rfl rfl (Or.inl rfl) rfl rfl (Nat.lt_trans (kx_18 k_t).1 (by decide)) (kx_18 k_t).2 ⟨rfl, Nat.le_of_ble_eq_true rfl, Nat.le_of_ble_eq_true rfl⟩ rfl (jc.deep (c_Headers_kindAt_y hC_M k_t (by omega) g_C p0 (fun r1 z1 w1_0 => ?_)) (by decide))
  have hk0 : r1 = -1 ∨ (0 ≤ x ∧ x < C) := (by have hq := w1_0; unfold kA at hq; split at hq <;> omega)
  refine jr.istore_n (ls' := [_, _, _]) rfl (by decide) rfl ?_
  refine jr.iload_n rfl rfl ?_
  refine jr.iconst rfl ?_
  refine jr.icmp_eq rfl rfl (by omega) (by omega) (fun h8 => ?_) (fun h8 => ?_)
  · refine jr.aload_n rfl rfl ?_
    have k2 := kf_18_1 k_t
    refine jr.getf (i := 1) (v := .ref (t + 2)) rfl rfl (Nat.lt_trans (kx_18 k_t).1 (by decide)) (kx_18 k_t).2 (by decide) rfl rfl rfl (jval_ref rfl k2.1) ?_
    refine jr.iload_n rfl rfl ?_
    obtain ⟨v3, e3⟩ : ∃ z_, M ((t + 2)) x = z_ := ⟨_, rfl⟩
    have b3 : 0 ≤ v3 ∧ v3 ≤ 400 := by rw [← e3]; exact (CI.r hC_M k2.2 (by decide) x)
    refine jr.iald (i := x) (x := v3) rfl (Nat.lt_trans (kx_20 k2.2).1 (by decide)) (kx_20 k2.2).2 (by decide) (by omega) (by omega) e3 ?_
    obtain ⟨hx0, hkx, hyx, hzx, hN4, hA8, hA20, hA2⟩ := ds_f p0 g_C w1_0 (by omega)
    clear hk0
    refine jr.istore_n (ls' := [_, _, _, _]) rfl (by decide) rfl ?_
    refine jr.iload_n rfl rfl ?_
    refine jr.iconst rfl ?_
    refine jr.icmp_ne rfl rfl (by omega) (by omega) (fun h29 => ?_) (fun h29 => ?_)
    · exact absurd h29 (by omega)
    · refine jr.aload_n rfl rfl ?_
      refine jr.iload_n rfl rfl ?_
      refine jr_v rfl rfl (Or.inl rfl) rfl rfl (Nat.lt_trans (kx_18 k_t).1 (by decide)) (kx_18 k_t).2 ⟨rfl, Nat.le_of_ble_eq_true rfl, Nat.le_of_ble_eq_true rfl⟩ rfl (jc.deep (c_Headers_endOf_y hC_M k_t (by omega) g_C p0 (fun r4 z4 w4_0 => ?_)) (by decide))
      have hen : r4 = hY f N x + hZ f N x := (by rw [w4_0, enf_i hx0])
      refine jr.goto rfl rfl ?_
      refine jr.istore (ls' := [_, _, _, _, _]) rfl (by decide) rfl ?_
      refine jr.aload_n rfl rfl ?_
      obtain ⟨v5, e5⟩ : ∃ z_, M t 7 = z_ := ⟨_, rfl⟩
      have b5 : 0 ≤ v5 ∧ v5 ≤ 597 := by rw [← e5]; exact (CI.r hC_M k_t (by decide) 7)
      have k6 : kd (v5).toNat = 33 := ((congrArg (fun z : Int => kd z.toNat) (show M t 7 = v5 from e5)).symm.trans (CI.x hC_M k_t 7 rfl (by decide)))
      refine jr.getf (i := 7) (x := v5) (v := .ref (v5.toNat)) rfl rfl (Nat.lt_trans (kx_18 k_t).1 (by decide)) (kx_18 k_t).2 (by decide) rfl rfl e5 (jval_mut rfl (kn_18_7 k_t)) ?_
      have k7 := kf_33_0 k6
      refine jr.getf (i := 0) (v := .ref ((v5.toNat) + 1)) rfl rfl (Nat.lt_trans (kx_33 k6).1 (by decide)) (kx_33 k6).2 (by decide) rfl rfl rfl (jval_ref rfl k7.1) ?_
      refine jr.iload_n rfl rfl ?_
      refine jr.iload rfl rfl ?_
      refine jr_s rfl rfl (Or.inr rfl) ⟨Nat.le_of_ble_eq_true rfl, Nat.le_of_ble_eq_true rfl⟩ rfl rfl (jc.deep (c_PacketWall_addedTwos_pw hC_M k7.2 (by omega) (by omega) (by omega) (by have hq := p0.1; rw [e5] at hq; exact hq) (fun r8 z8 w8_0 => ?_)) (by decide))
      refine jr.aload_n rfl rfl ?_
      have k9 : kd (v5).toNat = 33 := ((congrArg (fun z : Int => kd z.toNat) (show M t 7 = v5 from e5)).symm.trans (CI.x hC_M k_t 7 rfl (by decide)))
      refine jr.getf (i := 7) (x := v5) (v := .ref (v5.toNat)) rfl rfl (Nat.lt_trans (kx_18 k_t).1 (by decide)) (kx_18 k_t).2 (by decide) rfl rfl e5 (jval_mut rfl (kn_18_7 k_t)) ?_
      refine jr.iload_n rfl rfl ?_
      refine jr.iload_n rfl rfl ?_
      refine jr_s rfl rfl (Or.inl rfl) ⟨Nat.le_of_ble_eq_true rfl, Nat.le_of_ble_eq_true rfl⟩ rfl rfl (jc.deep (c_Headers_sumOffset_x hC_M (by omega) (fun r10 z10 w10_0 => ?_)) (by decide))
      obtain ⟨hD, hD1, hD2, hD3, hD4⟩ := dS0_e (f := f) (f1 := f1) (N := N) (x := x) (un := r4) hkx (show hY f N x = v3 from by omega) (by omega) (by omega) (by omega) (by omega) (by omega) (fun i h0 h1 => (p0.1 i h0 h1).2)
      rw [← w10_0] at hD hD2 hD3 hD4
      refine jr.iadd rfl ?_
      refine jr.iconst rfl ?_
      refine jr_v rfl rfl (Or.inl rfl) rfl rfl (Nat.lt_trans (kx_33 k9).1 (by decide)) (kx_33 k9).2 ⟨rfl, Nat.le_of_ble_eq_true rfl, Nat.le_of_ble_eq_true rfl⟩ rfl (jc.deep (c_Packet_numberFrom_h hC_M k9 (by omega) (by have hq := p0.1; rw [e5] at hq; exact hq) (fun r11 z11 w11_0 => ?_)) (by decide))
      rw [← w8_0, ← w11_0.1] at hD
      refine jr.lsub rfl ?_
      refine jr.lstore (ls' := [_, _, _, _, _, _]) rfl (by decide) rfl ?_
      refine jr.iload_n rfl rfl ?_
      refine jr.bipush rfl (by decide) ?_
      refine jr.icmp_eq rfl rfl (by omega) (by omega) (fun h82 => ?_) (fun h82 => ?_)
      · exact absurd h82 (by omega)
      · refine jr.iload_n rfl rfl ?_
        refine jr.bipush rfl (by decide) ?_
        refine jr.icmp_ne rfl rfl (by omega) (by omega) (fun h88 => ?_) (fun h88 => ?_)
        · refine jr.lload rfl rfl ?_
          refine jr_s rfl rfl (Or.inr rfl) ⟨Nat.le_of_ble_eq_true rfl, Nat.le_of_ble_eq_true rfl⟩ rfl rfl (jc.deep (c_PacketWall_foldedSum_x hC_M (by omega) (fun r12 z12 w12_0 => ?_)) (by decide))
          skip
          refine jr.istore (ls' := [_, _, _, _, _, _, _]) rfl (by decide) rfl ?_
          refine jr.iload_n rfl rfl ?_
          refine jr.bipush rfl (by decide) ?_
          refine jr.icmp_ne rfl rfl (by omega) (by omega) (fun h148 => ?_) (fun h148 => ?_)
          · refine jr.iload rfl rfl ?_
            exact jr.ireturn rfl rfl rfl (q _ (by omega) (by have hka : kA f N C x = r1 := w1_0.symm; first | (unfold dS; rw [hka, if_pos (by omega), hD, ← w12_0]; done) | (unfold dS; rw [hka, if_pos (by omega), hD, ← w12_0]; omega) | (exfalso; omega)))
          · exact absurd (by omega) h148
        · exact absurd (by omega) h88
  · refine jr.iload_n rfl rfl ?_
    refine jr_s rfl rfl (Or.inr rfl) ⟨Nat.le_of_ble_eq_true rfl, Nat.le_of_ble_eq_true rfl⟩ rfl rfl (jc.deep (c_PacketWall_isCarriedKind_x hC_M (by omega) (fun r13 z13 w13_0 w13_1 => ?_)) (by decide))
    refine jr.if_ne rfl rfl (by omega) (fun h15 => ?_) (fun h15 => ?_)
    · have sx15 : (1 : Int) ≤ r13 := by omega
      clear h15
      refine jr.aload_n rfl rfl ?_
      have k14 := kf_18_1 k_t
      refine jr.getf (i := 1) (v := .ref (t + 2)) rfl rfl (Nat.lt_trans (kx_18 k_t).1 (by decide)) (kx_18 k_t).2 (by decide) rfl rfl rfl (jval_ref rfl k14.1) ?_
      refine jr.iload_n rfl rfl ?_
      obtain ⟨v15, e15⟩ : ∃ z_, M ((t + 2)) x = z_ := ⟨_, rfl⟩
      have b15 : 0 ≤ v15 ∧ v15 ≤ 400 := by rw [← e15]; exact (CI.r hC_M k14.2 (by decide) x)
      refine jr.iald (i := x) (x := v15) rfl (Nat.lt_trans (kx_20 k14.2).1 (by decide)) (kx_20 k14.2).2 (by decide) (by omega) (by omega) e15 ?_
      obtain ⟨hx0, hkx, hyx, hzx, hN4, hA8, hA20, hA2⟩ := ds_f p0 g_C w1_0 (by omega)
      clear hk0
      refine jr.istore_n (ls' := [_, _, _, _]) rfl (by decide) rfl ?_
      refine jr.iload_n rfl rfl ?_
      refine jr.iconst rfl ?_
      refine jr.icmp_ne rfl rfl (by omega) (by omega) (fun h29 => ?_) (fun h29 => ?_)
      · refine jr.aload_n rfl rfl ?_
        obtain ⟨v16, e16⟩ : ∃ z_, M t 7 = z_ := ⟨_, rfl⟩
        have b16 : 0 ≤ v16 ∧ v16 ≤ 597 := by rw [← e16]; exact (CI.r hC_M k_t (by decide) 7)
        have k17 : kd (v16).toNat = 33 := ((congrArg (fun z : Int => kd z.toNat) (show M t 7 = v16 from e16)).symm.trans (CI.x hC_M k_t 7 rfl (by decide)))
        refine jr.getf (i := 7) (x := v16) (v := .ref (v16.toNat)) rfl rfl (Nat.lt_trans (kx_18 k_t).1 (by decide)) (kx_18 k_t).2 (by decide) rfl rfl e16 (jval_mut rfl (kn_18_7 k_t)) ?_
        obtain ⟨v18, e18⟩ : ∃ z_, M ((v16.toNat)) 1 = z_ := ⟨_, rfl⟩
        have b18 : (-1) ≤ v18 ∧ v18 ≤ 400 := by rw [← e18]; exact (CI.r hC_M k17 (by decide) 1)
        refine jr.getf (i := 1) (x := v18) (v := .int (Int32.ofInt (v18))) rfl rfl (Nat.lt_trans (kx_33 k17).1 (by decide)) (kx_33 k17).2 (by decide) rfl rfl e18 rfl ?_
        refine jr.istore (ls' := [_, _, _, _, _]) rfl (by decide) rfl ?_
        refine jr.aload_n rfl rfl ?_
        have k19 : kd (v16).toNat = 33 := ((congrArg (fun z : Int => kd z.toNat) (show M t 7 = v16 from e16)).symm.trans (CI.x hC_M k_t 7 rfl (by decide)))
        refine jr.getf (i := 7) (x := v16) (v := .ref (v16.toNat)) rfl rfl (Nat.lt_trans (kx_18 k_t).1 (by decide)) (kx_18 k_t).2 (by decide) rfl rfl e16 (jval_mut rfl (kn_18_7 k_t)) ?_
        have k20 := kf_33_0 k19
        refine jr.getf (i := 0) (v := .ref ((v16.toNat) + 1)) rfl rfl (Nat.lt_trans (kx_33 k19).1 (by decide)) (kx_33 k19).2 (by decide) rfl rfl rfl (jval_ref rfl k20.1) ?_
        refine jr.iload_n rfl rfl ?_
        refine jr.iload rfl rfl ?_
        have hnl : v18 = N := (by have hq := p0.2.1; rw [e16, e18] at hq; exact hq)
        refine jr_s rfl rfl (Or.inr rfl) ⟨Nat.le_of_ble_eq_true rfl, Nat.le_of_ble_eq_true rfl⟩ rfl rfl (jc.deep (c_PacketWall_addedTwos_pw hC_M k20.2 (by omega) (by omega) (by omega) (by have hq := p0.1; rw [e16] at hq; exact hq) (fun r21 z21 w21_0 => ?_)) (by decide))
        refine jr.aload_n rfl rfl ?_
        have k22 : kd (v16).toNat = 33 := ((congrArg (fun z : Int => kd z.toNat) (show M t 7 = v16 from e16)).symm.trans (CI.x hC_M k_t 7 rfl (by decide)))
        refine jr.getf (i := 7) (x := v16) (v := .ref (v16.toNat)) rfl rfl (Nat.lt_trans (kx_18 k_t).1 (by decide)) (kx_18 k_t).2 (by decide) rfl rfl e16 (jval_mut rfl (kn_18_7 k_t)) ?_
        refine jr.iload_n rfl rfl ?_
        refine jr.iload_n rfl rfl ?_
        refine jr_s rfl rfl (Or.inl rfl) ⟨Nat.le_of_ble_eq_true rfl, Nat.le_of_ble_eq_true rfl⟩ rfl rfl (jc.deep (c_Headers_sumOffset_x hC_M (by omega) (fun r23 z23 w23_0 => ?_)) (by decide))
        obtain ⟨hD, hD1, hD2, hD3, hD4⟩ := dS0_e (f := f) (f1 := f1) (N := N) (x := x) (un := v18) hkx (show hY f N x = v15 from by omega) (by omega) (by omega) (by omega) (by omega) (by omega) (fun i h0 h1 => (p0.1 i h0 h1).2)
        rw [← w23_0] at hD hD2 hD3 hD4
        refine jr.iadd rfl ?_
        refine jr.iconst rfl ?_
        refine jr_v rfl rfl (Or.inl rfl) rfl rfl (Nat.lt_trans (kx_33 k22).1 (by decide)) (kx_33 k22).2 ⟨rfl, Nat.le_of_ble_eq_true rfl, Nat.le_of_ble_eq_true rfl⟩ rfl (jc.deep (c_Packet_numberFrom_h hC_M k22 (by omega) (by have hq := p0.1; rw [e16] at hq; exact hq) (fun r24 z24 w24_0 => ?_)) (by decide))
        rw [← w21_0, ← w24_0.1] at hD
        refine jr.lsub rfl ?_
        refine jr.lstore (ls' := [_, _, _, _, _, _]) rfl (by decide) rfl ?_
        refine jr.iload_n rfl rfl ?_
        refine jr.bipush rfl (by decide) ?_
        refine jr.icmp_eq rfl rfl (by omega) (by omega) (fun h82 => ?_) (fun h82 => ?_)
        · refine jr.aload_n rfl rfl ?_
          refine jr.iload_n rfl rfl ?_
          refine jr_v rfl rfl (Or.inl rfl) rfl rfl (Nat.lt_trans (kx_18 k_t).1 (by decide)) (kx_18 k_t).2 ⟨rfl, Nat.le_of_ble_eq_true rfl, Nat.le_of_ble_eq_true rfl⟩ rfl (jc.deep (c_Headers_nearestNet_x hC_M k_t (by omega) g_C (fun i h0 h1 => (p0.2.2.2.1.2.1 i h0 (by omega)).2.1) (by omega) (fun r25 z25 w25_0 => ?_)) (by decide))
          have hnd := fun h => nxD_p (n := r25) hx0 w25_0 h
          refine jr.istore (ls' := [_, _, _, _, _, _, _]) rfl (by decide) rfl ?_
          refine jr.iload rfl rfl ?_
          refine jr.iconst rfl ?_
          refine jr.icmp_ne rfl rfl (by omega) (by omega) (fun h101 => ?_) (fun h101 => ?_)
          · have sx101 : (0 : Int) ≤ r25 := by omega
            clear h101
            refine jr.lload rfl rfl ?_
            refine jr.aload_n rfl rfl ?_
            refine jr.iload rfl rfl ?_
            obtain ⟨hn1, hn2⟩ := hnd (by omega)
            refine jr_v rfl rfl (Or.inl rfl) rfl rfl (Nat.lt_trans (kx_18 k_t).1 (by decide)) (kx_18 k_t).2 ⟨rfl, Nat.le_of_ble_eq_true rfl, Nat.le_of_ble_eq_true rfl⟩ rfl (jc.deep (c_Headers_addressTwos_x hC_M k_t (by omega) g_C p0 hn1.2 hn2 (fun r26 z26 w26_0 => ?_)) (by decide))
            refine jr.iload rfl rfl ?_
            refine jr.iload_n rfl rfl ?_
            refine jr.isub rfl ?_
            refine jr.i2l rfl (by omega) ?_
            refine jr.ladd rfl ?_
            refine jr.iload_n rfl rfl ?_
            refine jr.bipush rfl (by decide) ?_
            refine jr.icmp_ne rfl rfl (by omega) (by omega) (fun h123 => ?_) (fun h123 => ?_)
            · exact absurd h123 (by omega)
            · refine jr.bipush rfl (by decide) ?_
              refine jr.goto rfl rfl ?_
              refine jr.i2l rfl (by omega) ?_
              refine jr.ladd rfl ?_
              refine jr.ladd rfl ?_
              refine jr.lstore (ls' := [_, _, _, _, _, _, _]) rfl (by decide) rfl ?_
              refine jr.lload rfl rfl ?_
              refine jr_s rfl rfl (Or.inr rfl) ⟨Nat.le_of_ble_eq_true rfl, Nat.le_of_ble_eq_true rfl⟩ rfl rfl (jc.deep (c_PacketWall_foldedSum_x hC_M (by omega) (fun r27 z27 w27_0 => ?_)) (by decide))
              skip
              refine jr.istore (ls' := [_, _, _, _, _, _, _]) rfl (by decide) rfl ?_
              refine jr.iload_n rfl rfl ?_
              refine jr.bipush rfl (by decide) ?_
              refine jr.icmp_ne rfl rfl (by omega) (by omega) (fun h148 => ?_) (fun h148 => ?_)
              · refine jr.iload rfl rfl ?_
                exact jr.ireturn rfl rfl rfl (q _ (by omega) (by have hka : kA f N C x = r1 := w1_0.symm; first | (unfold dS; rw [hka, if_neg (by omega), if_pos (by omega), ← w25_0, if_neg (by omega), ← w26_0, show hY f N x = v15 from by omega, hD, show N = v18 from by omega, if_pos (by omega), ← w27_0]; unfold dsu; first | (rw [if_pos (by omega)]) | (rw [if_neg (by omega)])) | (unfold dS; rw [hka, if_neg (by omega), if_pos (by omega), ← w25_0, if_neg (by omega), ← w26_0, show hY f N x = v15 from by omega, hD, show N = v18 from by omega, if_neg (by omega), ← w27_0]; unfold dsu; first | (rw [if_pos (by omega)]) | (rw [if_neg (by omega)])) | (exfalso; omega)))
              · exact absurd (by omega) h148
          · refine jr.iconst rfl ?_
            exact jr.ireturn rfl rfl rfl (q _ (by omega) (by have hka : kA f N C x = r1 := w1_0.symm; unfold dS; rw [hka, if_neg (by omega), if_pos (by omega), if_pos (by omega)]))
        · refine jr.iload_n rfl rfl ?_
          refine jr.bipush rfl (by decide) ?_
          refine jr.icmp_ne rfl rfl (by omega) (by omega) (fun h88 => ?_) (fun h88 => ?_)
          · have sx88 : r1 ≤ (8 : Int) := by omega
            clear h88
            refine jr.lload rfl rfl ?_
            refine jr_s rfl rfl (Or.inr rfl) ⟨Nat.le_of_ble_eq_true rfl, Nat.le_of_ble_eq_true rfl⟩ rfl rfl (jc.deep (c_PacketWall_foldedSum_x hC_M (by omega) (fun r28 z28 w28_0 => ?_)) (by decide))
            skip
            refine jr.istore (ls' := [_, _, _, _, _, _, _]) rfl (by decide) rfl ?_
            refine jr.iload_n rfl rfl ?_
            refine jr.bipush rfl (by decide) ?_
            refine jr.icmp_ne rfl rfl (by omega) (by omega) (fun h148 => ?_) (fun h148 => ?_)
            · refine jr.iload rfl rfl ?_
              exact jr.ireturn rfl rfl rfl (q _ (by omega) (by have hka : kA f N C x = r1 := w1_0.symm; first | (unfold dS; rw [hka, if_pos (by omega), hD, ← w28_0]; done) | (unfold dS; rw [hka, if_pos (by omega), hD, ← w28_0]; omega) | (exfalso; omega)))
            · exact absurd (by omega) h148
          · refine jr.aload_n rfl rfl ?_
            refine jr.iload_n rfl rfl ?_
            refine jr_v rfl rfl (Or.inl rfl) rfl rfl (Nat.lt_trans (kx_18 k_t).1 (by decide)) (kx_18 k_t).2 ⟨rfl, Nat.le_of_ble_eq_true rfl, Nat.le_of_ble_eq_true rfl⟩ rfl (jc.deep (c_Headers_nearestNet_x hC_M k_t (by omega) g_C (fun i h0 h1 => (p0.2.2.2.1.2.1 i h0 (by omega)).2.1) (by omega) (fun r29 z29 w29_0 => ?_)) (by decide))
            have hnd := fun h => nxD_p (n := r29) hx0 w29_0 h
            refine jr.istore (ls' := [_, _, _, _, _, _, _]) rfl (by decide) rfl ?_
            refine jr.iload rfl rfl ?_
            refine jr.iconst rfl ?_
            refine jr.icmp_ne rfl rfl (by omega) (by omega) (fun h101 => ?_) (fun h101 => ?_)
            · have sx101 : (0 : Int) ≤ r29 := by omega
              clear h101
              refine jr.lload rfl rfl ?_
              refine jr.aload_n rfl rfl ?_
              refine jr.iload rfl rfl ?_
              obtain ⟨hn1, hn2⟩ := hnd (by omega)
              refine jr_v rfl rfl (Or.inl rfl) rfl rfl (Nat.lt_trans (kx_18 k_t).1 (by decide)) (kx_18 k_t).2 ⟨rfl, Nat.le_of_ble_eq_true rfl, Nat.le_of_ble_eq_true rfl⟩ rfl (jc.deep (c_Headers_addressTwos_x hC_M k_t (by omega) g_C p0 hn1.2 hn2 (fun r30 z30 w30_0 => ?_)) (by decide))
              refine jr.iload rfl rfl ?_
              refine jr.iload_n rfl rfl ?_
              refine jr.isub rfl ?_
              refine jr.i2l rfl (by omega) ?_
              refine jr.ladd rfl ?_
              refine jr.iload_n rfl rfl ?_
              refine jr.bipush rfl (by decide) ?_
              refine jr.icmp_ne rfl rfl (by omega) (by omega) (fun h123 => ?_) (fun h123 => ?_)
              · refine jr.bipush rfl (by decide) ?_
                refine jr.i2l rfl (by omega) ?_
                refine jr.ladd rfl ?_
                refine jr.ladd rfl ?_
                refine jr.lstore (ls' := [_, _, _, _, _, _, _]) rfl (by decide) rfl ?_
                refine jr.lload rfl rfl ?_
                refine jr_s rfl rfl (Or.inr rfl) ⟨Nat.le_of_ble_eq_true rfl, Nat.le_of_ble_eq_true rfl⟩ rfl rfl (jc.deep (c_PacketWall_foldedSum_x hC_M (by omega) (fun r31 z31 w31_0 => ?_)) (by decide))
                skip
                refine jr.istore (ls' := [_, _, _, _, _, _, _]) rfl (by decide) rfl ?_
                refine jr.iload_n rfl rfl ?_
                refine jr.bipush rfl (by decide) ?_
                refine jr.icmp_ne rfl rfl (by omega) (by omega) (fun h148 => ?_) (fun h148 => ?_)
                · exact absurd h148 (by omega)
                · refine jr.iload rfl rfl ?_
                  refine jr.if_ne rfl rfl (by omega) (fun h153 => ?_) (fun h153 => ?_)
                  · have sx153 : (1 : Int) ≤ r31 := by omega
                    clear h153
                    refine jr.iload rfl rfl ?_
                    exact jr.ireturn rfl rfl rfl (q _ (by omega) (by have hka : kA f N C x = r1 := w1_0.symm; first | (unfold dS; rw [hka, if_neg (by omega), if_pos (by omega), ← w29_0, if_neg (by omega), ← w30_0, show hY f N x = v15 from by omega, hD, show N = v18 from by omega, if_pos (by omega), ← w31_0]; unfold dsu; first | (rw [if_pos (by omega)]) | (rw [if_neg (by omega)])) | (unfold dS; rw [hka, if_neg (by omega), if_pos (by omega), ← w29_0, if_neg (by omega), ← w30_0, show hY f N x = v15 from by omega, hD, show N = v18 from by omega, if_neg (by omega), ← w31_0]; unfold dsu; first | (rw [if_pos (by omega)]) | (rw [if_neg (by omega)])) | (exfalso; omega)))
                  · refine jr.ldc (x := 65535) rfl rfl (by decide) ?_
                    refine jr.goto rfl rfl ?_
                    exact jr.ireturn rfl rfl rfl (q _ (by omega) (by have hka : kA f N C x = r1 := w1_0.symm; first | (unfold dS; rw [hka, if_neg (by omega), if_pos (by omega), ← w29_0, if_neg (by omega), ← w30_0, show hY f N x = v15 from by omega, hD, show N = v18 from by omega, if_pos (by omega), ← w31_0]; unfold dsu; first | (rw [if_pos (by omega)]) | (rw [if_neg (by omega)])) | (unfold dS; rw [hka, if_neg (by omega), if_pos (by omega), ← w29_0, if_neg (by omega), ← w30_0, show hY f N x = v15 from by omega, hD, show N = v18 from by omega, if_neg (by omega), ← w31_0]; unfold dsu; first | (rw [if_pos (by omega)]) | (rw [if_neg (by omega)])) | (exfalso; omega)))
              · exact absurd (by omega) h123
            · refine jr.iconst rfl ?_
              exact jr.ireturn rfl rfl rfl (q _ (by omega) (by have hka : kA f N C x = r1 := w1_0.symm; unfold dS; rw [hka, if_neg (by omega), if_pos (by omega), if_pos (by omega)]))
      · exact absurd (by omega) h29
    · refine jr.iconst rfl ?_
      exact jr.ireturn rfl rfl rfl (q _ (by omega) (by have hka : kA f N C x = r1 := w1_0.symm; unfold dS; rw [hka, if_neg (by omega), if_neg (by omega)]))
end
section
end
