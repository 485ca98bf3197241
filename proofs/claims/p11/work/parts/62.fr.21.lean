section
theorem c_Headers_toldKind_x {A : Nat → Option (Nat × (Nat → Int32))} {Q : Option Value → jm → Prop} {f : Int → Int} {M : jm} (hC_M : CI M) {t : Nat} (k_t : kd t = 18) {x : Int} (h_x : 0 ≤ x ∧ x ≤ 11) {y : Int} (h_y : 0 ≤ y ∧ y ≤ 400) {z : Int} (h_z : 0 ≤ z ∧ z ≤ 400) {S : Int} (g_S : M t 7 = S) {N : Int} (g_N : M ((S.toNat)) 1 = N) (p0 : BY8 M (S.toNat + 1) f) (p1 : y + hls x ≤ N) (q : ∀ (r : Int), 0 ≤ r ∧ r ≤ 11 → (r = hsN f N x y z) → Q (some (.int (Int32.ofInt r))) M) : jc A 3 133 [.ref (t), .int (Int32.ofInt (x)), .int (Int32.ofInt (y)), .int (Int32.ofInt (z))] M Q := by
  refine jc_of (m := xm_133) rfl (Nat.le_of_ble_eq_true rfl) rfl ?_
  have k_S : kd S.toNat = 33 := (congrArg (fun z : Int => kd z.toNat) g_S).symm.trans (CI.x hC_M k_t 7 rfl (by decide))
  have b_N : (-1) ≤ N ∧ N ≤ 400 := by rw [← g_N]; exact (CI.r hC_M k_S (by decide) 1)
  have k_by : kd (S.toNat + 1) = 34 := (kf_33_0 k_S).2
  have hw := hls_w x
  refine jr.iload_n rfl rfl ?_
  rcases (show x = 0 ∨ x = 1 ∨ x = 2 ∨ x = 3 ∨ x = 4 ∨ x = 5 ∨ x = 6 ∨ x = 7 ∨ x = 8 ∨ x = 9 ∨ x = 10 ∨ (x ≠ 0 ∧ x ≠ 1 ∧ x ≠ 2 ∧ x ≠ 3 ∧ x ≠ 4 ∧ x ≠ 5 ∧ x ≠ 6 ∧ x ≠ 7 ∧ x ≠ 8 ∧ x ≠ 9 ∧ x ≠ 10) by omega) with h1 | h1 | h1 | h1 | h1 | h1 | h1 | h1 | h1 | h1 | h1 | h1
  · refine jr.tsw_k 0 rfl h1 rfl ?_
    refine jr.aload_n rfl rfl ?_
    refine jr.getf (i := 7) (x := S) (v := .ref (S.toNat)) rfl rfl (Nat.lt_trans (kx_18 k_t).1 (by decide)) (kx_18 k_t).2 (by decide) rfl rfl g_S (jval_mut rfl (kn_18_7 k_t)) ?_
    refine jr.iload_n rfl rfl ?_
    refine jr.iconst rfl ?_
    refine jr.iadd rfl ?_
    refine jr.iconst rfl ?_
    refine jr_v rfl rfl (Or.inl rfl) rfl rfl (Nat.lt_trans (kx_33 k_S).1 (by decide)) (kx_33 k_S).2 ⟨rfl, Nat.le_of_ble_eq_true rfl, Nat.le_of_ble_eq_true rfl⟩ rfl (jc.deep (c_Packet_numberFrom_h hC_M k_S (by omega) p0 (fun r2 z2 w2_0 => ?_)) (by decide))
    refine jr.l2i rfl ?_
    refine jr_s rfl rfl (Or.inl rfl) ⟨Nat.le_of_ble_eq_true rfl, Nat.le_of_ble_eq_true rfl⟩ rfl rfl (jc.deep (c_Headers_kindOfLink_x hC_M (by omega) (fun r3 z3 w3_0 => ?_)) (by decide))
    exact jr.ireturn rfl rfl rfl (q _ (by omega) (by unfold hsN; rw [if_pos (by omega)]; rw [← w2_0.1]; exact w3_0))
  · refine jr.tsw_k 1 rfl h1 rfl ?_
    refine jr.aload_n rfl rfl ?_
    refine jr.getf (i := 7) (x := S) (v := .ref (S.toNat)) rfl rfl (Nat.lt_trans (kx_18 k_t).1 (by decide)) (kx_18 k_t).2 (by decide) rfl rfl g_S (jval_mut rfl (kn_18_7 k_t)) ?_
    refine jr.iload_n rfl rfl ?_
    refine jr.iconst rfl ?_
    refine jr.iadd rfl ?_
    refine jr.iconst rfl ?_
    refine jr_v rfl rfl (Or.inl rfl) rfl rfl (Nat.lt_trans (kx_33 k_S).1 (by decide)) (kx_33 k_S).2 ⟨rfl, Nat.le_of_ble_eq_true rfl, Nat.le_of_ble_eq_true rfl⟩ rfl (jc.deep (c_Packet_numberFrom_h hC_M k_S (by omega) p0 (fun r5 z5 w5_0 => ?_)) (by decide))
    refine jr.l2i rfl ?_
    refine jr_s rfl rfl (Or.inl rfl) ⟨Nat.le_of_ble_eq_true rfl, Nat.le_of_ble_eq_true rfl⟩ rfl rfl (jc.deep (c_Headers_kindOfLink_x hC_M (by omega) (fun r6 z6 w6_0 => ?_)) (by decide))
    exact jr.ireturn rfl rfl rfl (q _ (by omega) (by unfold hsN; rw [if_pos (by omega)]; rw [← w5_0.1]; exact w6_0))
  · refine jr.tsw_k 2 rfl h1 rfl ?_
    refine jr.aload_n rfl rfl ?_
    refine jr.getf (i := 7) (x := S) (v := .ref (S.toNat)) rfl rfl (Nat.lt_trans (kx_18 k_t).1 (by decide)) (kx_18 k_t).2 (by decide) rfl rfl g_S (jval_mut rfl (kn_18_7 k_t)) ?_
    refine jr.iload_n rfl rfl ?_
    refine jr.bipush rfl (by decide) ?_
    refine jr.iadd rfl ?_
    refine jr.iconst rfl ?_
    refine jr_v rfl rfl (Or.inl rfl) rfl rfl (Nat.lt_trans (kx_33 k_S).1 (by decide)) (kx_33 k_S).2 ⟨rfl, Nat.le_of_ble_eq_true rfl, Nat.le_of_ble_eq_true rfl⟩ rfl (jc.deep (c_Packet_numberFrom_h hC_M k_S (by omega) p0 (fun r8 z8 w8_0 => ?_)) (by decide))
    refine jr.ldc2 (x := 8191) rfl rfl (by decide) ?_
    refine jr.land rfl ?_
    have b9 : jl_and r8 8191 = r8 % 8192 := jl_and_mask 13 (by decide) (by omega) (by omega)
    generalize jl_and r8 8191 = v9 at b9 ⊢
    refine jr.lconst (x := 0) rfl (by decide) ?_
    refine jr.lcmp_eq rfl rfl rfl (by omega) (by omega) (fun h93 => ?_) (fun h93 => ?_)
    · refine jr.aload_n rfl rfl ?_
      refine jr.getf (i := 7) (x := S) (v := .ref (S.toNat)) rfl rfl (Nat.lt_trans (kx_18 k_t).1 (by decide)) (kx_18 k_t).2 (by decide) rfl rfl g_S (jval_mut rfl (kn_18_7 k_t)) ?_
      refine jr.iload_n rfl rfl ?_
      refine jr.bipush rfl (by decide) ?_
      refine jr.iadd rfl ?_
      refine jr_v rfl rfl (Or.inl rfl) rfl rfl (Nat.lt_trans (kx_33 k_S).1 (by decide)) (kx_33 k_S).2 ⟨rfl, Nat.le_of_ble_eq_true rfl, Nat.le_of_ble_eq_true rfl⟩ rfl (jc.deep (c_Packet_byteAt_h hC_M k_S (by omega) g_N p0 (fun r11 z11 w11_0 => ?_)) (by decide))
      refine jr.iconst rfl ?_
      refine jr_s rfl rfl (Or.inl rfl) ⟨Nat.le_of_ble_eq_true rfl, Nat.le_of_ble_eq_true rfl⟩ rfl rfl (jc.deep (c_Headers_kindOfNext_x hC_M (by omega) (by omega) (fun r12 z12 w12_0 => ?_)) (by decide))
      exact jr.ireturn rfl rfl rfl (q _ (by omega) (by unfold hsN; rw [if_neg (by omega), if_pos (by omega)]; rw [if_neg (by omega), ← w11_0.1]; exact w12_0))
    · refine jr.bipush rfl (by decide) ?_
      refine jr.goto rfl rfl ?_
      exact jr.ireturn rfl rfl rfl (q _ (by omega) (by unfold hsN; rw [if_neg (by omega), if_pos (by omega)]; rw [if_pos (by omega)]))
  · refine jr.tsw_k 3 rfl h1 rfl ?_
    refine jr.aload_n rfl rfl ?_
    refine jr.getf (i := 7) (x := S) (v := .ref (S.toNat)) rfl rfl (Nat.lt_trans (kx_18 k_t).1 (by decide)) (kx_18 k_t).2 (by decide) rfl rfl g_S (jval_mut rfl (kn_18_7 k_t)) ?_
    refine jr.iload_n rfl rfl ?_
    refine jr.iconst rfl ?_
    refine jr.iadd rfl ?_
    refine jr_v rfl rfl (Or.inl rfl) rfl rfl (Nat.lt_trans (kx_33 k_S).1 (by decide)) (kx_33 k_S).2 ⟨rfl, Nat.le_of_ble_eq_true rfl, Nat.le_of_ble_eq_true rfl⟩ rfl (jc.deep (c_Packet_byteAt_h hC_M k_S (by omega) g_N p0 (fun r14 z14 w14_0 => ?_)) (by decide))
    refine jr.iconst rfl ?_
    refine jr_s rfl rfl (Or.inl rfl) ⟨Nat.le_of_ble_eq_true rfl, Nat.le_of_ble_eq_true rfl⟩ rfl rfl (jc.deep (c_Headers_kindOfNext_x hC_M (by omega) (by omega) (fun r15 z15 w15_0 => ?_)) (by decide))
    exact jr.ireturn rfl rfl rfl (q _ (by omega) (by unfold hsN; rw [if_neg (by omega), if_neg (by omega), if_pos (by omega)]; rw [← w14_0.1]; exact w15_0))
  · refine jr.tsw_k 4 rfl h1 rfl ?_
    refine jr.aload_n rfl rfl ?_
    refine jr.getf (i := 7) (x := S) (v := .ref (S.toNat)) rfl rfl (Nat.lt_trans (kx_18 k_t).1 (by decide)) (kx_18 k_t).2 (by decide) rfl rfl g_S (jval_mut rfl (kn_18_7 k_t)) ?_
    refine jr.iload_n rfl rfl ?_
    refine jr_v rfl rfl (Or.inl rfl) rfl rfl (Nat.lt_trans (kx_33 k_S).1 (by decide)) (kx_33 k_S).2 ⟨rfl, Nat.le_of_ble_eq_true rfl, Nat.le_of_ble_eq_true rfl⟩ rfl (jc.deep (c_Packet_byteAt_h hC_M k_S (by omega) g_N p0 (fun r17 z17 w17_0 => ?_)) (by decide))
    refine jr.iconst rfl ?_
    refine jr_s rfl rfl (Or.inl rfl) ⟨Nat.le_of_ble_eq_true rfl, Nat.le_of_ble_eq_true rfl⟩ rfl rfl (jc.deep (c_Headers_kindOfNext_x hC_M (by omega) (by omega) (fun r18 z18 w18_0 => ?_)) (by decide))
    exact jr.ireturn rfl rfl rfl (q _ (by omega) (by unfold hsN; rw [if_neg (by omega), if_neg (by omega), if_neg (by omega), if_pos (by omega)]; rw [← w17_0.1]; exact w18_0))
  · refine jr.tsw_k 5 rfl h1 rfl ?_
    refine jr.aload_n rfl rfl ?_
    refine jr.getf (i := 7) (x := S) (v := .ref (S.toNat)) rfl rfl (Nat.lt_trans (kx_18 k_t).1 (by decide)) (kx_18 k_t).2 (by decide) rfl rfl g_S (jval_mut rfl (kn_18_7 k_t)) ?_
    refine jr.iload_n rfl rfl ?_
    refine jr_v rfl rfl (Or.inl rfl) rfl rfl (Nat.lt_trans (kx_33 k_S).1 (by decide)) (kx_33 k_S).2 ⟨rfl, Nat.le_of_ble_eq_true rfl, Nat.le_of_ble_eq_true rfl⟩ rfl (jc.deep (c_Packet_byteAt_h hC_M k_S (by omega) g_N p0 (fun r20 z20 w20_0 => ?_)) (by decide))
    refine jr.iconst rfl ?_
    refine jr_s rfl rfl (Or.inl rfl) ⟨Nat.le_of_ble_eq_true rfl, Nat.le_of_ble_eq_true rfl⟩ rfl rfl (jc.deep (c_Headers_kindOfNext_x hC_M (by omega) (by omega) (fun r21 z21 w21_0 => ?_)) (by decide))
    exact jr.ireturn rfl rfl rfl (q _ (by omega) (by unfold hsN; rw [if_neg (by omega), if_neg (by omega), if_neg (by omega), if_pos (by omega)]; rw [← w20_0.1]; exact w21_0))
  · refine jr.tsw_k 6 rfl h1 rfl ?_
    refine jr.aload_n rfl rfl ?_
    refine jr.getf (i := 7) (x := S) (v := .ref (S.toNat)) rfl rfl (Nat.lt_trans (kx_18 k_t).1 (by decide)) (kx_18 k_t).2 (by decide) rfl rfl g_S (jval_mut rfl (kn_18_7 k_t)) ?_
    refine jr.iload_n rfl rfl ?_
    refine jr.iconst rfl ?_
    refine jr.iadd rfl ?_
    refine jr.iconst rfl ?_
    refine jr_v rfl rfl (Or.inl rfl) rfl rfl (Nat.lt_trans (kx_33 k_S).1 (by decide)) (kx_33 k_S).2 ⟨rfl, Nat.le_of_ble_eq_true rfl, Nat.le_of_ble_eq_true rfl⟩ rfl (jc.deep (c_Packet_numberFrom_h hC_M k_S (by omega) p0 (fun r23 z23 w23_0 => ?_)) (by decide))
    refine jr.iconst rfl ?_
    refine jr.lshr rfl ?_
    have b24 : jl_shr r23 3 = r23 / 8 := jl_shr_ex 3 (by decide) (by omega) (by omega)
    generalize jl_shr r23 3 = v24 at b24 ⊢
    refine jr.lconst (x := 0) rfl (by decide) ?_
    refine jr.lcmp_eq rfl rfl rfl (by omega) (by omega) (fun h160 => ?_) (fun h160 => ?_)
    · refine jr.aload_n rfl rfl ?_
      refine jr.getf (i := 7) (x := S) (v := .ref (S.toNat)) rfl rfl (Nat.lt_trans (kx_18 k_t).1 (by decide)) (kx_18 k_t).2 (by decide) rfl rfl g_S (jval_mut rfl (kn_18_7 k_t)) ?_
      refine jr.iload_n rfl rfl ?_
      refine jr_v rfl rfl (Or.inl rfl) rfl rfl (Nat.lt_trans (kx_33 k_S).1 (by decide)) (kx_33 k_S).2 ⟨rfl, Nat.le_of_ble_eq_true rfl, Nat.le_of_ble_eq_true rfl⟩ rfl (jc.deep (c_Packet_byteAt_h hC_M k_S (by omega) g_N p0 (fun r26 z26 w26_0 => ?_)) (by decide))
      refine jr.iconst rfl ?_
      refine jr_s rfl rfl (Or.inl rfl) ⟨Nat.le_of_ble_eq_true rfl, Nat.le_of_ble_eq_true rfl⟩ rfl rfl (jc.deep (c_Headers_kindOfNext_x hC_M (by omega) (by omega) (fun r27 z27 w27_0 => ?_)) (by decide))
      exact jr.ireturn rfl rfl rfl (q _ (by omega) (by unfold hsN; rw [if_neg (by omega), if_neg (by omega), if_neg (by omega), if_neg (by omega), if_pos (by omega)]; rw [if_neg (by omega), ← w26_0.1]; exact w27_0))
    · refine jr.bipush rfl (by decide) ?_
      refine jr.goto rfl rfl ?_
      exact jr.ireturn rfl rfl rfl (q _ (by omega) (by unfold hsN; rw [if_neg (by omega), if_neg (by omega), if_neg (by omega), if_neg (by omega), if_pos (by omega)]; rw [if_pos (by omega)]))
  · refine jr.tsw_k 7 rfl h1 rfl ?_
    refine jr.aload_n rfl rfl ?_
    refine jr.aload_n rfl rfl ?_
    refine jr.getf (i := 7) (x := S) (v := .ref (S.toNat)) rfl rfl (Nat.lt_trans (kx_18 k_t).1 (by decide)) (kx_18 k_t).2 (by decide) rfl rfl g_S (jval_mut rfl (kn_18_7 k_t)) ?_
    refine jr.iload_n rfl rfl ?_
    refine jr_v rfl rfl (Or.inl rfl) rfl rfl (Nat.lt_trans (kx_33 k_S).1 (by decide)) (kx_33 k_S).2 ⟨rfl, Nat.le_of_ble_eq_true rfl, Nat.le_of_ble_eq_true rfl⟩ rfl (jc.deep (c_Packet_byteAt_h hC_M k_S (by omega) g_N p0 (fun r29 z29 w29_0 => ?_)) (by decide))
    refine jr.iload_n rfl rfl ?_
    have k30_S : kd (S).toNat = 33 := (congrArg (fun z : Int => kd z.toNat) g_S).symm.trans (CI.x hC_M k_t 7 rfl (by decide))
    refine jr_v rfl rfl (Or.inl rfl) rfl rfl (Nat.lt_trans (kx_18 k_t).1 (by decide)) (kx_18 k_t).2 ⟨rfl, Nat.le_of_ble_eq_true rfl, Nat.le_of_ble_eq_true rfl⟩ rfl (jc.deep (c_Headers_quotedKind_x hC_M k_t (by omega) (by omega) g_S g_N p0 (fun r30 z30 w30_0 => ?_)) (by decide))
    exact jr.ireturn rfl rfl rfl (q _ (by omega) (by unfold hsN; rw [if_neg (by omega), if_neg (by omega), if_neg (by omega), if_neg (by omega), if_neg (by omega), if_pos (by omega)]; rw [← w29_0.1]; exact w30_0))
  · refine jr.tsw_k 8 rfl h1 rfl ?_
    refine jr.bipush rfl (by decide) ?_
    exact jr.ireturn rfl rfl rfl (q _ (by omega) (by unfold hsN; rw [if_neg (by omega), if_neg (by omega), if_neg (by omega), if_neg (by omega), if_neg (by omega), if_neg (by omega)]))
  · refine jr.tsw_k 9 rfl h1 rfl ?_
    refine jr.bipush rfl (by decide) ?_
    exact jr.ireturn rfl rfl rfl (q _ (by omega) (by unfold hsN; rw [if_neg (by omega), if_neg (by omega), if_neg (by omega), if_neg (by omega), if_neg (by omega), if_neg (by omega)]))
  · refine jr.tsw_k 10 rfl h1 rfl ?_
    refine jr.aload_n rfl rfl ?_
    have k31 : kd (S).toNat = 33 := ((congrArg (fun z : Int => kd z.toNat) (show M t 7 = S from g_S)).symm.trans (CI.x hC_M k_t 7 rfl (by decide)))
    refine jr.getf (i := 7) (x := S) (v := .ref (S.toNat)) rfl rfl (Nat.lt_trans (kx_18 k_t).1 (by decide)) (kx_18 k_t).2 (by decide) rfl rfl g_S (jval_mut rfl (kn_18_7 k_t)) ?_
    refine jr.iload_n rfl rfl ?_
    refine jr.iconst rfl ?_
    refine jr.iadd rfl ?_
    refine jr.iconst rfl ?_
    refine jr_v rfl rfl (Or.inl rfl) rfl rfl (Nat.lt_trans (kx_33 k31).1 (by decide)) (kx_33 k31).2 ⟨rfl, Nat.le_of_ble_eq_true rfl, Nat.le_of_ble_eq_true rfl⟩ rfl (jc.deep (c_Packet_numberFrom_h hC_M k31 (by omega) p0 (fun r32 z32 w32_0 => ?_)) (by decide))
    refine jr.l2i rfl ?_
    refine jr_s rfl rfl (Or.inl rfl) ⟨Nat.le_of_ble_eq_true rfl, Nat.le_of_ble_eq_true rfl⟩ rfl rfl (jc.deep (c_Headers_kindOfLink_x hC_M (by omega) (fun r33 z33 w33_0 => ?_)) (by decide))
    exact jr.ireturn rfl rfl rfl (q _ (by omega) (by unfold hsN; rw [if_pos (by omega)]; rw [← w32_0.1]; exact w33_0))
  · refine jr.tsw_d rfl (by omega) (by omega) rfl ?_
    refine jr.bipush rfl (by decide) ?_
    exact jr.ireturn rfl rfl rfl (q _ (by omega) (by unfold hsN; rw [if_neg (by omega), if_neg (by omega), if_neg (by omega), if_neg (by omega), if_neg (by omega), if_neg (by omega)]))
end
