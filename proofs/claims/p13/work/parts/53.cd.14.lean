theorem c_Headers_toldKind {A : Nat → Option (Nat × (Nat → Int32))} {Q : Option Value → jm → Prop} {M : jm} (hC_M : CI M) {t : Nat} (k_t : kd t = 18) {x : Int} (h_x : 0 ≤ x ∧ x ≤ 11) {y : Int} (h_y : 0 ≤ y ∧ y ≤ 400) {z : Int} (h_z : 0 ≤ z ∧ z ≤ 400) (q : ∀ (r : Int), 0 ≤ r ∧ r ≤ 11 → Q (some (.int (Int32.ofInt r))) M) : jc A 3 133 [.ref (t), .int (Int32.ofInt (x)), .int (Int32.ofInt (y)), .int (Int32.ofInt (z))] M Q := by
  refine jc_of (m := xm_133) rfl (Nat.le_of_ble_eq_true rfl) rfl ?_
  refine jr.iload_n rfl rfl ?_
  rcases (show x = 0 ∨ x = 1 ∨ x = 2 ∨ x = 3 ∨ x = 4 ∨ x = 5 ∨ x = 6 ∨ x = 7 ∨ x = 8 ∨ x = 9 ∨ x = 10 ∨ (x ≠ 0 ∧ x ≠ 1 ∧ x ≠ 2 ∧ x ≠ 3 ∧ x ≠ 4 ∧ x ≠ 5 ∧ x ≠ 6 ∧ x ≠ 7 ∧ x ≠ 8 ∧ x ≠ 9 ∧ x ≠ 10) by omega) with h1 | h1 | h1 | h1 | h1 | h1 | h1 | h1 | h1 | h1 | h1 | h1
  · refine jr.tsw_k 0 rfl h1 rfl ?_
    refine jr.aload_n rfl rfl ?_
    obtain ⟨v1, e1⟩ : ∃ z_, M t 7 = z_ := ⟨_, rfl⟩
    have b1 : 0 ≤ v1 ∧ v1 ≤ 597 := by rw [← e1]; exact (CI.r hC_M k_t (by decide) 7)
    have k2 : kd (v1).toNat = 33 := ((congrArg (fun z : Int => kd z.toNat) (show M t 7 = v1 from e1)).symm.trans (CI.x hC_M k_t 7 rfl (by decide)))
    refine jr.getf (i := 7) (x := v1) (v := .ref (v1.toNat)) rfl rfl (Nat.lt_trans (kx_18 k_t).1 (by decide)) (kx_18 k_t).2 (by decide) rfl rfl e1 (jval_mut rfl (kn_18_7 k_t)) ?_
    refine jr.iload_n rfl rfl ?_
    refine jr.iconst rfl ?_
    refine jr.iadd rfl ?_
    refine jr.iconst rfl ?_
    refine jr_v rfl rfl (Or.inl rfl) rfl rfl (Nat.lt_trans (kx_33 k2).1 (by decide)) (kx_33 k2).2 ⟨rfl, Nat.le_of_ble_eq_true rfl, Nat.le_of_ble_eq_true rfl⟩ rfl (jc.deep (c_Packet_numberFrom hC_M k2 (by omega) (by omega) (fun r3 z3  => ?_)) (by decide))
    refine jr.l2i rfl ?_
    refine jr.iw (j_w r3) (j_w_eq _) ?_
    have b4 : -2147483648 ≤ j_w r3 ∧ j_w r3 ≤ 2147483647 := jb_any _
    generalize j_w r3 = v4 at b4 ⊢
    refine jr_s rfl rfl (Or.inl rfl) ⟨Nat.le_of_ble_eq_true rfl, Nat.le_of_ble_eq_true rfl⟩ rfl rfl (jc.deep (c_Headers_kindOfLink hC_M (by omega) (fun r5 z5  => ?_)) (by decide))
    exact jr.ireturn rfl rfl rfl (q _ (by omega) )
  · refine jr.tsw_k 1 rfl h1 rfl ?_
    refine jr.aload_n rfl rfl ?_
    obtain ⟨v6, e6⟩ : ∃ z_, M t 7 = z_ := ⟨_, rfl⟩
    have b6 : 0 ≤ v6 ∧ v6 ≤ 597 := by rw [← e6]; exact (CI.r hC_M k_t (by decide) 7)
    have k7 : kd (v6).toNat = 33 := ((congrArg (fun z : Int => kd z.toNat) (show M t 7 = v6 from e6)).symm.trans (CI.x hC_M k_t 7 rfl (by decide)))
    refine jr.getf (i := 7) (x := v6) (v := .ref (v6.toNat)) rfl rfl (Nat.lt_trans (kx_18 k_t).1 (by decide)) (kx_18 k_t).2 (by decide) rfl rfl e6 (jval_mut rfl (kn_18_7 k_t)) ?_
    refine jr.iload_n rfl rfl ?_
    refine jr.iconst rfl ?_
    refine jr.iadd rfl ?_
    refine jr.iconst rfl ?_
    refine jr_v rfl rfl (Or.inl rfl) rfl rfl (Nat.lt_trans (kx_33 k7).1 (by decide)) (kx_33 k7).2 ⟨rfl, Nat.le_of_ble_eq_true rfl, Nat.le_of_ble_eq_true rfl⟩ rfl (jc.deep (c_Packet_numberFrom hC_M k7 (by omega) (by omega) (fun r8 z8  => ?_)) (by decide))
    refine jr.l2i rfl ?_
    refine jr.iw (j_w r8) (j_w_eq _) ?_
    have b9 : -2147483648 ≤ j_w r8 ∧ j_w r8 ≤ 2147483647 := jb_any _
    generalize j_w r8 = v9 at b9 ⊢
    refine jr_s rfl rfl (Or.inl rfl) ⟨Nat.le_of_ble_eq_true rfl, Nat.le_of_ble_eq_true rfl⟩ rfl rfl (jc.deep (c_Headers_kindOfLink hC_M (by omega) (fun r10 z10  => ?_)) (by decide))
    exact jr.ireturn rfl rfl rfl (q _ (by omega) )
  · refine jr.tsw_k 2 rfl h1 rfl ?_
    refine jr.aload_n rfl rfl ?_
    obtain ⟨v11, e11⟩ : ∃ z_, M t 7 = z_ := ⟨_, rfl⟩
    have b11 : 0 ≤ v11 ∧ v11 ≤ 597 := by rw [← e11]; exact (CI.r hC_M k_t (by decide) 7)
    have k12 : kd (v11).toNat = 33 := ((congrArg (fun z : Int => kd z.toNat) (show M t 7 = v11 from e11)).symm.trans (CI.x hC_M k_t 7 rfl (by decide)))
    refine jr.getf (i := 7) (x := v11) (v := .ref (v11.toNat)) rfl rfl (Nat.lt_trans (kx_18 k_t).1 (by decide)) (kx_18 k_t).2 (by decide) rfl rfl e11 (jval_mut rfl (kn_18_7 k_t)) ?_
    refine jr.iload_n rfl rfl ?_
    refine jr.bipush rfl (by decide) ?_
    refine jr.iadd rfl ?_
    refine jr.iconst rfl ?_
    refine jr_v rfl rfl (Or.inl rfl) rfl rfl (Nat.lt_trans (kx_33 k12).1 (by decide)) (kx_33 k12).2 ⟨rfl, Nat.le_of_ble_eq_true rfl, Nat.le_of_ble_eq_true rfl⟩ rfl (jc.deep (c_Packet_numberFrom hC_M k12 (by omega) (by omega) (fun r13 z13  => ?_)) (by decide))
    refine jr.ldc2 (x := 8191) rfl rfl (by decide) ?_
    refine jr.land rfl ?_
    have b14 : 0 ≤ jl_and r13 8191 ∧ jl_and r13 8191 ≤ 8191 := jl_and_le (by decide)
    generalize jl_and r13 8191 = v14 at b14 ⊢
    refine jr.lconst (x := 0) rfl (by decide) ?_
    refine jr.lcmp_eq rfl rfl rfl (by omega) (by omega) (fun h93 => ?_) (fun h93 => ?_)
    · refine jr.aload_n rfl rfl ?_
      have k15 : kd (v11).toNat = 33 := ((congrArg (fun z : Int => kd z.toNat) (show M t 7 = v11 from e11)).symm.trans (CI.x hC_M k_t 7 rfl (by decide)))
      refine jr.getf (i := 7) (x := v11) (v := .ref (v11.toNat)) rfl rfl (Nat.lt_trans (kx_18 k_t).1 (by decide)) (kx_18 k_t).2 (by decide) rfl rfl e11 (jval_mut rfl (kn_18_7 k_t)) ?_
      refine jr.iload_n rfl rfl ?_
      refine jr.bipush rfl (by decide) ?_
      refine jr.iadd rfl ?_
      refine jr_v rfl rfl (Or.inl rfl) rfl rfl (Nat.lt_trans (kx_33 k15).1 (by decide)) (kx_33 k15).2 ⟨rfl, Nat.le_of_ble_eq_true rfl, Nat.le_of_ble_eq_true rfl⟩ rfl (jc.deep (c_Packet_byteAt hC_M k15 (by omega) (fun r16 z16  => ?_)) (by decide))
      refine jr.iconst rfl ?_
      refine jr_s rfl rfl (Or.inl rfl) ⟨Nat.le_of_ble_eq_true rfl, Nat.le_of_ble_eq_true rfl⟩ rfl rfl (jc.deep (c_Headers_kindOfNext hC_M (by omega) (by omega) (fun r17 z17  => ?_)) (by decide))
      exact jr.ireturn rfl rfl rfl (q _ (by omega) )
    · refine jr.bipush rfl (by decide) ?_
      refine jr.goto rfl rfl ?_
      exact jr.ireturn rfl rfl rfl (q _ (by omega) )
  · refine jr.tsw_k 3 rfl h1 rfl ?_
    refine jr.aload_n rfl rfl ?_
    obtain ⟨v18, e18⟩ : ∃ z_, M t 7 = z_ := ⟨_, rfl⟩
    have b18 : 0 ≤ v18 ∧ v18 ≤ 597 := by rw [← e18]; exact (CI.r hC_M k_t (by decide) 7)
    have k19 : kd (v18).toNat = 33 := ((congrArg (fun z : Int => kd z.toNat) (show M t 7 = v18 from e18)).symm.trans (CI.x hC_M k_t 7 rfl (by decide)))
    refine jr.getf (i := 7) (x := v18) (v := .ref (v18.toNat)) rfl rfl (Nat.lt_trans (kx_18 k_t).1 (by decide)) (kx_18 k_t).2 (by decide) rfl rfl e18 (jval_mut rfl (kn_18_7 k_t)) ?_
    refine jr.iload_n rfl rfl ?_
    refine jr.iconst rfl ?_
    refine jr.iadd rfl ?_
    refine jr_v rfl rfl (Or.inl rfl) rfl rfl (Nat.lt_trans (kx_33 k19).1 (by decide)) (kx_33 k19).2 ⟨rfl, Nat.le_of_ble_eq_true rfl, Nat.le_of_ble_eq_true rfl⟩ rfl (jc.deep (c_Packet_byteAt hC_M k19 (by omega) (fun r20 z20  => ?_)) (by decide))
    refine jr.iconst rfl ?_
    refine jr_s rfl rfl (Or.inl rfl) ⟨Nat.le_of_ble_eq_true rfl, Nat.le_of_ble_eq_true rfl⟩ rfl rfl (jc.deep (c_Headers_kindOfNext hC_M (by omega) (by omega) (fun r21 z21  => ?_)) (by decide))
    exact jr.ireturn rfl rfl rfl (q _ (by omega) )
  · refine jr.tsw_k 4 rfl h1 rfl ?_
    refine jr.aload_n rfl rfl ?_
    obtain ⟨v22, e22⟩ : ∃ z_, M t 7 = z_ := ⟨_, rfl⟩
    have b22 : 0 ≤ v22 ∧ v22 ≤ 597 := by rw [← e22]; exact (CI.r hC_M k_t (by decide) 7)
    have k23 : kd (v22).toNat = 33 := ((congrArg (fun z : Int => kd z.toNat) (show M t 7 = v22 from e22)).symm.trans (CI.x hC_M k_t 7 rfl (by decide)))
    refine jr.getf (i := 7) (x := v22) (v := .ref (v22.toNat)) rfl rfl (Nat.lt_trans (kx_18 k_t).1 (by decide)) (kx_18 k_t).2 (by decide) rfl rfl e22 (jval_mut rfl (kn_18_7 k_t)) ?_
    refine jr.iload_n rfl rfl ?_
    refine jr_v rfl rfl (Or.inl rfl) rfl rfl (Nat.lt_trans (kx_33 k23).1 (by decide)) (kx_33 k23).2 ⟨rfl, Nat.le_of_ble_eq_true rfl, Nat.le_of_ble_eq_true rfl⟩ rfl (jc.deep (c_Packet_byteAt hC_M k23 (by omega) (fun r24 z24  => ?_)) (by decide))
    refine jr.iconst rfl ?_
    refine jr_s rfl rfl (Or.inl rfl) ⟨Nat.le_of_ble_eq_true rfl, Nat.le_of_ble_eq_true rfl⟩ rfl rfl (jc.deep (c_Headers_kindOfNext hC_M (by omega) (by omega) (fun r25 z25  => ?_)) (by decide))
    exact jr.ireturn rfl rfl rfl (q _ (by omega) )
  · refine jr.tsw_k 5 rfl h1 rfl ?_
    refine jr.aload_n rfl rfl ?_
    obtain ⟨v26, e26⟩ : ∃ z_, M t 7 = z_ := ⟨_, rfl⟩
    have b26 : 0 ≤ v26 ∧ v26 ≤ 597 := by rw [← e26]; exact (CI.r hC_M k_t (by decide) 7)
    have k27 : kd (v26).toNat = 33 := ((congrArg (fun z : Int => kd z.toNat) (show M t 7 = v26 from e26)).symm.trans (CI.x hC_M k_t 7 rfl (by decide)))
    refine jr.getf (i := 7) (x := v26) (v := .ref (v26.toNat)) rfl rfl (Nat.lt_trans (kx_18 k_t).1 (by decide)) (kx_18 k_t).2 (by decide) rfl rfl e26 (jval_mut rfl (kn_18_7 k_t)) ?_
    refine jr.iload_n rfl rfl ?_
    refine jr_v rfl rfl (Or.inl rfl) rfl rfl (Nat.lt_trans (kx_33 k27).1 (by decide)) (kx_33 k27).2 ⟨rfl, Nat.le_of_ble_eq_true rfl, Nat.le_of_ble_eq_true rfl⟩ rfl (jc.deep (c_Packet_byteAt hC_M k27 (by omega) (fun r28 z28  => ?_)) (by decide))
    refine jr.iconst rfl ?_
    refine jr_s rfl rfl (Or.inl rfl) ⟨Nat.le_of_ble_eq_true rfl, Nat.le_of_ble_eq_true rfl⟩ rfl rfl (jc.deep (c_Headers_kindOfNext hC_M (by omega) (by omega) (fun r29 z29  => ?_)) (by decide))
    exact jr.ireturn rfl rfl rfl (q _ (by omega) )
  · refine jr.tsw_k 6 rfl h1 rfl ?_
    refine jr.aload_n rfl rfl ?_
    obtain ⟨v30, e30⟩ : ∃ z_, M t 7 = z_ := ⟨_, rfl⟩
    have b30 : 0 ≤ v30 ∧ v30 ≤ 597 := by rw [← e30]; exact (CI.r hC_M k_t (by decide) 7)
    have k31 : kd (v30).toNat = 33 := ((congrArg (fun z : Int => kd z.toNat) (show M t 7 = v30 from e30)).symm.trans (CI.x hC_M k_t 7 rfl (by decide)))
    refine jr.getf (i := 7) (x := v30) (v := .ref (v30.toNat)) rfl rfl (Nat.lt_trans (kx_18 k_t).1 (by decide)) (kx_18 k_t).2 (by decide) rfl rfl e30 (jval_mut rfl (kn_18_7 k_t)) ?_
    refine jr.iload_n rfl rfl ?_
    refine jr.iconst rfl ?_
    refine jr.iadd rfl ?_
    refine jr.iconst rfl ?_
    refine jr_v rfl rfl (Or.inl rfl) rfl rfl (Nat.lt_trans (kx_33 k31).1 (by decide)) (kx_33 k31).2 ⟨rfl, Nat.le_of_ble_eq_true rfl, Nat.le_of_ble_eq_true rfl⟩ rfl (jc.deep (c_Packet_numberFrom hC_M k31 (by omega) (by omega) (fun r32 z32  => ?_)) (by decide))
    refine jr.iconst rfl ?_
    refine jr.lshr rfl ?_
    have b33 : jl_shr r32 3 = r32 / 8 := jl_shr_ex 3 (by decide) (by omega) (by omega)
    generalize jl_shr r32 3 = v33 at b33 ⊢
    refine jr.lconst (x := 0) rfl (by decide) ?_
    refine jr.lcmp_eq rfl rfl rfl (by omega) (by omega) (fun h160 => ?_) (fun h160 => ?_)
    · refine jr.aload_n rfl rfl ?_
      have k34 : kd (v30).toNat = 33 := ((congrArg (fun z : Int => kd z.toNat) (show M t 7 = v30 from e30)).symm.trans (CI.x hC_M k_t 7 rfl (by decide)))
      refine jr.getf (i := 7) (x := v30) (v := .ref (v30.toNat)) rfl rfl (Nat.lt_trans (kx_18 k_t).1 (by decide)) (kx_18 k_t).2 (by decide) rfl rfl e30 (jval_mut rfl (kn_18_7 k_t)) ?_
      refine jr.iload_n rfl rfl ?_
      refine jr_v rfl rfl (Or.inl rfl) rfl rfl (Nat.lt_trans (kx_33 k34).1 (by decide)) (kx_33 k34).2 ⟨rfl, Nat.le_of_ble_eq_true rfl, Nat.le_of_ble_eq_true rfl⟩ rfl (jc.deep (c_Packet_byteAt hC_M k34 (by omega) (fun r35 z35  => ?_)) (by decide))
      refine jr.iconst rfl ?_
      refine jr_s rfl rfl (Or.inl rfl) ⟨Nat.le_of_ble_eq_true rfl, Nat.le_of_ble_eq_true rfl⟩ rfl rfl (jc.deep (c_Headers_kindOfNext hC_M (by omega) (by omega) (fun r36 z36  => ?_)) (by decide))
      exact jr.ireturn rfl rfl rfl (q _ (by omega) )
    · refine jr.bipush rfl (by decide) ?_
      refine jr.goto rfl rfl ?_
      exact jr.ireturn rfl rfl rfl (q _ (by omega) )
  · refine jr.tsw_k 7 rfl h1 rfl ?_
    refine jr.aload_n rfl rfl ?_
    refine jr.aload_n rfl rfl ?_
    obtain ⟨v37, e37⟩ : ∃ z_, M t 7 = z_ := ⟨_, rfl⟩
    have b37 : 0 ≤ v37 ∧ v37 ≤ 597 := by rw [← e37]; exact (CI.r hC_M k_t (by decide) 7)
    have k38 : kd (v37).toNat = 33 := ((congrArg (fun z : Int => kd z.toNat) (show M t 7 = v37 from e37)).symm.trans (CI.x hC_M k_t 7 rfl (by decide)))
    refine jr.getf (i := 7) (x := v37) (v := .ref (v37.toNat)) rfl rfl (Nat.lt_trans (kx_18 k_t).1 (by decide)) (kx_18 k_t).2 (by decide) rfl rfl e37 (jval_mut rfl (kn_18_7 k_t)) ?_
    refine jr.iload_n rfl rfl ?_
    refine jr_v rfl rfl (Or.inl rfl) rfl rfl (Nat.lt_trans (kx_33 k38).1 (by decide)) (kx_33 k38).2 ⟨rfl, Nat.le_of_ble_eq_true rfl, Nat.le_of_ble_eq_true rfl⟩ rfl (jc.deep (c_Packet_byteAt hC_M k38 (by omega) (fun r39 z39  => ?_)) (by decide))
    refine jr.iload_n rfl rfl ?_
    refine jr_v rfl rfl (Or.inl rfl) rfl rfl (Nat.lt_trans (kx_18 k_t).1 (by decide)) (kx_18 k_t).2 ⟨rfl, Nat.le_of_ble_eq_true rfl, Nat.le_of_ble_eq_true rfl⟩ rfl (jc.deep (c_Headers_quotedKind hC_M k_t (by omega) (by omega) (fun r40 z40  => ?_)) (by decide))
    exact jr.ireturn rfl rfl rfl (q _ (by omega) )
  · refine jr.tsw_k 8 rfl h1 rfl ?_
    refine jr.bipush rfl (by decide) ?_
    exact jr.ireturn rfl rfl rfl (q _ (by omega) )
  · refine jr.tsw_k 9 rfl h1 rfl ?_
    refine jr.bipush rfl (by decide) ?_
    exact jr.ireturn rfl rfl rfl (q _ (by omega) )
  · refine jr.tsw_k 10 rfl h1 rfl ?_
    refine jr.aload_n rfl rfl ?_
    obtain ⟨v41, e41⟩ : ∃ z_, M t 7 = z_ := ⟨_, rfl⟩
    have b41 : 0 ≤ v41 ∧ v41 ≤ 597 := by rw [← e41]; exact (CI.r hC_M k_t (by decide) 7)
    have k42 : kd (v41).toNat = 33 := ((congrArg (fun z : Int => kd z.toNat) (show M t 7 = v41 from e41)).symm.trans (CI.x hC_M k_t 7 rfl (by decide)))
    refine jr.getf (i := 7) (x := v41) (v := .ref (v41.toNat)) rfl rfl (Nat.lt_trans (kx_18 k_t).1 (by decide)) (kx_18 k_t).2 (by decide) rfl rfl e41 (jval_mut rfl (kn_18_7 k_t)) ?_
    refine jr.iload_n rfl rfl ?_
    refine jr.iconst rfl ?_
    refine jr.iadd rfl ?_
    refine jr.iconst rfl ?_
    refine jr_v rfl rfl (Or.inl rfl) rfl rfl (Nat.lt_trans (kx_33 k42).1 (by decide)) (kx_33 k42).2 ⟨rfl, Nat.le_of_ble_eq_true rfl, Nat.le_of_ble_eq_true rfl⟩ rfl (jc.deep (c_Packet_numberFrom hC_M k42 (by omega) (by omega) (fun r43 z43  => ?_)) (by decide))
    refine jr.l2i rfl ?_
    refine jr.iw (j_w r43) (j_w_eq _) ?_
    have b44 : -2147483648 ≤ j_w r43 ∧ j_w r43 ≤ 2147483647 := jb_any _
    generalize j_w r43 = v44 at b44 ⊢
    refine jr_s rfl rfl (Or.inl rfl) ⟨Nat.le_of_ble_eq_true rfl, Nat.le_of_ble_eq_true rfl⟩ rfl rfl (jc.deep (c_Headers_kindOfLink hC_M (by omega) (fun r45 z45  => ?_)) (by decide))
    exact jr.ireturn rfl rfl rfl (q _ (by omega) )
  · refine jr.tsw_d rfl (by omega) (by omega) rfl ?_
    refine jr.bipush rfl (by decide) ?_
    exact jr.ireturn rfl rfl rfl (q _ (by omega) )
