theorem c_Parser_one_z {A : Nat → Option (Nat × (Nat → Int32))} [HA A] {n : Nat} (ihP : PXz A n) : PXz_one A (n + 1) := by
  intro Q G f N xs tt kk dd cc bh ee sg nm ak fz T M hC_M ht_M x h_x F g_F p0 p1 p2 p3 p4 p5 p6 p7 p8 q
  have h_ee := p8
  refine jc_of (m := xm_205) rfl (Nat.le_of_ble_eq_true rfl) rfl ?_
  have b_F : (-2147483648) ≤ F ∧ F ≤ 2147483647 := by rw [← g_F]; exact (CI.r hC_M (show kd 413 = 44 from rfl) (by decide) 0)
  obtain ⟨v1, e1⟩ : ∃ z_, M 413 3 = z_ := ⟨_, rfl⟩
  have b1 : 1 ≤ v1 ∧ v1 ≤ 419 := by rw [← e1]; exact (CI.r hC_M (show kd 413 = 44 from rfl) (by decide) 3)
  have b2 : 1 ≤ v1 ∧ v1 ≤ 1 := by rw [← e1]; exact p0
  have e3 : M 413 0 = F := g_F
  obtain ⟨v4, e4⟩ : ∃ z_, M 413 8 = z_ := ⟨_, rfl⟩
  have b4 : 0 ≤ v4 ∧ v4 ≤ 1600 := by rw [← e4]; exact (CI.r hC_M (show kd 413 = 44 from rfl) (by decide) 8)
  obtain ⟨v5, e5⟩ : ∃ z_, M 413 6 = z_ := ⟨_, rfl⟩
  have b5 : (-2147483648) ≤ v5 ∧ v5 ≤ 2147483647 := by rw [← e5]; exact (CI.r hC_M (show kd 413 = 44 from rfl) (by decide) 6)
  obtain ⟨v6, e6⟩ : ∃ z_, M 413 7 = z_ := ⟨_, rfl⟩
  have b6 : 0 ≤ v6 ∧ v6 ≤ 1600 := by rw [← e6]; exact (CI.r hC_M (show kd 413 = 44 from rfl) (by decide) 7)
  refine jr.aload_n rfl rfl ?_
  refine jr.getf (i := 0) (x := F) (v := .int (Int32.ofInt (F))) rfl rfl (by decide) rfl (by decide) rfl rfl g_F rfl ?_
  refine jr.if_eq rfl rfl (by omega) (fun h4 => ?_) (fun h4 => ?_)
  · refine jr.aload_n rfl rfl ?_
    refine jr.bipush rfl (by decide) ?_
    refine jr_v rfl rfl (Or.inl rfl) rfl rfl (by decide) rfl ⟨rfl, Nat.le_of_ble_eq_true rfl, Nat.le_of_ble_eq_true rfl⟩ rfl (jc.deep (c_Parser_isSign_z hC_M (by omega) (fun r7 z7 w7_0 => ?_)) (by omega))
    refine jr.if_ne rfl rfl (by omega) (fun h14 => ?_) (fun h14 => ?_)
    · refine jr.aload_n rfl rfl ?_
      obtain ⟨v8, e8⟩ : ∃ z_, M 413 11 = z_ := ⟨_, rfl⟩
      have b8 : 0 ≤ v8 ∧ v8 ≤ 255 := by rw [← e8]; exact (CI.r hC_M (show kd 413 = 44 from rfl) (by decide) 11)
      refine jr.getf (i := 11) (x := v8) (v := .int (Int32.ofInt (v8))) rfl rfl (by decide) rfl (by decide) rfl rfl e8 rfl ?_
      refine jr.bipush rfl (by decide) ?_
      refine jr.icmp_ne rfl rfl (by omega) (by omega) (fun h32 => ?_) (fun h32 => ?_)
      · refine jr.sipush rfl (by decide) ?_
        refine jr.istore_n rfl (by decide) rfl ?_
        refine jr.aload_n rfl rfl ?_
        obtain ⟨v10, e10⟩ : ∃ z_, M 413 1 = z_ := ⟨_, rfl⟩
        have b10 : (-2147483648) ≤ v10 ∧ v10 ≤ 2147483647 := by rw [← e10]; exact (CI.r hC_M (show kd 413 = 44 from rfl) (by decide) 1)
        obtain ⟨v11, e11⟩ : ∃ z_, M 413 2 = z_ := ⟨_, rfl⟩
        have b11 : 0 ≤ v11 ∧ v11 ≤ 597 := by rw [← e11]; exact (CI.r hC_M (show kd 413 = 44 from rfl) (by decide) 2)
        have k9_P : kd (v11).toNat = 47 := (congrArg (fun z : Int => kd z.toNat) e11).symm.trans (CI.x hC_M (show kd 413 = 44 from rfl) 2 rfl (by decide))
        obtain ⟨v12, e12⟩ : ∃ z_, M ((v11.toNat)) 4 = z_ := ⟨_, rfl⟩
        have b12 : (-2147483648) ≤ v12 ∧ v12 ≤ 2147483647 := by rw [← e12]; exact (CI.r hC_M k9_P (by decide) 4)
        refine jr_v rfl rfl (Or.inl rfl) rfl rfl (by decide) rfl ⟨rfl, Nat.le_of_ble_eq_true rfl, Nat.le_of_ble_eq_true rfl⟩ rfl (jc.deep (c_Parser_countNode_z hC_M (FR.rfl _ M)  g_F e10 e6 e11 e12 p2 (fun M9 hC_M9 hf_M9 w9_0 w9_1 => ?_)) (by omega))
        have ht_M9 : FR W_par T M9 := FR.t ht_M hf_M9 (kw_sub rfl)
        obtain ⟨v13, e13⟩ : ∃ z_, M9 413 0 = z_ := ⟨_, rfl⟩
        have b13 : (-2147483648) ≤ v13 ∧ v13 ≤ 2147483647 := by rw [← e13]; exact (CI.r hC_M9 (show kd 413 = 44 from rfl) (by decide) 0)
        obtain ⟨v14, e14⟩ : ∃ z_, M9 413 1 = z_ := ⟨_, rfl⟩
        have b14 : (-2147483648) ≤ v14 ∧ v14 ≤ 2147483647 := by rw [← e14]; exact (CI.r hC_M9 (show kd 413 = 44 from rfl) (by decide) 1)
        obtain ⟨v15, e15⟩ : ∃ z_, M9 ((v11.toNat)) 4 = z_ := ⟨_, rfl⟩
        have b15 : (-2147483648) ≤ v15 ∧ v15 ≤ 2147483647 := by rw [← e15]; exact (CI.r hC_M9 k9_P (by decide) 4)
        obtain ⟨⟨⟨hTx, ktt, k7, k8, k6, k10, k9, k11⟩, hck⟩, hzr⟩ := CZ.z p6 (by omega)
        have hs3 : zso f N tt = 3 := by omega
        have hs4 := k11 hs3
        clear k9 k10 k11
        have hsg : f tt = 45 ∨ f tt = 33 := by omega
        have hq1 := CZ.node p6 hC_M hf_M9 g_F e10 e6 e11 e12 w9_1 (fun z hk => zr.unaf z hs3 hsg (by omega))
        have wf9 := ndF w9_1
        clear w9_1
        refine jr.aload_n rfl rfl ?_
        refine jr.aload_n rfl rfl ?_
        have e16 : M9 413 11 = v8 := (hf_M9.g (show kd 413 = 44 from rfl) rfl).trans e8
        refine jr.getf (i := 11) (x := v8) (v := .int (Int32.ofInt (v8))) rfl rfl (by decide) rfl (by decide) rfl rfl e16 rfl ?_
        refine jr.iload_n rfl rfl ?_
        have e18 : M9 413 7 = v6 := (hf_M9.g (show kd 413 = 44 from rfl) rfl).trans e6
        have e19 : M9 413 6 = v5 := (hf_M9.g (show kd 413 = 44 from rfl) rfl).trans e5
        have e20 : M9 413 8 = v4 := (hf_M9.g (show kd 413 = 44 from rfl) rfl).trans e4
        have e21 : M9 413 3 = v1 := (hf_M9.g (show kd 413 = 44 from rfl) rfl).trans e1
        refine jr_v rfl rfl (Or.inl rfl) rfl rfl (by decide) rfl ⟨rfl, Nat.le_of_ble_eq_true rfl, Nat.le_of_ble_eq_true rfl⟩ rfl (jc.deep (c_Parser_open_z hC_M9 (FR.rfl _ M9) (by omega) (by omega) e13 e14 e18 e19 e20 e16 (by have hq0 : M9 413 3 = v1 := e21; omega) (TXc.fr p4 hf_M9 rfl) (by have hq0 : M9 413 8 = v4 := e20; have hq1 : M9 413 6 = v5 := e19; have hq2 : M9 413 7 = v6 := e18; omega) (fun M17 hC_M17 hf_M17 w17_0 w17_1 w17_2 w17_3 => ?_)) (by omega))
        have ht_M17 : FR W_par T M17 := FR.t ht_M9 hf_M17 (kw_sub rfl)
        obtain ⟨v22, e22⟩ : ∃ z_, M17 413 0 = z_ := ⟨_, rfl⟩
        have b22 : (-2147483648) ≤ v22 ∧ v22 ≤ 2147483647 := by rw [← e22]; exact (CI.r hC_M17 (show kd 413 = 44 from rfl) (by decide) 0)
        obtain ⟨v23, e23⟩ : ∃ z_, M17 413 1 = z_ := ⟨_, rfl⟩
        have b23 : (-2147483648) ≤ v23 ∧ v23 ≤ 2147483647 := by rw [← e23]; exact (CI.r hC_M17 (show kd 413 = 44 from rfl) (by decide) 1)
        obtain ⟨v24, e24⟩ : ∃ z_, M17 413 8 = z_ := ⟨_, rfl⟩
        have b24 : 0 ≤ v24 ∧ v24 ≤ 1600 := by rw [← e24]; exact (CI.r hC_M17 (show kd 413 = 44 from rfl) (by decide) 8)
        obtain ⟨v25, e25⟩ : ∃ z_, M17 413 6 = z_ := ⟨_, rfl⟩
        have b25 : (-2147483648) ≤ v25 ∧ v25 ≤ 2147483647 := by rw [← e25]; exact (CI.r hC_M17 (show kd 413 = 44 from rfl) (by decide) 6)
        obtain ⟨v26, e26⟩ : ∃ z_, M17 413 7 = z_ := ⟨_, rfl⟩
        have b26 : 0 ≤ v26 ∧ v26 ≤ 1600 := by rw [← e26]; exact (CI.r hC_M17 (show kd 413 = 44 from rfl) (by decide) 7)
        have hq2 := CZ.opn hq1 hC_M9 hf_M17 e13 e14 e18 e19 e20 e16 w17_0 w17_2 (fun z y => absurd ⟨hs3, by omega⟩ y) (fun z _ _ hd => zr.unaf z.1 hs3 hsg (by omega))
        have wf17 := opF w17_0
        clear w17_0 w17_2
        clear p5
        have hq3 := hq2.imp (fun z => zr.una z.1.1 hs3 hsg z.1.2 (by have y := z.2.2.2; omega))
        refine jr.aload_n rfl rfl ?_
        refine jr.iload_n rfl rfl ?_
        refine jr.iconst rfl ?_
        refine jr.iadd rfl ?_
        have e28 : M17 413 3 = v1 := (hf_M17.g (show kd 413 = 44 from rfl) rfl).trans e21
        refine jr_v rfl rfl (Or.inl rfl) rfl rfl (by decide) rfl ⟨rfl, Nat.le_of_ble_eq_true rfl, Nat.le_of_ble_eq_true rfl⟩ rfl (jc.deep (ihP.2.1 hC_M17 (FR.rfl _ M17) (by omega) e22 (by have hq0 : M17 413 3 = v1 := e28; omega) (by have hq0 : M17 413 0 = v22 := e22; omega) (MP.fr w9_0 hC_M9 hf_M17 rfl) (by omega) (TXc.fr (TXc.fr p4 hf_M9 rfl) hf_M17 rfl) (by have hq0 : M17 413 8 = v24 := e24; have hq1 : M17 413 6 = v25 := e25; have hq2 : M17 413 7 = v26 := e26; omega) hq3 (by omega) (by omega) (fun M27 hC_M27 hf_M27 w27_0 w27_1 w27_2 w27_3 => ?_)) (by omega))
        have ht_M27 : FR W_par T M27 := FR.t ht_M17 hf_M27 (kw_sub rfl)
        obtain ⟨v29, e29⟩ : ∃ z_, M27 413 0 = z_ := ⟨_, rfl⟩
        have b29 : (-2147483648) ≤ v29 ∧ v29 ≤ 2147483647 := by rw [← e29]; exact (CI.r hC_M27 (show kd 413 = 44 from rfl) (by decide) 0)
        obtain ⟨v30, e30⟩ : ∃ z_, M27 413 8 = z_ := ⟨_, rfl⟩
        have b30 : 0 ≤ v30 ∧ v30 ≤ 1600 := by rw [← e30]; exact (CI.r hC_M27 (show kd 413 = 44 from rfl) (by decide) 8)
        obtain ⟨v31, e31⟩ : ∃ z_, M27 413 6 = z_ := ⟨_, rfl⟩
        have b31 : (-2147483648) ≤ v31 ∧ v31 ≤ 2147483647 := by rw [← e31]; exact (CI.r hC_M27 (show kd 413 = 44 from rfl) (by decide) 6)
        obtain ⟨v32, e32⟩ : ∃ z_, M27 413 7 = z_ := ⟨_, rfl⟩
        have b32 : 0 ≤ v32 ∧ v32 ≤ 1600 := by rw [← e32]; exact (CI.r hC_M27 (show kd 413 = 44 from rfl) (by decide) 7)
        obtain ⟨t1, k1, hu1, hq4⟩ := w27_3
        clear w17_3
        refine jr.aload_n rfl rfl ?_
        have e33 : M9 413 2 = v11 := (hf_M9.g (show kd 413 = 44 from rfl) rfl).trans e11
        have e34 : M17 413 2 = v11 := (hf_M17.g (show kd 413 = 44 from rfl) rfl).trans e33
        have e35 : M27 413 2 = v11 := (hf_M27.g (show kd 413 = 44 from rfl) rfl).trans e34
        have k36 : kd (v11).toNat = 47 := ((congrArg (fun z : Int => kd z.toNat) (show M27 413 2 = v11 from e35)).symm.trans (CI.x hC_M27 (show kd 413 = 44 from rfl) 2 rfl (by decide)))
        refine jr.getf (i := 2) (x := v11) (v := .ref (v11.toNat)) rfl rfl (by decide) rfl (by decide) rfl rfl e35 rfl ?_
        refine jr.iload_n rfl rfl ?_
        refine jr.iconst rfl ?_
        obtain ⟨v38, e38⟩ : ∃ z_, M27 ((v11.toNat)) 2 = z_ := ⟨_, rfl⟩
        have b38 : 0 ≤ v38 ∧ v38 ≤ 932 := by rw [← e38]; exact (CI.r hC_M27 k36 (by decide) 2)
        refine jr_v rfl rfl (Or.inl rfl) rfl rfl (Nat.lt_trans (kx_47 k36).1 (by decide)) (kx_47 k36).2 ⟨rfl, Nat.le_of_ble_eq_true rfl, Nat.le_of_ble_eq_true rfl⟩ rfl (jc.deep (c_Program_emit_z hC_M27 (FR.rfl _ M27) k36 (by omega) (by omega) e38 rfl (by have hq0 : M27 413 2 = v11 := e35; omega) w27_0 (fun r37 M37 hC_M37 hf_M37 z37 w37_0 w37_1 w37_2 => ?_)) (by omega))
        have ht_M37 : FR W_par T M37 := FR.t ht_M27 hf_M37 (kw_sub rfl)
        have hq5 := CZ.emn (p := (v11.toNat)) hq4 hC_M27 hf_M37 (e35.trans (by omega)) e38 w37_2 (by omega) (by omega)
        clear w37_2 w37_1
        refine jr.pop rfl rfl ?_
        refine jr.goto rfl rfl ?_
        have e39 : M37 413 8 = v30 := (hf_M37.g (show kd 413 = 44 from rfl) rfl).trans e30
        have e40 : M37 413 6 = v31 := (hf_M37.g (show kd 413 = 44 from rfl) rfl).trans e31
        have e41 : M37 413 7 = v32 := (hf_M37.g (show kd 413 = 44 from rfl) rfl).trans e32
        have e42 : M37 413 0 = v29 := (hf_M37.g (show kd 413 = 44 from rfl) rfl).trans e29
        exact jr.vreturn rfl rfl (q _ hC_M37 ht_M37  w37_0 (by have hq0 : M37 413 0 = v29 := e42; omega) (by have hq0 : M37 413 8 = v30 := e39; have hq1 : M37 413 6 = v31 := e40; have hq2 : M37 413 7 = v32 := e41; omega) (COP.mk ((hq5.wk (fun _ h => List.mem_cons_of_mem _ h)).le h_ee (by omega)) (fun z => ⟨by have y := zr.pop z.1; rw [show dd + 1 - 1 = dd by omega] at y; exact y, by have g1 := znx_ge f N tt; omega⟩)))
      · refine jr.sipush rfl (by decide) ?_
        refine jr.goto rfl rfl ?_
        refine jr.istore_n rfl (by decide) rfl ?_
        refine jr.aload_n rfl rfl ?_
        obtain ⟨v44, e44⟩ : ∃ z_, M 413 1 = z_ := ⟨_, rfl⟩
        have b44 : (-2147483648) ≤ v44 ∧ v44 ≤ 2147483647 := by rw [← e44]; exact (CI.r hC_M (show kd 413 = 44 from rfl) (by decide) 1)
        obtain ⟨v45, e45⟩ : ∃ z_, M 413 2 = z_ := ⟨_, rfl⟩
        have b45 : 0 ≤ v45 ∧ v45 ≤ 597 := by rw [← e45]; exact (CI.r hC_M (show kd 413 = 44 from rfl) (by decide) 2)
        have k43_P : kd (v45).toNat = 47 := (congrArg (fun z : Int => kd z.toNat) e45).symm.trans (CI.x hC_M (show kd 413 = 44 from rfl) 2 rfl (by decide))
        obtain ⟨v46, e46⟩ : ∃ z_, M ((v45.toNat)) 4 = z_ := ⟨_, rfl⟩
        have b46 : (-2147483648) ≤ v46 ∧ v46 ≤ 2147483647 := by rw [← e46]; exact (CI.r hC_M k43_P (by decide) 4)
        refine jr_v rfl rfl (Or.inl rfl) rfl rfl (by decide) rfl ⟨rfl, Nat.le_of_ble_eq_true rfl, Nat.le_of_ble_eq_true rfl⟩ rfl (jc.deep (c_Parser_countNode_z hC_M (FR.rfl _ M)  g_F e44 e6 e45 e46 p2 (fun M43 hC_M43 hf_M43 w43_0 w43_1 => ?_)) (by omega))
        have ht_M43 : FR W_par T M43 := FR.t ht_M hf_M43 (kw_sub rfl)
        obtain ⟨v47, e47⟩ : ∃ z_, M43 413 0 = z_ := ⟨_, rfl⟩
        have b47 : (-2147483648) ≤ v47 ∧ v47 ≤ 2147483647 := by rw [← e47]; exact (CI.r hC_M43 (show kd 413 = 44 from rfl) (by decide) 0)
        obtain ⟨v48, e48⟩ : ∃ z_, M43 413 1 = z_ := ⟨_, rfl⟩
        have b48 : (-2147483648) ≤ v48 ∧ v48 ≤ 2147483647 := by rw [← e48]; exact (CI.r hC_M43 (show kd 413 = 44 from rfl) (by decide) 1)
        obtain ⟨v49, e49⟩ : ∃ z_, M43 ((v45.toNat)) 4 = z_ := ⟨_, rfl⟩
        have b49 : (-2147483648) ≤ v49 ∧ v49 ≤ 2147483647 := by rw [← e49]; exact (CI.r hC_M43 k43_P (by decide) 4)
        obtain ⟨⟨⟨hTx, ktt, k7, k8, k6, k10, k9, k11⟩, hck⟩, hzr⟩ := CZ.z p6 (by omega)
        have hs3 : zso f N tt = 3 := by omega
        have hs4 := k11 hs3
        clear k9 k10 k11
        have hsg : f tt = 45 ∨ f tt = 33 := by omega
        have hq1 := CZ.node p6 hC_M hf_M43 g_F e44 e6 e45 e46 w43_1 (fun z hk => zr.unaf z hs3 hsg (by omega))
        have wf43 := ndF w43_1
        clear w43_1
        refine jr.aload_n rfl rfl ?_
        refine jr.aload_n rfl rfl ?_
        have e50 : M43 413 11 = v8 := (hf_M43.g (show kd 413 = 44 from rfl) rfl).trans e8
        refine jr.getf (i := 11) (x := v8) (v := .int (Int32.ofInt (v8))) rfl rfl (by decide) rfl (by decide) rfl rfl e50 rfl ?_
        refine jr.iload_n rfl rfl ?_
        have e52 : M43 413 7 = v6 := (hf_M43.g (show kd 413 = 44 from rfl) rfl).trans e6
        have e53 : M43 413 6 = v5 := (hf_M43.g (show kd 413 = 44 from rfl) rfl).trans e5
        have e54 : M43 413 8 = v4 := (hf_M43.g (show kd 413 = 44 from rfl) rfl).trans e4
        have e55 : M43 413 3 = v1 := (hf_M43.g (show kd 413 = 44 from rfl) rfl).trans e1
        refine jr_v rfl rfl (Or.inl rfl) rfl rfl (by decide) rfl ⟨rfl, Nat.le_of_ble_eq_true rfl, Nat.le_of_ble_eq_true rfl⟩ rfl (jc.deep (c_Parser_open_z hC_M43 (FR.rfl _ M43) (by omega) (by omega) e47 e48 e52 e53 e54 e50 (by have hq0 : M43 413 3 = v1 := e55; omega) (TXc.fr p4 hf_M43 rfl) (by have hq0 : M43 413 8 = v4 := e54; have hq1 : M43 413 6 = v5 := e53; have hq2 : M43 413 7 = v6 := e52; omega) (fun M51 hC_M51 hf_M51 w51_0 w51_1 w51_2 w51_3 => ?_)) (by omega))
        have ht_M51 : FR W_par T M51 := FR.t ht_M43 hf_M51 (kw_sub rfl)
        obtain ⟨v56, e56⟩ : ∃ z_, M51 413 0 = z_ := ⟨_, rfl⟩
        have b56 : (-2147483648) ≤ v56 ∧ v56 ≤ 2147483647 := by rw [← e56]; exact (CI.r hC_M51 (show kd 413 = 44 from rfl) (by decide) 0)
        obtain ⟨v57, e57⟩ : ∃ z_, M51 413 1 = z_ := ⟨_, rfl⟩
        have b57 : (-2147483648) ≤ v57 ∧ v57 ≤ 2147483647 := by rw [← e57]; exact (CI.r hC_M51 (show kd 413 = 44 from rfl) (by decide) 1)
        obtain ⟨v58, e58⟩ : ∃ z_, M51 413 8 = z_ := ⟨_, rfl⟩
        have b58 : 0 ≤ v58 ∧ v58 ≤ 1600 := by rw [← e58]; exact (CI.r hC_M51 (show kd 413 = 44 from rfl) (by decide) 8)
        obtain ⟨v59, e59⟩ : ∃ z_, M51 413 6 = z_ := ⟨_, rfl⟩
        have b59 : (-2147483648) ≤ v59 ∧ v59 ≤ 2147483647 := by rw [← e59]; exact (CI.r hC_M51 (show kd 413 = 44 from rfl) (by decide) 6)
        obtain ⟨v60, e60⟩ : ∃ z_, M51 413 7 = z_ := ⟨_, rfl⟩
        have b60 : 0 ≤ v60 ∧ v60 ≤ 1600 := by rw [← e60]; exact (CI.r hC_M51 (show kd 413 = 44 from rfl) (by decide) 7)
        have hq2 := CZ.opn hq1 hC_M43 hf_M51 e47 e48 e52 e53 e54 e50 w51_0 w51_2 (fun z y => absurd ⟨hs3, by omega⟩ y) (fun z _ _ hd => zr.unaf z.1 hs3 hsg (by omega))
        have wf51 := opF w51_0
        clear w51_0 w51_2
        clear p5
        have hq3 := hq2.imp (fun z => zr.una z.1.1 hs3 hsg z.1.2 (by have y := z.2.2.2; omega))
        refine jr.aload_n rfl rfl ?_
        refine jr.iload_n rfl rfl ?_
        refine jr.iconst rfl ?_
        refine jr.iadd rfl ?_
        have e62 : M51 413 3 = v1 := (hf_M51.g (show kd 413 = 44 from rfl) rfl).trans e55
        refine jr_v rfl rfl (Or.inl rfl) rfl rfl (by decide) rfl ⟨rfl, Nat.le_of_ble_eq_true rfl, Nat.le_of_ble_eq_true rfl⟩ rfl (jc.deep (ihP.2.1 hC_M51 (FR.rfl _ M51) (by omega) e56 (by have hq0 : M51 413 3 = v1 := e62; omega) (by have hq0 : M51 413 0 = v56 := e56; omega) (MP.fr w43_0 hC_M43 hf_M51 rfl) (by omega) (TXc.fr (TXc.fr p4 hf_M43 rfl) hf_M51 rfl) (by have hq0 : M51 413 8 = v58 := e58; have hq1 : M51 413 6 = v59 := e59; have hq2 : M51 413 7 = v60 := e60; omega) hq3 (by omega) (by omega) (fun M61 hC_M61 hf_M61 w61_0 w61_1 w61_2 w61_3 => ?_)) (by omega))
        have ht_M61 : FR W_par T M61 := FR.t ht_M51 hf_M61 (kw_sub rfl)
        obtain ⟨v63, e63⟩ : ∃ z_, M61 413 0 = z_ := ⟨_, rfl⟩
        have b63 : (-2147483648) ≤ v63 ∧ v63 ≤ 2147483647 := by rw [← e63]; exact (CI.r hC_M61 (show kd 413 = 44 from rfl) (by decide) 0)
        obtain ⟨v64, e64⟩ : ∃ z_, M61 413 8 = z_ := ⟨_, rfl⟩
        have b64 : 0 ≤ v64 ∧ v64 ≤ 1600 := by rw [← e64]; exact (CI.r hC_M61 (show kd 413 = 44 from rfl) (by decide) 8)
        obtain ⟨v65, e65⟩ : ∃ z_, M61 413 6 = z_ := ⟨_, rfl⟩
        have b65 : (-2147483648) ≤ v65 ∧ v65 ≤ 2147483647 := by rw [← e65]; exact (CI.r hC_M61 (show kd 413 = 44 from rfl) (by decide) 6)
        obtain ⟨v66, e66⟩ : ∃ z_, M61 413 7 = z_ := ⟨_, rfl⟩
        have b66 : 0 ≤ v66 ∧ v66 ≤ 1600 := by rw [← e66]; exact (CI.r hC_M61 (show kd 413 = 44 from rfl) (by decide) 7)
        obtain ⟨t1, k1, hu1, hq4⟩ := w61_3
        clear w51_3
        refine jr.aload_n rfl rfl ?_
        have e67 : M43 413 2 = v45 := (hf_M43.g (show kd 413 = 44 from rfl) rfl).trans e45
        have e68 : M51 413 2 = v45 := (hf_M51.g (show kd 413 = 44 from rfl) rfl).trans e67
        have e69 : M61 413 2 = v45 := (hf_M61.g (show kd 413 = 44 from rfl) rfl).trans e68
        have k70 : kd (v45).toNat = 47 := ((congrArg (fun z : Int => kd z.toNat) (show M61 413 2 = v45 from e69)).symm.trans (CI.x hC_M61 (show kd 413 = 44 from rfl) 2 rfl (by decide)))
        refine jr.getf (i := 2) (x := v45) (v := .ref (v45.toNat)) rfl rfl (by decide) rfl (by decide) rfl rfl e69 rfl ?_
        refine jr.iload_n rfl rfl ?_
        refine jr.iconst rfl ?_
        obtain ⟨v72, e72⟩ : ∃ z_, M61 ((v45.toNat)) 2 = z_ := ⟨_, rfl⟩
        have b72 : 0 ≤ v72 ∧ v72 ≤ 932 := by rw [← e72]; exact (CI.r hC_M61 k70 (by decide) 2)
        refine jr_v rfl rfl (Or.inl rfl) rfl rfl (Nat.lt_trans (kx_47 k70).1 (by decide)) (kx_47 k70).2 ⟨rfl, Nat.le_of_ble_eq_true rfl, Nat.le_of_ble_eq_true rfl⟩ rfl (jc.deep (c_Program_emit_z hC_M61 (FR.rfl _ M61) k70 (by omega) (by omega) e72 rfl (by have hq0 : M61 413 2 = v45 := e69; omega) w61_0 (fun r71 M71 hC_M71 hf_M71 z71 w71_0 w71_1 w71_2 => ?_)) (by omega))
        have ht_M71 : FR W_par T M71 := FR.t ht_M61 hf_M71 (kw_sub rfl)
        have hq5 := CZ.emn (p := (v45.toNat)) hq4 hC_M61 hf_M71 (e69.trans (by omega)) e72 w71_2 (by omega) (by omega)
        clear w71_2 w71_1
        refine jr.pop rfl rfl ?_
        refine jr.goto rfl rfl ?_
        have e73 : M71 413 8 = v64 := (hf_M71.g (show kd 413 = 44 from rfl) rfl).trans e64
        have e74 : M71 413 6 = v65 := (hf_M71.g (show kd 413 = 44 from rfl) rfl).trans e65
        have e75 : M71 413 7 = v66 := (hf_M71.g (show kd 413 = 44 from rfl) rfl).trans e66
        have e76 : M71 413 0 = v63 := (hf_M71.g (show kd 413 = 44 from rfl) rfl).trans e63
        exact jr.vreturn rfl rfl (q _ hC_M71 ht_M71  w71_0 (by have hq0 : M71 413 0 = v63 := e76; omega) (by have hq0 : M71 413 8 = v64 := e73; have hq1 : M71 413 6 = v65 := e74; have hq2 : M71 413 7 = v66 := e75; omega) (COP.mk ((hq5.wk (fun _ h => List.mem_cons_of_mem _ h)).le h_ee (by omega)) (fun z => ⟨by have y := zr.pop z.1; rw [show dd + 1 - 1 = dd by omega] at y; exact y, by have g1 := znx_ge f N tt; omega⟩)))
    · refine jr.aload_n rfl rfl ?_
      refine jr.bipush rfl (by decide) ?_
      refine jr_v rfl rfl (Or.inl rfl) rfl rfl (by decide) rfl ⟨rfl, Nat.le_of_ble_eq_true rfl, Nat.le_of_ble_eq_true rfl⟩ rfl (jc.deep (c_Parser_isSign_z hC_M (by omega) (fun r77 z77 w77_0 => ?_)) (by omega))
      refine jr.if_eq rfl rfl (by omega) (fun h23 => ?_) (fun h23 => ?_)
      · refine jr.aload_n rfl rfl ?_
        refine jr.bipush rfl (by decide) ?_
        refine jr_v rfl rfl (Or.inl rfl) rfl rfl (by decide) rfl ⟨rfl, Nat.le_of_ble_eq_true rfl, Nat.le_of_ble_eq_true rfl⟩ rfl (jc.deep (c_Parser_isSign_z hC_M (by omega) (fun r78 z78 w78_0 => ?_)) (by omega))
        refine jr.if_eq rfl rfl (by omega) (fun h84 => ?_) (fun h84 => ?_)
        · refine jr.aload_n rfl rfl ?_
          refine jr.getf (i := 6) (x := v5) (v := .int (Int32.ofInt (v5))) rfl rfl (by decide) rfl (by decide) rfl rfl e5 rfl ?_
          refine jr.iconst rfl ?_
          refine jr.icmp_ne rfl rfl (by omega) (by omega) (fun h116 => ?_) (fun h116 => ?_)
          · refine jr.aload_n rfl rfl ?_
            refine jr.getf (i := 6) (x := v5) (v := .int (Int32.ofInt (v5))) rfl rfl (by decide) rfl (by decide) rfl rfl e5 rfl ?_
            refine jr.iconst rfl ?_
            refine jr.icmp_ne rfl rfl (by omega) (by omega) (fun h167 => ?_) (fun h167 => ?_)
            · refine jr.aload_n rfl rfl ?_
              refine jr.iload_n rfl rfl ?_
              refine jr_v rfl rfl (Or.inl rfl) rfl rfl (by decide) rfl ⟨rfl, Nat.le_of_ble_eq_true rfl, Nat.le_of_ble_eq_true rfl⟩ rfl (jc.deep (ihP.1 hC_M (FR.rfl _ M) (by omega) (by have hq0 : M 413 3 = v1 := e1; omega) p2 (by omega) p4 (by have hq0 : M 413 8 = v4 := e4; have hq1 : M 413 6 = v5 := e5; have hq2 : M 413 7 = v6 := e6; omega) p6 (by omega) h_ee (by have hq0 : M 413 0 = F := g_F; omega) (by obtain ⟨⟨⟨_, _, c7, c8, c6, c10, c9, c11⟩, _⟩, _⟩ := CZ.z p6 (by omega); intro q; have q2 := c11 q; omega) (by obtain ⟨⟨⟨_, _, c7, c8, c6, c10, c9, c11⟩, _⟩, _⟩ := CZ.z p6 (by omega); omega) (by obtain ⟨⟨⟨_, _, c7, c8, c6, c10, c9, c11⟩, _⟩, _⟩ := CZ.z p6 (by omega); intro q; have q2 := c10 q; omega) (fun M79 hC_M79 hf_M79 w79_0 w79_1 w79_2 => ?_)) (by omega))
              have ht_M79 : FR W_par T M79 := FR.t ht_M hf_M79 (kw_sub rfl)
              obtain ⟨v80, e80⟩ : ∃ z_, M79 413 8 = z_ := ⟨_, rfl⟩
              have b80 : 0 ≤ v80 ∧ v80 ≤ 1600 := by rw [← e80]; exact (CI.r hC_M79 (show kd 413 = 44 from rfl) (by decide) 8)
              obtain ⟨v81, e81⟩ : ∃ z_, M79 413 6 = z_ := ⟨_, rfl⟩
              have b81 : (-2147483648) ≤ v81 ∧ v81 ≤ 2147483647 := by rw [← e81]; exact (CI.r hC_M79 (show kd 413 = 44 from rfl) (by decide) 6)
              obtain ⟨v82, e82⟩ : ∃ z_, M79 413 7 = z_ := ⟨_, rfl⟩
              have b82 : 0 ≤ v82 ∧ v82 ≤ 1600 := by rw [← e82]; exact (CI.r hC_M79 (show kd 413 = 44 from rfl) (by decide) 7)
              skip
              obtain ⟨v83, e83⟩ : ∃ z_, M79 413 0 = z_ := ⟨_, rfl⟩
              have b83 : (-2147483648) ≤ v83 ∧ v83 ≤ 2147483647 := by rw [← e83]; exact (CI.r hC_M79 (show kd 413 = 44 from rfl) (by decide) 0)
              exact jr.vreturn rfl rfl (q _ hC_M79 ht_M79  w79_0 (by have hq0 : M79 413 0 = v83 := e83; omega) (by have hq0 : M79 413 8 = v80 := e80; have hq1 : M79 413 6 = v81 := e81; have hq2 : M79 413 7 = v82 := e82; omega) w79_2)
            · refine jr.aload_n rfl rfl ?_
              obtain ⟨v84, e84⟩ : ∃ z_, M 413 10 = z_ := ⟨_, rfl⟩
              have b84 : (-2147483648) ≤ v84 ∧ v84 ≤ 2147483647 := by rw [← e84]; exact (CI.r hC_M (show kd 413 = 44 from rfl) (by decide) 10)
              refine jr.getf (i := 10) (x := v84) (v := .int (Int32.ofInt (v84))) rfl rfl (by decide) rfl (by decide) rfl rfl e84 rfl ?_
              refine jr.bipush rfl (by decide) ?_
              refine jr.icmp_lt rfl rfl (by omega) (by omega) (fun h176 => ?_) (fun h176 => ?_)
              · refine jr.aload_n rfl rfl ?_
                refine jr.iload_n rfl rfl ?_
                refine jr_v rfl rfl (Or.inl rfl) rfl rfl (by decide) rfl ⟨rfl, Nat.le_of_ble_eq_true rfl, Nat.le_of_ble_eq_true rfl⟩ rfl (jc.deep (ihP.1 hC_M (FR.rfl _ M) (by omega) (by have hq0 : M 413 3 = v1 := e1; omega) p2 (by omega) p4 (by have hq0 : M 413 8 = v4 := e4; have hq1 : M 413 6 = v5 := e5; have hq2 : M 413 7 = v6 := e6; omega) p6 (by omega) h_ee (by have hq0 : M 413 0 = F := g_F; omega) (by obtain ⟨⟨⟨_, _, c7, c8, c6, c10, c9, c11⟩, _⟩, _⟩ := CZ.z p6 (by omega); intro q; have q2 := c11 q; omega) (by obtain ⟨⟨⟨_, _, c7, c8, c6, c10, c9, c11⟩, _⟩, _⟩ := CZ.z p6 (by omega); omega) (by obtain ⟨⟨⟨_, _, c7, c8, c6, c10, c9, c11⟩, _⟩, _⟩ := CZ.z p6 (by omega); intro q; have q2 := c10 q; omega) (fun M85 hC_M85 hf_M85 w85_0 w85_1 w85_2 => ?_)) (by omega))
                have ht_M85 : FR W_par T M85 := FR.t ht_M hf_M85 (kw_sub rfl)
                obtain ⟨v86, e86⟩ : ∃ z_, M85 413 8 = z_ := ⟨_, rfl⟩
                have b86 : 0 ≤ v86 ∧ v86 ≤ 1600 := by rw [← e86]; exact (CI.r hC_M85 (show kd 413 = 44 from rfl) (by decide) 8)
                obtain ⟨v87, e87⟩ : ∃ z_, M85 413 6 = z_ := ⟨_, rfl⟩
                have b87 : (-2147483648) ≤ v87 ∧ v87 ≤ 2147483647 := by rw [← e87]; exact (CI.r hC_M85 (show kd 413 = 44 from rfl) (by decide) 6)
                obtain ⟨v88, e88⟩ : ∃ z_, M85 413 7 = z_ := ⟨_, rfl⟩
                have b88 : 0 ≤ v88 ∧ v88 ≤ 1600 := by rw [← e88]; exact (CI.r hC_M85 (show kd 413 = 44 from rfl) (by decide) 7)
                skip
                obtain ⟨v89, e89⟩ : ∃ z_, M85 413 0 = z_ := ⟨_, rfl⟩
                have b89 : (-2147483648) ≤ v89 ∧ v89 ≤ 2147483647 := by rw [← e89]; exact (CI.r hC_M85 (show kd 413 = 44 from rfl) (by decide) 0)
                exact jr.vreturn rfl rfl (q _ hC_M85 ht_M85  w85_0 (by have hq0 : M85 413 0 = v89 := e89; omega) (by have hq0 : M85 413 8 = v86 := e86; have hq1 : M85 413 6 = v87 := e87; have hq2 : M85 413 7 = v88 := e88; omega) w85_2)
              · refine jr.aload_n rfl rfl ?_
                refine jr_v rfl rfl (Or.inl rfl) rfl rfl (by decide) rfl ⟨rfl, Nat.le_of_ble_eq_true rfl, Nat.le_of_ble_eq_true rfl⟩ rfl (jc.deep (c_Parser_kindField_z hC_M (FR.rfl _ M)  (by have hq0 : M 413 3 = v1 := e1; omega) p2 p4 (by have hq0 : M 413 8 = v4 := e4; have hq1 : M 413 6 = v5 := e5; have hq2 : M 413 7 = v6 := e6; omega) (by have hq0 : M 413 6 = v5 := e5; have hq1 : M 413 0 = F := g_F; omega) p6 h_ee (by obtain ⟨⟨⟨_, _, c7, c8, c6, c10, c9, c11⟩, _⟩, _⟩ := CZ.z p6 (by omega); have q := zcv_k (w := zwd f N tt) (by have q := c10 (by omega); omega); have q2 := c10 (by omega); omega) (fun M90 hC_M90 hf_M90 w90_0 w90_1 w90_2 => ?_)) (by omega))
                have ht_M90 : FR W_par T M90 := FR.t ht_M hf_M90 (kw_sub rfl)
                obtain ⟨v91, e91⟩ : ∃ z_, M90 413 8 = z_ := ⟨_, rfl⟩
                have b91 : 0 ≤ v91 ∧ v91 ≤ 1600 := by rw [← e91]; exact (CI.r hC_M90 (show kd 413 = 44 from rfl) (by decide) 8)
                obtain ⟨v92, e92⟩ : ∃ z_, M90 413 6 = z_ := ⟨_, rfl⟩
                have b92 : (-2147483648) ≤ v92 ∧ v92 ≤ 2147483647 := by rw [← e92]; exact (CI.r hC_M90 (show kd 413 = 44 from rfl) (by decide) 6)
                obtain ⟨v93, e93⟩ : ∃ z_, M90 413 7 = z_ := ⟨_, rfl⟩
                have b93 : 0 ≤ v93 ∧ v93 ≤ 1600 := by rw [← e93]; exact (CI.r hC_M90 (show kd 413 = 44 from rfl) (by decide) 7)
                skip
                refine jr.goto rfl rfl ?_
                obtain ⟨v94, e94⟩ : ∃ z_, M90 413 0 = z_ := ⟨_, rfl⟩
                have b94 : (-2147483648) ≤ v94 ∧ v94 ≤ 2147483647 := by rw [← e94]; exact (CI.r hC_M90 (show kd 413 = 44 from rfl) (by decide) 0)
                exact jr.vreturn rfl rfl (q _ hC_M90 ht_M90  w90_0 (by have hq0 : M90 413 0 = v94 := e94; omega) (by have hq0 : M90 413 8 = v91 := e91; have hq1 : M90 413 6 = v92 := e92; have hq2 : M90 413 7 = v93 := e93; omega) w90_2)
          · refine jr.aload_n rfl rfl ?_
            obtain ⟨v96, e96⟩ : ∃ z_, M 413 1 = z_ := ⟨_, rfl⟩
            have b96 : (-2147483648) ≤ v96 ∧ v96 ≤ 2147483647 := by rw [← e96]; exact (CI.r hC_M (show kd 413 = 44 from rfl) (by decide) 1)
            obtain ⟨v97, e97⟩ : ∃ z_, M 413 2 = z_ := ⟨_, rfl⟩
            have b97 : 0 ≤ v97 ∧ v97 ≤ 597 := by rw [← e97]; exact (CI.r hC_M (show kd 413 = 44 from rfl) (by decide) 2)
            have k95_P : kd (v97).toNat = 47 := (congrArg (fun z : Int => kd z.toNat) e97).symm.trans (CI.x hC_M (show kd 413 = 44 from rfl) 2 rfl (by decide))
            obtain ⟨v98, e98⟩ : ∃ z_, M ((v97.toNat)) 4 = z_ := ⟨_, rfl⟩
            have b98 : (-2147483648) ≤ v98 ∧ v98 ≤ 2147483647 := by rw [← e98]; exact (CI.r hC_M k95_P (by decide) 4)
            refine jr_v rfl rfl (Or.inl rfl) rfl rfl (by decide) rfl ⟨rfl, Nat.le_of_ble_eq_true rfl, Nat.le_of_ble_eq_true rfl⟩ rfl (jc.deep (c_Parser_countNode_z hC_M (FR.rfl _ M)  g_F e96 e6 e97 e98 p2 (fun M95 hC_M95 hf_M95 w95_0 w95_1 => ?_)) (by omega))
            have ht_M95 : FR W_par T M95 := FR.t ht_M hf_M95 (kw_sub rfl)
            obtain ⟨v99, e99⟩ : ∃ z_, M95 413 0 = z_ := ⟨_, rfl⟩
            have b99 : (-2147483648) ≤ v99 ∧ v99 ≤ 2147483647 := by rw [← e99]; exact (CI.r hC_M95 (show kd 413 = 44 from rfl) (by decide) 0)
            obtain ⟨v100, e100⟩ : ∃ z_, M95 413 1 = z_ := ⟨_, rfl⟩
            have b100 : (-2147483648) ≤ v100 ∧ v100 ≤ 2147483647 := by rw [← e100]; exact (CI.r hC_M95 (show kd 413 = 44 from rfl) (by decide) 1)
            obtain ⟨v101, e101⟩ : ∃ z_, M95 ((v97.toNat)) 4 = z_ := ⟨_, rfl⟩
            have b101 : (-2147483648) ≤ v101 ∧ v101 ≤ 2147483647 := by rw [← e101]; exact (CI.r hC_M95 k95_P (by decide) 4)
            obtain ⟨⟨⟨hTx, ktt, k7, k8, k6, k10, k9, k11⟩, hck⟩, hzr⟩ := CZ.z p6 (by omega)
            have hs2 : zso f N tt = 2 := by omega
            have hs5 := k9 hs2
            clear k9 k10 k11
            have hq1 := CZ.node p6 hC_M hf_M95 g_F e96 e6 e97 e98 w95_1 (fun z hk => zr.numk z hs2 hk)
            have wf95 := ndF w95_1
            clear w95_1
            refine jr.aload_n rfl rfl ?_
            obtain ⟨v102, e102⟩ : ∃ z_, M 413 9 = z_ := ⟨_, rfl⟩
            have b102 : (-9223372036854775808) ≤ v102 ∧ v102 ≤ 9223372036854775807 := by rw [← e102]; exact (CI.r hC_M (show kd 413 = 44 from rfl) (by decide) 9)
            have e103 : M95 413 9 = v102 := (hf_M95.g (show kd 413 = 44 from rfl) rfl).trans e102
            refine jr.getf (i := 9) (x := v102) (v := .long (Int64.ofInt (v102))) rfl rfl (by decide) rfl (by decide) rfl rfl e103 rfl ?_
            refine jr.ldc2 (x := 4294967295) rfl rfl (by decide) ?_
            refine jr.lcmp_le rfl rfl rfl (by omega) (by omega) (fun h130 => ?_) (fun h130 => ?_)
            · refine jr.aload_n rfl rfl ?_
              have e104 : M95 413 2 = v97 := (hf_M95.g (show kd 413 = 44 from rfl) rfl).trans e97
              have k105 : kd (v97).toNat = 47 := ((congrArg (fun z : Int => kd z.toNat) (show M95 413 2 = v97 from e104)).symm.trans (CI.x hC_M95 (show kd 413 = 44 from rfl) 2 rfl (by decide)))
              refine jr.getf (i := 2) (x := v97) (v := .ref (v97.toNat)) rfl rfl (by decide) rfl (by decide) rfl rfl e104 rfl ?_
              refine jr.bipush rfl (by decide) ?_
              refine jr.aload_n rfl rfl ?_
              refine jr.getf (i := 9) (x := v102) (v := .long (Int64.ofInt (v102))) rfl rfl (by decide) rfl (by decide) rfl rfl e103 rfl ?_
              refine jr.l2i rfl ?_
              refine jr.iw (j_w v102) (j_w_eq _) ?_
              have b106 : -2147483648 ≤ j_w v102 ∧ j_w v102 ≤ 2147483647 := jb_any _
              generalize j_w v102 = v106 at b106 ⊢
              obtain ⟨v108, e108⟩ : ∃ z_, M ((v97.toNat)) 2 = z_ := ⟨_, rfl⟩
              have b108 : 0 ≤ v108 ∧ v108 ≤ 932 := by rw [← e108]; exact (CI.r hC_M k105 (by decide) 2)
              have e109 : M95 ((v97.toNat)) 2 = v108 := (hf_M95.g k105 rfl).trans e108
              refine jr_v rfl rfl (Or.inl rfl) rfl rfl (Nat.lt_trans (kx_47 k105).1 (by decide)) (kx_47 k105).2 ⟨rfl, Nat.le_of_ble_eq_true rfl, Nat.le_of_ble_eq_true rfl⟩ rfl (jc.deep (c_Program_emit_z hC_M95 (FR.rfl _ M95) k105 (by omega) (by omega) e109 rfl (by have hq0 : M95 413 2 = v97 := e104; omega) w95_0 (fun r107 M107 hC_M107 hf_M107 z107 w107_0 w107_1 w107_2 => ?_)) (by omega))
              have ht_M107 : FR W_par T M107 := FR.t ht_M95 hf_M107 (kw_sub rfl)
              have hq3 := CZ.emn (p := (v97.toNat)) hq1 hC_M95 hf_M107 (e104.trans (by omega)) e109 w107_2 (by omega) (by omega)
              clear w107_2 w107_1
              refine jr.pop rfl rfl ?_
              refine jr.aload_n rfl rfl ?_
              have e111 : M107 413 0 = v99 := (hf_M107.g (show kd 413 = 44 from rfl) rfl).trans e99
              have e112 : M95 413 8 = v4 := (hf_M95.g (show kd 413 = 44 from rfl) rfl).trans e4
              have e113 : M107 413 8 = v4 := (hf_M107.g (show kd 413 = 44 from rfl) rfl).trans e112
              have e114 : M95 413 3 = v1 := (hf_M95.g (show kd 413 = 44 from rfl) rfl).trans e1
              have e115 : M107 413 3 = v1 := (hf_M107.g (show kd 413 = 44 from rfl) rfl).trans e114
              have e116 : M95 413 6 = v5 := (hf_M95.g (show kd 413 = 44 from rfl) rfl).trans e5
              have e117 : M107 413 6 = v5 := (hf_M107.g (show kd 413 = 44 from rfl) rfl).trans e116
              have e118 : M95 413 7 = v6 := (hf_M95.g (show kd 413 = 44 from rfl) rfl).trans e6
              have e119 : M107 413 7 = v6 := (hf_M107.g (show kd 413 = 44 from rfl) rfl).trans e118
              refine jr_v rfl rfl (Or.inl rfl) rfl rfl (by decide) rfl ⟨rfl, Nat.le_of_ble_eq_true rfl, Nat.le_of_ble_eq_true rfl⟩ rfl (jc.deep (c_Parser_advance_z hC_M107 (FR.rfl _ M107)  e111 e113 (by have hq0 : M107 413 3 = v1 := e115; omega) (TXc.fr (TXc.fr p4 hf_M95 rfl) hf_M107 rfl) (by have hq0 : M107 413 8 = v4 := e113; have hq1 : M107 413 6 = v5 := e117; have hq2 : M107 413 7 = v6 := e119; omega) (fun M110 hC_M110 hf_M110 w110_0 w110_1 => ?_)) (by omega))
              have ht_M110 : FR W_par T M110 := FR.t ht_M107 hf_M110 (kw_sub rfl)
              obtain ⟨v120, e120⟩ : ∃ z_, M110 413 8 = z_ := ⟨_, rfl⟩
              have b120 : 0 ≤ v120 ∧ v120 ≤ 1600 := by rw [← e120]; exact (CI.r hC_M110 (show kd 413 = 44 from rfl) (by decide) 8)
              obtain ⟨v121, e121⟩ : ∃ z_, M110 413 6 = z_ := ⟨_, rfl⟩
              have b121 : (-2147483648) ≤ v121 ∧ v121 ≤ 2147483647 := by rw [← e121]; exact (CI.r hC_M110 (show kd 413 = 44 from rfl) (by decide) 6)
              obtain ⟨v122, e122⟩ : ∃ z_, M110 413 7 = z_ := ⟨_, rfl⟩
              have b122 : 0 ≤ v122 ∧ v122 ≤ 1600 := by rw [← e122]; exact (CI.r hC_M110 (show kd 413 = 44 from rfl) (by decide) 7)
              have hq5 := CZ.adv hq3 hC_M107 hf_M110 e111 e113 w110_0
              clear w110_0
              clear p5
              refine jr.goto rfl rfl ?_
              have e123 : M110 413 0 = v99 := (hf_M110.g (show kd 413 = 44 from rfl) rfl).trans e111
              exact jr.vreturn rfl rfl (q _ hC_M110 ht_M110  (MP.fr w107_0 hC_M107 hf_M110 rfl) (by have hq0 : M110 413 0 = v99 := e123; omega) (by have hq0 : M110 413 8 = v120 := e120; have hq1 : M110 413 6 = v121 := e121; have hq2 : M110 413 7 = v122 := e122; omega) (COP.mk ((hq5.wk (fun _ h => List.mem_cons_of_mem _ h)).le h_ee (by omega)) (fun z => ⟨zr.num z.1.1 hs2 z.1.2 (by omega), znx_gt f (zso_lt (f := f) (N := N) (t := tt) (by omega))⟩)))
            · refine jr.aload_n rfl rfl ?_
              refine jr.bipush rfl (by decide) ?_
              have e125 : M95 413 7 = v6 := (hf_M95.g (show kd 413 = 44 from rfl) rfl).trans e6
              refine jr_v rfl rfl (Or.inl rfl) rfl rfl (by decide) rfl ⟨rfl, Nat.le_of_ble_eq_true rfl, Nat.le_of_ble_eq_true rfl⟩ rfl (jc.deep (c_Parser_fail_z hC_M95 (FR.rfl _ M95) (by omega) e99 e100 e125 (fun M124 hC_M124 hf_M124 w124_0 => ?_)) (by omega))
              have ht_M124 : FR W_par T M124 := FR.t ht_M95 hf_M124 (kw_sub rfl)
              obtain ⟨v126, e126⟩ : ∃ z_, M124 413 0 = z_ := ⟨_, rfl⟩
              have b126 : (-2147483648) ≤ v126 ∧ v126 ≤ 2147483647 := by rw [← e126]; exact (CI.r hC_M124 (show kd 413 = 44 from rfl) (by decide) 0)
              obtain ⟨v127, e127⟩ : ∃ z_, M124 413 1 = z_ := ⟨_, rfl⟩
              have b127 : (-2147483648) ≤ v127 ∧ v127 ≤ 2147483647 := by rw [← e127]; exact (CI.r hC_M124 (show kd 413 = 44 from rfl) (by decide) 1)
              have hq2 := CZ.fai (M := M124) (w := 6) hq1 e99 e100 e125 (by decide) w124_0 (fun h0 tk z => zr.numg z.1 hs2 z.2 (by omega))
              have wf124 := (faA (by decide)) w124_0
              clear w124_0
              refine jr.aload_n rfl rfl ?_
              have e128 : M95 413 2 = v97 := (hf_M95.g (show kd 413 = 44 from rfl) rfl).trans e97
              have e129 : M124 413 2 = v97 := (hf_M124.g (show kd 413 = 44 from rfl) rfl).trans e128
              have k130 : kd (v97).toNat = 47 := ((congrArg (fun z : Int => kd z.toNat) (show M124 413 2 = v97 from e129)).symm.trans (CI.x hC_M124 (show kd 413 = 44 from rfl) 2 rfl (by decide)))
              refine jr.getf (i := 2) (x := v97) (v := .ref (v97.toNat)) rfl rfl (by decide) rfl (by decide) rfl rfl e129 rfl ?_
              refine jr.bipush rfl (by decide) ?_
              refine jr.aload_n rfl rfl ?_
              have e131 : M124 413 9 = v102 := (hf_M124.g (show kd 413 = 44 from rfl) rfl).trans e103
              refine jr.getf (i := 9) (x := v102) (v := .long (Int64.ofInt (v102))) rfl rfl (by decide) rfl (by decide) rfl rfl e131 rfl ?_
              refine jr.l2i rfl ?_
              refine jr.iw (j_w v102) (j_w_eq _) ?_
              have b132 : -2147483648 ≤ j_w v102 ∧ j_w v102 ≤ 2147483647 := jb_any _
              generalize j_w v102 = v132 at b132 ⊢
              obtain ⟨v134, e134⟩ : ∃ z_, M ((v97.toNat)) 2 = z_ := ⟨_, rfl⟩
              have b134 : 0 ≤ v134 ∧ v134 ≤ 932 := by rw [← e134]; exact (CI.r hC_M k130 (by decide) 2)
              have e135 : M95 ((v97.toNat)) 2 = v134 := (hf_M95.g k130 rfl).trans e134
              have e136 : M124 ((v97.toNat)) 2 = v134 := (hf_M124.g k130 rfl).trans e135
              refine jr_v rfl rfl (Or.inl rfl) rfl rfl (Nat.lt_trans (kx_47 k130).1 (by decide)) (kx_47 k130).2 ⟨rfl, Nat.le_of_ble_eq_true rfl, Nat.le_of_ble_eq_true rfl⟩ rfl (jc.deep (c_Program_emit_z hC_M124 (FR.rfl _ M124) k130 (by omega) (by omega) e136 rfl (by have hq0 : M124 413 2 = v97 := e129; omega) (MP.fr w95_0 hC_M95 hf_M124 rfl) (fun r133 M133 hC_M133 hf_M133 z133 w133_0 w133_1 w133_2 => ?_)) (by omega))
              have ht_M133 : FR W_par T M133 := FR.t ht_M124 hf_M133 (kw_sub rfl)
              have hq3 := CZ.emn (p := (v97.toNat)) hq2 hC_M124 hf_M133 (e129.trans (by omega)) e136 w133_2 (by omega) (by omega)
              clear w133_2 w133_1
              refine jr.pop rfl rfl ?_
              refine jr.aload_n rfl rfl ?_
              have e138 : M133 413 0 = v126 := (hf_M133.g (show kd 413 = 44 from rfl) rfl).trans e126
              have e139 : M95 413 8 = v4 := (hf_M95.g (show kd 413 = 44 from rfl) rfl).trans e4
              have e140 : M124 413 8 = v4 := (hf_M124.g (show kd 413 = 44 from rfl) rfl).trans e139
              have e141 : M133 413 8 = v4 := (hf_M133.g (show kd 413 = 44 from rfl) rfl).trans e140
              have e142 : M95 413 3 = v1 := (hf_M95.g (show kd 413 = 44 from rfl) rfl).trans e1
              have e143 : M124 413 3 = v1 := (hf_M124.g (show kd 413 = 44 from rfl) rfl).trans e142
              have e144 : M133 413 3 = v1 := (hf_M133.g (show kd 413 = 44 from rfl) rfl).trans e143
              have e145 : M95 413 6 = v5 := (hf_M95.g (show kd 413 = 44 from rfl) rfl).trans e5
              have e146 : M124 413 6 = v5 := (hf_M124.g (show kd 413 = 44 from rfl) rfl).trans e145
              have e147 : M133 413 6 = v5 := (hf_M133.g (show kd 413 = 44 from rfl) rfl).trans e146
              have e148 : M124 413 7 = v6 := (hf_M124.g (show kd 413 = 44 from rfl) rfl).trans e125
              have e149 : M133 413 7 = v6 := (hf_M133.g (show kd 413 = 44 from rfl) rfl).trans e148
              refine jr_v rfl rfl (Or.inl rfl) rfl rfl (by decide) rfl ⟨rfl, Nat.le_of_ble_eq_true rfl, Nat.le_of_ble_eq_true rfl⟩ rfl (jc.deep (c_Parser_advance_z hC_M133 (FR.rfl _ M133)  e138 e141 (by have hq0 : M133 413 3 = v1 := e144; omega) (TXc.fr (TXc.fr (TXc.fr p4 hf_M95 rfl) hf_M124 rfl) hf_M133 rfl) (by have hq0 : M133 413 8 = v4 := e141; have hq1 : M133 413 6 = v5 := e147; have hq2 : M133 413 7 = v6 := e149; omega) (fun M137 hC_M137 hf_M137 w137_0 w137_1 => ?_)) (by omega))
              have ht_M137 : FR W_par T M137 := FR.t ht_M133 hf_M137 (kw_sub rfl)
              obtain ⟨v150, e150⟩ : ∃ z_, M137 413 8 = z_ := ⟨_, rfl⟩
              have b150 : 0 ≤ v150 ∧ v150 ≤ 1600 := by rw [← e150]; exact (CI.r hC_M137 (show kd 413 = 44 from rfl) (by decide) 8)
              obtain ⟨v151, e151⟩ : ∃ z_, M137 413 6 = z_ := ⟨_, rfl⟩
              have b151 : (-2147483648) ≤ v151 ∧ v151 ≤ 2147483647 := by rw [← e151]; exact (CI.r hC_M137 (show kd 413 = 44 from rfl) (by decide) 6)
              obtain ⟨v152, e152⟩ : ∃ z_, M137 413 7 = z_ := ⟨_, rfl⟩
              have b152 : 0 ≤ v152 ∧ v152 ≤ 1600 := by rw [← e152]; exact (CI.r hC_M137 (show kd 413 = 44 from rfl) (by decide) 7)
              have hq5 := CZ.adv hq3 hC_M133 hf_M137 e138 e141 w137_0
              clear w137_0
              clear p5
              refine jr.goto rfl rfl ?_
              have e153 : M137 413 0 = v126 := (hf_M137.g (show kd 413 = 44 from rfl) rfl).trans e138
              exact jr.vreturn rfl rfl (q _ hC_M137 ht_M137  (MP.fr w133_0 hC_M133 hf_M137 rfl) (by have hq0 : M137 413 0 = v126 := e153; omega) (by have hq0 : M137 413 8 = v150 := e150; have hq1 : M137 413 6 = v151 := e151; have hq2 : M137 413 7 = v152 := e152; omega) (COP.mk ((hq5.wk (fun _ h => List.mem_cons_of_mem _ h)).le h_ee (by omega)) (fun z => z.1.elim)))
        · refine jr.aload_n rfl rfl ?_
          refine jr.bipush rfl (by decide) ?_
          refine jr.iload_n rfl rfl ?_
          obtain ⟨v155, e155⟩ : ∃ z_, M 413 1 = z_ := ⟨_, rfl⟩
          have b155 : (-2147483648) ≤ v155 ∧ v155 ≤ 2147483647 := by rw [← e155]; exact (CI.r hC_M (show kd 413 = 44 from rfl) (by decide) 1)
          obtain ⟨v156, e156⟩ : ∃ z_, M 413 11 = z_ := ⟨_, rfl⟩
          have b156 : 0 ≤ v156 ∧ v156 ≤ 255 := by rw [← e156]; exact (CI.r hC_M (show kd 413 = 44 from rfl) (by decide) 11)
          refine jr_v rfl rfl (Or.inl rfl) rfl rfl (by decide) rfl ⟨rfl, Nat.le_of_ble_eq_true rfl, Nat.le_of_ble_eq_true rfl⟩ rfl (jc.deep (c_Parser_open_z hC_M (FR.rfl _ M) (by omega) (by omega) g_F e155 e6 e5 e4 e156 (by have hq0 : M 413 3 = v1 := e1; omega) p4 (by have hq0 : M 413 8 = v4 := e4; have hq1 : M 413 6 = v5 := e5; have hq2 : M 413 7 = v6 := e6; omega) (fun M154 hC_M154 hf_M154 w154_0 w154_1 w154_2 w154_3 => ?_)) (by omega))
          have ht_M154 : FR W_par T M154 := FR.t ht_M hf_M154 (kw_sub rfl)
          obtain ⟨v157, e157⟩ : ∃ z_, M154 413 0 = z_ := ⟨_, rfl⟩
          have b157 : (-2147483648) ≤ v157 ∧ v157 ≤ 2147483647 := by rw [← e157]; exact (CI.r hC_M154 (show kd 413 = 44 from rfl) (by decide) 0)
          obtain ⟨v158, e158⟩ : ∃ z_, M154 413 1 = z_ := ⟨_, rfl⟩
          have b158 : (-2147483648) ≤ v158 ∧ v158 ≤ 2147483647 := by rw [← e158]; exact (CI.r hC_M154 (show kd 413 = 44 from rfl) (by decide) 1)
          obtain ⟨v159, e159⟩ : ∃ z_, M154 413 8 = z_ := ⟨_, rfl⟩
          have b159 : 0 ≤ v159 ∧ v159 ≤ 1600 := by rw [← e159]; exact (CI.r hC_M154 (show kd 413 = 44 from rfl) (by decide) 8)
          obtain ⟨v160, e160⟩ : ∃ z_, M154 413 6 = z_ := ⟨_, rfl⟩
          have b160 : (-2147483648) ≤ v160 ∧ v160 ≤ 2147483647 := by rw [← e160]; exact (CI.r hC_M154 (show kd 413 = 44 from rfl) (by decide) 6)
          obtain ⟨v161, e161⟩ : ∃ z_, M154 413 7 = z_ := ⟨_, rfl⟩
          have b161 : 0 ≤ v161 ∧ v161 ≤ 1600 := by rw [← e161]; exact (CI.r hC_M154 (show kd 413 = 44 from rfl) (by decide) 7)
          obtain ⟨⟨⟨hTx, ktt, k7, k8, k6, k10, k9, k11⟩, hck⟩, hzr⟩ := CZ.z p6 (by omega)
          have hs3 : zso f N tt = 3 := by omega
          have hs4 := k11 hs3
          clear k9 k10 k11
          have hsg : f tt = 40 := by omega
          have hq1 := CZ.opn p6 hC_M hf_M154 g_F e155 e6 e5 e4 e156 w154_0 w154_2 (fun z y => absurd ⟨hs3, by omega⟩ y) (fun z _ _ hd => zr.parf z hs3 hsg (by omega))
          have wf154 := opF w154_0
          clear w154_0 w154_2
          clear p5
          have hq2 := hq1.imp (fun z => zr.par z.1 hs3 hsg (by have y := z.2.2.2; omega))
          refine jr.aload_n rfl rfl ?_
          refine jr.iconst rfl ?_
          refine jr.iload_n rfl rfl ?_
          refine jr.iconst rfl ?_
          refine jr.iadd rfl ?_
          have e163 : M154 413 3 = v1 := (hf_M154.g (show kd 413 = 44 from rfl) rfl).trans e1
          refine jr_v rfl rfl (Or.inl rfl) rfl rfl (by decide) rfl ⟨rfl, Nat.le_of_ble_eq_true rfl, Nat.le_of_ble_eq_true rfl⟩ rfl (jc.deep (ihP.2.2.1 hC_M154 (FR.rfl _ M154) (by omega) (by omega) e157 (by have hq0 : M154 413 3 = v1 := e163; omega) (by have hq0 : M154 413 0 = v157 := e157; omega) (MP.fr p2 hC_M hf_M154 rfl) (by omega) (TXc.fr p4 hf_M154 rfl) (by have hq0 : M154 413 8 = v159 := e159; have hq1 : M154 413 6 = v160 := e160; have hq2 : M154 413 7 = v161 := e161; omega) hq2 (by omega) h_ee (fun _ => rfl) ⟨_, _, _, _, _, rfl, by decide⟩ (fun M162 hC_M162 hf_M162 w162_0 w162_1 w162_2 w162_3 => ?_)) (by omega))
          have ht_M162 : FR W_par T M162 := FR.t ht_M154 hf_M162 (kw_sub rfl)
          obtain ⟨v164, e164⟩ : ∃ z_, M162 413 0 = z_ := ⟨_, rfl⟩
          have b164 : (-2147483648) ≤ v164 ∧ v164 ≤ 2147483647 := by rw [← e164]; exact (CI.r hC_M162 (show kd 413 = 44 from rfl) (by decide) 0)
          obtain ⟨v165, e165⟩ : ∃ z_, M162 413 8 = z_ := ⟨_, rfl⟩
          have b165 : 0 ≤ v165 ∧ v165 ≤ 1600 := by rw [← e165]; exact (CI.r hC_M162 (show kd 413 = 44 from rfl) (by decide) 8)
          obtain ⟨v166, e166⟩ : ∃ z_, M162 413 6 = z_ := ⟨_, rfl⟩
          have b166 : (-2147483648) ≤ v166 ∧ v166 ≤ 2147483647 := by rw [← e166]; exact (CI.r hC_M162 (show kd 413 = 44 from rfl) (by decide) 6)
          obtain ⟨v167, e167⟩ : ∃ z_, M162 413 7 = z_ := ⟨_, rfl⟩
          have b167 : 0 ≤ v167 ∧ v167 ≤ 1600 := by rw [← e167]; exact (CI.r hC_M162 (show kd 413 = 44 from rfl) (by decide) 7)
          obtain ⟨t1, k1, c1, hu1, hq3⟩ := w162_3
          clear w154_3
          refine jr.aload_n rfl rfl ?_
          refine jr.bipush rfl (by decide) ?_
          obtain ⟨v169, e169⟩ : ∃ z_, M162 413 1 = z_ := ⟨_, rfl⟩
          have b169 : (-2147483648) ≤ v169 ∧ v169 ≤ 2147483647 := by rw [← e169]; exact (CI.r hC_M162 (show kd 413 = 44 from rfl) (by decide) 1)
          obtain ⟨v170, e170⟩ : ∃ z_, M162 413 11 = z_ := ⟨_, rfl⟩
          have b170 : 0 ≤ v170 ∧ v170 ≤ 255 := by rw [← e170]; exact (CI.r hC_M162 (show kd 413 = 44 from rfl) (by decide) 11)
          have e171 : M162 413 3 = v1 := (hf_M162.g (show kd 413 = 44 from rfl) rfl).trans e163
          refine jr_v rfl rfl (Or.inl rfl) rfl rfl (by decide) rfl ⟨rfl, Nat.le_of_ble_eq_true rfl, Nat.le_of_ble_eq_true rfl⟩ rfl (jc.deep (c_Parser_expect_z hC_M162 (FR.rfl _ M162) (by omega) e164 e169 e167 e166 e165 e170 (by have hq0 : M162 413 3 = v1 := e171; omega) (TXc.fr (TXc.fr p4 hf_M154 rfl) hf_M162 rfl) (by have hq0 : M162 413 8 = v165 := e165; have hq1 : M162 413 6 = v166 := e166; have hq2 : M162 413 7 = v167 := e167; omega) (fun M168 hC_M168 hf_M168 w168_0 w168_1 w168_2 => ?_)) (by omega))
          have ht_M168 : FR W_par T M168 := FR.t ht_M162 hf_M168 (kw_sub rfl)
          obtain ⟨v172, e172⟩ : ∃ z_, M168 413 0 = z_ := ⟨_, rfl⟩
          have b172 : (-2147483648) ≤ v172 ∧ v172 ≤ 2147483647 := by rw [← e172]; exact (CI.r hC_M168 (show kd 413 = 44 from rfl) (by decide) 0)
          obtain ⟨v173, e173⟩ : ∃ z_, M168 413 1 = z_ := ⟨_, rfl⟩
          have b173 : (-2147483648) ≤ v173 ∧ v173 ≤ 2147483647 := by rw [← e173]; exact (CI.r hC_M168 (show kd 413 = 44 from rfl) (by decide) 1)
          obtain ⟨v174, e174⟩ : ∃ z_, M168 413 8 = z_ := ⟨_, rfl⟩
          have b174 : 0 ≤ v174 ∧ v174 ≤ 1600 := by rw [← e174]; exact (CI.r hC_M168 (show kd 413 = 44 from rfl) (by decide) 8)
          obtain ⟨v175, e175⟩ : ∃ z_, M168 413 6 = z_ := ⟨_, rfl⟩
          have b175 : (-2147483648) ≤ v175 ∧ v175 ≤ 2147483647 := by rw [← e175]; exact (CI.r hC_M168 (show kd 413 = 44 from rfl) (by decide) 6)
          obtain ⟨v176, e176⟩ : ∃ z_, M168 413 7 = z_ := ⟨_, rfl⟩
          have b176 : 0 ≤ v176 ∧ v176 ≤ 1600 := by rw [← e176]; exact (CI.r hC_M168 (show kd 413 = 44 from rfl) (by decide) 7)
          have hq4 := CZ.exp hq3 hC_M162 hf_M168 e164 e169 e167 e166 e165 e170 w168_0 w168_1 (fun z y => zr.clfR z.1 z.2.1 (by decide) y)
          have wf168 := exF w168_0
          clear w168_0 w168_1
          clear w162_2
          refine jr.goto rfl rfl ?_
          exact jr.vreturn rfl rfl (q _ hC_M168 ht_M168  (MP.fr w162_0 hC_M162 hf_M168 rfl) (by have hq0 : M168 413 0 = v172 := e172; omega) (by have hq0 : M168 413 8 = v174 := e174; have hq1 : M168 413 6 = v175 := e175; have hq2 : M168 413 7 = v176 := e176; omega) (COP.mk hq4 (fun z => ⟨by have y := zr.clR z.1.1 (by decide) z.2; rw [show dd + 1 - 1 = dd by omega] at y; exact y, by have g1 := znx_ge f N tt; have g2 := znx_ge f N t1; omega⟩)))
      · refine jr.aload_n rfl rfl ?_
        obtain ⟨v177, e177⟩ : ∃ z_, M 413 11 = z_ := ⟨_, rfl⟩
        have b177 : 0 ≤ v177 ∧ v177 ≤ 255 := by rw [← e177]; exact (CI.r hC_M (show kd 413 = 44 from rfl) (by decide) 11)
        refine jr.getf (i := 11) (x := v177) (v := .int (Int32.ofInt (v177))) rfl rfl (by decide) rfl (by decide) rfl rfl e177 rfl ?_
        refine jr.bipush rfl (by decide) ?_
        refine jr.icmp_ne rfl rfl (by omega) (by omega) (fun h32 => ?_) (fun h32 => ?_)
        · refine jr.sipush rfl (by decide) ?_
          refine jr.istore_n rfl (by decide) rfl ?_
          refine jr.aload_n rfl rfl ?_
          obtain ⟨v179, e179⟩ : ∃ z_, M 413 1 = z_ := ⟨_, rfl⟩
          have b179 : (-2147483648) ≤ v179 ∧ v179 ≤ 2147483647 := by rw [← e179]; exact (CI.r hC_M (show kd 413 = 44 from rfl) (by decide) 1)
          obtain ⟨v180, e180⟩ : ∃ z_, M 413 2 = z_ := ⟨_, rfl⟩
          have b180 : 0 ≤ v180 ∧ v180 ≤ 597 := by rw [← e180]; exact (CI.r hC_M (show kd 413 = 44 from rfl) (by decide) 2)
          have k178_P : kd (v180).toNat = 47 := (congrArg (fun z : Int => kd z.toNat) e180).symm.trans (CI.x hC_M (show kd 413 = 44 from rfl) 2 rfl (by decide))
          obtain ⟨v181, e181⟩ : ∃ z_, M ((v180.toNat)) 4 = z_ := ⟨_, rfl⟩
          have b181 : (-2147483648) ≤ v181 ∧ v181 ≤ 2147483647 := by rw [← e181]; exact (CI.r hC_M k178_P (by decide) 4)
          refine jr_v rfl rfl (Or.inl rfl) rfl rfl (by decide) rfl ⟨rfl, Nat.le_of_ble_eq_true rfl, Nat.le_of_ble_eq_true rfl⟩ rfl (jc.deep (c_Parser_countNode_z hC_M (FR.rfl _ M)  g_F e179 e6 e180 e181 p2 (fun M178 hC_M178 hf_M178 w178_0 w178_1 => ?_)) (by omega))
          have ht_M178 : FR W_par T M178 := FR.t ht_M hf_M178 (kw_sub rfl)
          obtain ⟨v182, e182⟩ : ∃ z_, M178 413 0 = z_ := ⟨_, rfl⟩
          have b182 : (-2147483648) ≤ v182 ∧ v182 ≤ 2147483647 := by rw [← e182]; exact (CI.r hC_M178 (show kd 413 = 44 from rfl) (by decide) 0)
          obtain ⟨v183, e183⟩ : ∃ z_, M178 413 1 = z_ := ⟨_, rfl⟩
          have b183 : (-2147483648) ≤ v183 ∧ v183 ≤ 2147483647 := by rw [← e183]; exact (CI.r hC_M178 (show kd 413 = 44 from rfl) (by decide) 1)
          obtain ⟨v184, e184⟩ : ∃ z_, M178 ((v180.toNat)) 4 = z_ := ⟨_, rfl⟩
          have b184 : (-2147483648) ≤ v184 ∧ v184 ≤ 2147483647 := by rw [← e184]; exact (CI.r hC_M178 k178_P (by decide) 4)
          obtain ⟨⟨⟨hTx, ktt, k7, k8, k6, k10, k9, k11⟩, hck⟩, hzr⟩ := CZ.z p6 (by omega)
          have hs3 : zso f N tt = 3 := by omega
          have hs4 := k11 hs3
          clear k9 k10 k11
          have hsg : f tt = 45 ∨ f tt = 33 := by omega
          have hq1 := CZ.node p6 hC_M hf_M178 g_F e179 e6 e180 e181 w178_1 (fun z hk => zr.unaf z hs3 hsg (by omega))
          have wf178 := ndF w178_1
          clear w178_1
          refine jr.aload_n rfl rfl ?_
          refine jr.aload_n rfl rfl ?_
          have e185 : M178 413 11 = v177 := (hf_M178.g (show kd 413 = 44 from rfl) rfl).trans e177
          refine jr.getf (i := 11) (x := v177) (v := .int (Int32.ofInt (v177))) rfl rfl (by decide) rfl (by decide) rfl rfl e185 rfl ?_
          refine jr.iload_n rfl rfl ?_
          have e187 : M178 413 7 = v6 := (hf_M178.g (show kd 413 = 44 from rfl) rfl).trans e6
          have e188 : M178 413 6 = v5 := (hf_M178.g (show kd 413 = 44 from rfl) rfl).trans e5
          have e189 : M178 413 8 = v4 := (hf_M178.g (show kd 413 = 44 from rfl) rfl).trans e4
          have e190 : M178 413 3 = v1 := (hf_M178.g (show kd 413 = 44 from rfl) rfl).trans e1
          refine jr_v rfl rfl (Or.inl rfl) rfl rfl (by decide) rfl ⟨rfl, Nat.le_of_ble_eq_true rfl, Nat.le_of_ble_eq_true rfl⟩ rfl (jc.deep (c_Parser_open_z hC_M178 (FR.rfl _ M178) (by omega) (by omega) e182 e183 e187 e188 e189 e185 (by have hq0 : M178 413 3 = v1 := e190; omega) (TXc.fr p4 hf_M178 rfl) (by have hq0 : M178 413 8 = v4 := e189; have hq1 : M178 413 6 = v5 := e188; have hq2 : M178 413 7 = v6 := e187; omega) (fun M186 hC_M186 hf_M186 w186_0 w186_1 w186_2 w186_3 => ?_)) (by omega))
          have ht_M186 : FR W_par T M186 := FR.t ht_M178 hf_M186 (kw_sub rfl)
          obtain ⟨v191, e191⟩ : ∃ z_, M186 413 0 = z_ := ⟨_, rfl⟩
          have b191 : (-2147483648) ≤ v191 ∧ v191 ≤ 2147483647 := by rw [← e191]; exact (CI.r hC_M186 (show kd 413 = 44 from rfl) (by decide) 0)
          obtain ⟨v192, e192⟩ : ∃ z_, M186 413 1 = z_ := ⟨_, rfl⟩
          have b192 : (-2147483648) ≤ v192 ∧ v192 ≤ 2147483647 := by rw [← e192]; exact (CI.r hC_M186 (show kd 413 = 44 from rfl) (by decide) 1)
          obtain ⟨v193, e193⟩ : ∃ z_, M186 413 8 = z_ := ⟨_, rfl⟩
          have b193 : 0 ≤ v193 ∧ v193 ≤ 1600 := by rw [← e193]; exact (CI.r hC_M186 (show kd 413 = 44 from rfl) (by decide) 8)
          obtain ⟨v194, e194⟩ : ∃ z_, M186 413 6 = z_ := ⟨_, rfl⟩
          have b194 : (-2147483648) ≤ v194 ∧ v194 ≤ 2147483647 := by rw [← e194]; exact (CI.r hC_M186 (show kd 413 = 44 from rfl) (by decide) 6)
          obtain ⟨v195, e195⟩ : ∃ z_, M186 413 7 = z_ := ⟨_, rfl⟩
          have b195 : 0 ≤ v195 ∧ v195 ≤ 1600 := by rw [← e195]; exact (CI.r hC_M186 (show kd 413 = 44 from rfl) (by decide) 7)
          have hq2 := CZ.opn hq1 hC_M178 hf_M186 e182 e183 e187 e188 e189 e185 w186_0 w186_2 (fun z y => absurd ⟨hs3, by omega⟩ y) (fun z _ _ hd => zr.unaf z.1 hs3 hsg (by omega))
          have wf186 := opF w186_0
          clear w186_0 w186_2
          clear p5
          have hq3 := hq2.imp (fun z => zr.una z.1.1 hs3 hsg z.1.2 (by have y := z.2.2.2; omega))
          refine jr.aload_n rfl rfl ?_
          refine jr.iload_n rfl rfl ?_
          refine jr.iconst rfl ?_
          refine jr.iadd rfl ?_
          have e197 : M186 413 3 = v1 := (hf_M186.g (show kd 413 = 44 from rfl) rfl).trans e190
          refine jr_v rfl rfl (Or.inl rfl) rfl rfl (by decide) rfl ⟨rfl, Nat.le_of_ble_eq_true rfl, Nat.le_of_ble_eq_true rfl⟩ rfl (jc.deep (ihP.2.1 hC_M186 (FR.rfl _ M186) (by omega) e191 (by have hq0 : M186 413 3 = v1 := e197; omega) (by have hq0 : M186 413 0 = v191 := e191; omega) (MP.fr w178_0 hC_M178 hf_M186 rfl) (by omega) (TXc.fr (TXc.fr p4 hf_M178 rfl) hf_M186 rfl) (by have hq0 : M186 413 8 = v193 := e193; have hq1 : M186 413 6 = v194 := e194; have hq2 : M186 413 7 = v195 := e195; omega) hq3 (by omega) (by omega) (fun M196 hC_M196 hf_M196 w196_0 w196_1 w196_2 w196_3 => ?_)) (by omega))
          have ht_M196 : FR W_par T M196 := FR.t ht_M186 hf_M196 (kw_sub rfl)
          obtain ⟨v198, e198⟩ : ∃ z_, M196 413 0 = z_ := ⟨_, rfl⟩
          have b198 : (-2147483648) ≤ v198 ∧ v198 ≤ 2147483647 := by rw [← e198]; exact (CI.r hC_M196 (show kd 413 = 44 from rfl) (by decide) 0)
          obtain ⟨v199, e199⟩ : ∃ z_, M196 413 8 = z_ := ⟨_, rfl⟩
          have b199 : 0 ≤ v199 ∧ v199 ≤ 1600 := by rw [← e199]; exact (CI.r hC_M196 (show kd 413 = 44 from rfl) (by decide) 8)
          obtain ⟨v200, e200⟩ : ∃ z_, M196 413 6 = z_ := ⟨_, rfl⟩
          have b200 : (-2147483648) ≤ v200 ∧ v200 ≤ 2147483647 := by rw [← e200]; exact (CI.r hC_M196 (show kd 413 = 44 from rfl) (by decide) 6)
          obtain ⟨v201, e201⟩ : ∃ z_, M196 413 7 = z_ := ⟨_, rfl⟩
          have b201 : 0 ≤ v201 ∧ v201 ≤ 1600 := by rw [← e201]; exact (CI.r hC_M196 (show kd 413 = 44 from rfl) (by decide) 7)
          obtain ⟨t1, k1, hu1, hq4⟩ := w196_3
          clear w186_3
          refine jr.aload_n rfl rfl ?_
          have e202 : M178 413 2 = v180 := (hf_M178.g (show kd 413 = 44 from rfl) rfl).trans e180
          have e203 : M186 413 2 = v180 := (hf_M186.g (show kd 413 = 44 from rfl) rfl).trans e202
          have e204 : M196 413 2 = v180 := (hf_M196.g (show kd 413 = 44 from rfl) rfl).trans e203
          have k205 : kd (v180).toNat = 47 := ((congrArg (fun z : Int => kd z.toNat) (show M196 413 2 = v180 from e204)).symm.trans (CI.x hC_M196 (show kd 413 = 44 from rfl) 2 rfl (by decide)))
          refine jr.getf (i := 2) (x := v180) (v := .ref (v180.toNat)) rfl rfl (by decide) rfl (by decide) rfl rfl e204 rfl ?_
          refine jr.iload_n rfl rfl ?_
          refine jr.iconst rfl ?_
          obtain ⟨v207, e207⟩ : ∃ z_, M196 ((v180.toNat)) 2 = z_ := ⟨_, rfl⟩
          have b207 : 0 ≤ v207 ∧ v207 ≤ 932 := by rw [← e207]; exact (CI.r hC_M196 k205 (by decide) 2)
          refine jr_v rfl rfl (Or.inl rfl) rfl rfl (Nat.lt_trans (kx_47 k205).1 (by decide)) (kx_47 k205).2 ⟨rfl, Nat.le_of_ble_eq_true rfl, Nat.le_of_ble_eq_true rfl⟩ rfl (jc.deep (c_Program_emit_z hC_M196 (FR.rfl _ M196) k205 (by omega) (by omega) e207 rfl (by have hq0 : M196 413 2 = v180 := e204; omega) w196_0 (fun r206 M206 hC_M206 hf_M206 z206 w206_0 w206_1 w206_2 => ?_)) (by omega))
          have ht_M206 : FR W_par T M206 := FR.t ht_M196 hf_M206 (kw_sub rfl)
          have hq5 := CZ.emn (p := (v180.toNat)) hq4 hC_M196 hf_M206 (e204.trans (by omega)) e207 w206_2 (by omega) (by omega)
          clear w206_2 w206_1
          refine jr.pop rfl rfl ?_
          refine jr.goto rfl rfl ?_
          have e208 : M206 413 8 = v199 := (hf_M206.g (show kd 413 = 44 from rfl) rfl).trans e199
          have e209 : M206 413 6 = v200 := (hf_M206.g (show kd 413 = 44 from rfl) rfl).trans e200
          have e210 : M206 413 7 = v201 := (hf_M206.g (show kd 413 = 44 from rfl) rfl).trans e201
          have e211 : M206 413 0 = v198 := (hf_M206.g (show kd 413 = 44 from rfl) rfl).trans e198
          exact jr.vreturn rfl rfl (q _ hC_M206 ht_M206  w206_0 (by have hq0 : M206 413 0 = v198 := e211; omega) (by have hq0 : M206 413 8 = v199 := e208; have hq1 : M206 413 6 = v200 := e209; have hq2 : M206 413 7 = v201 := e210; omega) (COP.mk ((hq5.wk (fun _ h => List.mem_cons_of_mem _ h)).le h_ee (by omega)) (fun z => ⟨by have y := zr.pop z.1; rw [show dd + 1 - 1 = dd by omega] at y; exact y, by have g1 := znx_ge f N tt; omega⟩)))
        · refine jr.sipush rfl (by decide) ?_
          refine jr.goto rfl rfl ?_
          refine jr.istore_n rfl (by decide) rfl ?_
          refine jr.aload_n rfl rfl ?_
          obtain ⟨v213, e213⟩ : ∃ z_, M 413 1 = z_ := ⟨_, rfl⟩
          have b213 : (-2147483648) ≤ v213 ∧ v213 ≤ 2147483647 := by rw [← e213]; exact (CI.r hC_M (show kd 413 = 44 from rfl) (by decide) 1)
          obtain ⟨v214, e214⟩ : ∃ z_, M 413 2 = z_ := ⟨_, rfl⟩
          have b214 : 0 ≤ v214 ∧ v214 ≤ 597 := by rw [← e214]; exact (CI.r hC_M (show kd 413 = 44 from rfl) (by decide) 2)
          have k212_P : kd (v214).toNat = 47 := (congrArg (fun z : Int => kd z.toNat) e214).symm.trans (CI.x hC_M (show kd 413 = 44 from rfl) 2 rfl (by decide))
          obtain ⟨v215, e215⟩ : ∃ z_, M ((v214.toNat)) 4 = z_ := ⟨_, rfl⟩
          have b215 : (-2147483648) ≤ v215 ∧ v215 ≤ 2147483647 := by rw [← e215]; exact (CI.r hC_M k212_P (by decide) 4)
          refine jr_v rfl rfl (Or.inl rfl) rfl rfl (by decide) rfl ⟨rfl, Nat.le_of_ble_eq_true rfl, Nat.le_of_ble_eq_true rfl⟩ rfl (jc.deep (c_Parser_countNode_z hC_M (FR.rfl _ M)  g_F e213 e6 e214 e215 p2 (fun M212 hC_M212 hf_M212 w212_0 w212_1 => ?_)) (by omega))
          have ht_M212 : FR W_par T M212 := FR.t ht_M hf_M212 (kw_sub rfl)
          obtain ⟨v216, e216⟩ : ∃ z_, M212 413 0 = z_ := ⟨_, rfl⟩
          have b216 : (-2147483648) ≤ v216 ∧ v216 ≤ 2147483647 := by rw [← e216]; exact (CI.r hC_M212 (show kd 413 = 44 from rfl) (by decide) 0)
          obtain ⟨v217, e217⟩ : ∃ z_, M212 413 1 = z_ := ⟨_, rfl⟩
          have b217 : (-2147483648) ≤ v217 ∧ v217 ≤ 2147483647 := by rw [← e217]; exact (CI.r hC_M212 (show kd 413 = 44 from rfl) (by decide) 1)
          obtain ⟨v218, e218⟩ : ∃ z_, M212 ((v214.toNat)) 4 = z_ := ⟨_, rfl⟩
          have b218 : (-2147483648) ≤ v218 ∧ v218 ≤ 2147483647 := by rw [← e218]; exact (CI.r hC_M212 k212_P (by decide) 4)
          obtain ⟨⟨⟨hTx, ktt, k7, k8, k6, k10, k9, k11⟩, hck⟩, hzr⟩ := CZ.z p6 (by omega)
          have hs3 : zso f N tt = 3 := by omega
          have hs4 := k11 hs3
          clear k9 k10 k11
          have hsg : f tt = 45 ∨ f tt = 33 := by omega
          have hq1 := CZ.node p6 hC_M hf_M212 g_F e213 e6 e214 e215 w212_1 (fun z hk => zr.unaf z hs3 hsg (by omega))
          have wf212 := ndF w212_1
          clear w212_1
          refine jr.aload_n rfl rfl ?_
          refine jr.aload_n rfl rfl ?_
          have e219 : M212 413 11 = v177 := (hf_M212.g (show kd 413 = 44 from rfl) rfl).trans e177
          refine jr.getf (i := 11) (x := v177) (v := .int (Int32.ofInt (v177))) rfl rfl (by decide) rfl (by decide) rfl rfl e219 rfl ?_
          refine jr.iload_n rfl rfl ?_
          have e221 : M212 413 7 = v6 := (hf_M212.g (show kd 413 = 44 from rfl) rfl).trans e6
          have e222 : M212 413 6 = v5 := (hf_M212.g (show kd 413 = 44 from rfl) rfl).trans e5
          have e223 : M212 413 8 = v4 := (hf_M212.g (show kd 413 = 44 from rfl) rfl).trans e4
          have e224 : M212 413 3 = v1 := (hf_M212.g (show kd 413 = 44 from rfl) rfl).trans e1
          refine jr_v rfl rfl (Or.inl rfl) rfl rfl (by decide) rfl ⟨rfl, Nat.le_of_ble_eq_true rfl, Nat.le_of_ble_eq_true rfl⟩ rfl (jc.deep (c_Parser_open_z hC_M212 (FR.rfl _ M212) (by omega) (by omega) e216 e217 e221 e222 e223 e219 (by have hq0 : M212 413 3 = v1 := e224; omega) (TXc.fr p4 hf_M212 rfl) (by have hq0 : M212 413 8 = v4 := e223; have hq1 : M212 413 6 = v5 := e222; have hq2 : M212 413 7 = v6 := e221; omega) (fun M220 hC_M220 hf_M220 w220_0 w220_1 w220_2 w220_3 => ?_)) (by omega))
          have ht_M220 : FR W_par T M220 := FR.t ht_M212 hf_M220 (kw_sub rfl)
          obtain ⟨v225, e225⟩ : ∃ z_, M220 413 0 = z_ := ⟨_, rfl⟩
          have b225 : (-2147483648) ≤ v225 ∧ v225 ≤ 2147483647 := by rw [← e225]; exact (CI.r hC_M220 (show kd 413 = 44 from rfl) (by decide) 0)
          obtain ⟨v226, e226⟩ : ∃ z_, M220 413 1 = z_ := ⟨_, rfl⟩
          have b226 : (-2147483648) ≤ v226 ∧ v226 ≤ 2147483647 := by rw [← e226]; exact (CI.r hC_M220 (show kd 413 = 44 from rfl) (by decide) 1)
          obtain ⟨v227, e227⟩ : ∃ z_, M220 413 8 = z_ := ⟨_, rfl⟩
          have b227 : 0 ≤ v227 ∧ v227 ≤ 1600 := by rw [← e227]; exact (CI.r hC_M220 (show kd 413 = 44 from rfl) (by decide) 8)
          obtain ⟨v228, e228⟩ : ∃ z_, M220 413 6 = z_ := ⟨_, rfl⟩
          have b228 : (-2147483648) ≤ v228 ∧ v228 ≤ 2147483647 := by rw [← e228]; exact (CI.r hC_M220 (show kd 413 = 44 from rfl) (by decide) 6)
          obtain ⟨v229, e229⟩ : ∃ z_, M220 413 7 = z_ := ⟨_, rfl⟩
          have b229 : 0 ≤ v229 ∧ v229 ≤ 1600 := by rw [← e229]; exact (CI.r hC_M220 (show kd 413 = 44 from rfl) (by decide) 7)
          have hq2 := CZ.opn hq1 hC_M212 hf_M220 e216 e217 e221 e222 e223 e219 w220_0 w220_2 (fun z y => absurd ⟨hs3, by omega⟩ y) (fun z _ _ hd => zr.unaf z.1 hs3 hsg (by omega))
          have wf220 := opF w220_0
          clear w220_0 w220_2
          clear p5
          have hq3 := hq2.imp (fun z => zr.una z.1.1 hs3 hsg z.1.2 (by have y := z.2.2.2; omega))
          refine jr.aload_n rfl rfl ?_
          refine jr.iload_n rfl rfl ?_
          refine jr.iconst rfl ?_
          refine jr.iadd rfl ?_
          have e231 : M220 413 3 = v1 := (hf_M220.g (show kd 413 = 44 from rfl) rfl).trans e224
          refine jr_v rfl rfl (Or.inl rfl) rfl rfl (by decide) rfl ⟨rfl, Nat.le_of_ble_eq_true rfl, Nat.le_of_ble_eq_true rfl⟩ rfl (jc.deep (ihP.2.1 hC_M220 (FR.rfl _ M220) (by omega) e225 (by have hq0 : M220 413 3 = v1 := e231; omega) (by have hq0 : M220 413 0 = v225 := e225; omega) (MP.fr w212_0 hC_M212 hf_M220 rfl) (by omega) (TXc.fr (TXc.fr p4 hf_M212 rfl) hf_M220 rfl) (by have hq0 : M220 413 8 = v227 := e227; have hq1 : M220 413 6 = v228 := e228; have hq2 : M220 413 7 = v229 := e229; omega) hq3 (by omega) (by omega) (fun M230 hC_M230 hf_M230 w230_0 w230_1 w230_2 w230_3 => ?_)) (by omega))
          have ht_M230 : FR W_par T M230 := FR.t ht_M220 hf_M230 (kw_sub rfl)
          obtain ⟨v232, e232⟩ : ∃ z_, M230 413 0 = z_ := ⟨_, rfl⟩
          have b232 : (-2147483648) ≤ v232 ∧ v232 ≤ 2147483647 := by rw [← e232]; exact (CI.r hC_M230 (show kd 413 = 44 from rfl) (by decide) 0)
          obtain ⟨v233, e233⟩ : ∃ z_, M230 413 8 = z_ := ⟨_, rfl⟩
          have b233 : 0 ≤ v233 ∧ v233 ≤ 1600 := by rw [← e233]; exact (CI.r hC_M230 (show kd 413 = 44 from rfl) (by decide) 8)
          obtain ⟨v234, e234⟩ : ∃ z_, M230 413 6 = z_ := ⟨_, rfl⟩
          have b234 : (-2147483648) ≤ v234 ∧ v234 ≤ 2147483647 := by rw [← e234]; exact (CI.r hC_M230 (show kd 413 = 44 from rfl) (by decide) 6)
          obtain ⟨v235, e235⟩ : ∃ z_, M230 413 7 = z_ := ⟨_, rfl⟩
          have b235 : 0 ≤ v235 ∧ v235 ≤ 1600 := by rw [← e235]; exact (CI.r hC_M230 (show kd 413 = 44 from rfl) (by decide) 7)
          obtain ⟨t1, k1, hu1, hq4⟩ := w230_3
          clear w220_3
          refine jr.aload_n rfl rfl ?_
          have e236 : M212 413 2 = v214 := (hf_M212.g (show kd 413 = 44 from rfl) rfl).trans e214
          have e237 : M220 413 2 = v214 := (hf_M220.g (show kd 413 = 44 from rfl) rfl).trans e236
          have e238 : M230 413 2 = v214 := (hf_M230.g (show kd 413 = 44 from rfl) rfl).trans e237
          have k239 : kd (v214).toNat = 47 := ((congrArg (fun z : Int => kd z.toNat) (show M230 413 2 = v214 from e238)).symm.trans (CI.x hC_M230 (show kd 413 = 44 from rfl) 2 rfl (by decide)))
          refine jr.getf (i := 2) (x := v214) (v := .ref (v214.toNat)) rfl rfl (by decide) rfl (by decide) rfl rfl e238 rfl ?_
          refine jr.iload_n rfl rfl ?_
          refine jr.iconst rfl ?_
          obtain ⟨v241, e241⟩ : ∃ z_, M230 ((v214.toNat)) 2 = z_ := ⟨_, rfl⟩
          have b241 : 0 ≤ v241 ∧ v241 ≤ 932 := by rw [← e241]; exact (CI.r hC_M230 k239 (by decide) 2)
          refine jr_v rfl rfl (Or.inl rfl) rfl rfl (Nat.lt_trans (kx_47 k239).1 (by decide)) (kx_47 k239).2 ⟨rfl, Nat.le_of_ble_eq_true rfl, Nat.le_of_ble_eq_true rfl⟩ rfl (jc.deep (c_Program_emit_z hC_M230 (FR.rfl _ M230) k239 (by omega) (by omega) e241 rfl (by have hq0 : M230 413 2 = v214 := e238; omega) w230_0 (fun r240 M240 hC_M240 hf_M240 z240 w240_0 w240_1 w240_2 => ?_)) (by omega))
          have ht_M240 : FR W_par T M240 := FR.t ht_M230 hf_M240 (kw_sub rfl)
          have hq5 := CZ.emn (p := (v214.toNat)) hq4 hC_M230 hf_M240 (e238.trans (by omega)) e241 w240_2 (by omega) (by omega)
          clear w240_2 w240_1
          refine jr.pop rfl rfl ?_
          refine jr.goto rfl rfl ?_
          have e242 : M240 413 8 = v233 := (hf_M240.g (show kd 413 = 44 from rfl) rfl).trans e233
          have e243 : M240 413 6 = v234 := (hf_M240.g (show kd 413 = 44 from rfl) rfl).trans e234
          have e244 : M240 413 7 = v235 := (hf_M240.g (show kd 413 = 44 from rfl) rfl).trans e235
          have e245 : M240 413 0 = v232 := (hf_M240.g (show kd 413 = 44 from rfl) rfl).trans e232
          exact jr.vreturn rfl rfl (q _ hC_M240 ht_M240  w240_0 (by have hq0 : M240 413 0 = v232 := e245; omega) (by have hq0 : M240 413 8 = v233 := e242; have hq1 : M240 413 6 = v234 := e243; have hq2 : M240 413 7 = v235 := e244; omega) (COP.mk ((hq5.wk (fun _ h => List.mem_cons_of_mem _ h)).le h_ee (by omega)) (fun z => ⟨by have y := zr.pop z.1; rw [show dd + 1 - 1 = dd by omega] at y; exact y, by have g1 := znx_ge f N tt; omega⟩)))
  · exact jr.vreturn rfl rfl (q _ hC_M ht_M  p2 (by have hq0 : M 413 0 = F := g_F; omega) (by have hq0 : M 413 8 = v4 := e4; have hq1 : M 413 6 = v5 := e5; have hq2 : M 413 7 = v6 := e6; omega) (COP.flt (by omega) p6))
