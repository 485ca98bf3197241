theorem c_Parser_askingWord_z {A : Nat → Option (Nat × (Nat → Int32))} [HA A] {n : Nat} (ihP : PXz A n) : PXz_ask A (n + 1) := by
  intro Q G f N xs tt kk dd cc bh ee sg nm ak fz T M hC_M ht_M x h_x  p0 p1 p2 p3 p4 p5 p6 p7 p8 p9 p10 p11 q
  have h_ee := p7
  refine jc_of (m := xm_207) rfl (Nat.le_of_ble_eq_true rfl) rfl ?_
  obtain ⟨v1, e1⟩ : ∃ z_, M 413 3 = z_ := ⟨_, rfl⟩
  have b1 : 1 ≤ v1 ∧ v1 ≤ 419 := by rw [← e1]; exact (CI.r hC_M (show kd 413 = 44 from rfl) (by decide) 3)
  have b2 : 1 ≤ v1 ∧ v1 ≤ 1 := by rw [← e1]; exact p0
  obtain ⟨v3, e3⟩ : ∃ z_, M 413 8 = z_ := ⟨_, rfl⟩
  have b3 : 0 ≤ v3 ∧ v3 ≤ 1600 := by rw [← e3]; exact (CI.r hC_M (show kd 413 = 44 from rfl) (by decide) 8)
  obtain ⟨v4, e4⟩ : ∃ z_, M 413 6 = z_ := ⟨_, rfl⟩
  have b4 : (-2147483648) ≤ v4 ∧ v4 ≤ 2147483647 := by rw [← e4]; exact (CI.r hC_M (show kd 413 = 44 from rfl) (by decide) 6)
  obtain ⟨v5, e5⟩ : ∃ z_, M 413 7 = z_ := ⟨_, rfl⟩
  have b5 : 0 ≤ v5 ∧ v5 ≤ 1600 := by rw [← e5]; exact (CI.r hC_M (show kd 413 = 44 from rfl) (by decide) 7)
  obtain ⟨v6, e6⟩ : ∃ z_, M 413 0 = z_ := ⟨_, rfl⟩
  have b6 : (-2147483648) ≤ v6 ∧ v6 ≤ 2147483647 := by rw [← e6]; exact (CI.r hC_M (show kd 413 = 44 from rfl) (by decide) 0)
  refine jr.aload_n rfl rfl ?_
  refine jr.getf (i := 6) (x := v4) (v := .int (Int32.ofInt (v4))) rfl rfl (by decide) rfl (by decide) rfl rfl e4 rfl ?_
  refine jr.iconst rfl ?_
  refine jr.icmp_ne rfl rfl (by omega) (by omega) (fun h5 => ?_) (fun h5 => ?_)
  · refine jr.iconst rfl ?_
    refine jr.istore_n rfl (by decide) rfl ?_
    refine jr.iload_n rfl rfl ?_
    refine jr.bipush rfl (by decide) ?_
    refine jr.icmp_eq rfl rfl (by omega) (by omega) (fun h => absurd h (by decide)) (fun _ => ?_)
    refine jr.iload_n rfl rfl ?_
    refine jr.bipush rfl (by decide) ?_
    refine jr.icmp_lt rfl rfl (by omega) (by omega) (fun _ => ?_) (fun h => absurd (by decide) h)
    refine jr.aload_n rfl rfl ?_
    obtain ⟨v8, e8⟩ : ∃ z_, M 413 1 = z_ := ⟨_, rfl⟩
    have b8 : (-2147483648) ≤ v8 ∧ v8 ≤ 2147483647 := by rw [← e8]; exact (CI.r hC_M (show kd 413 = 44 from rfl) (by decide) 1)
    refine jr_v rfl rfl (Or.inl rfl) rfl rfl (by decide) rfl ⟨rfl, Nat.le_of_ble_eq_true rfl, Nat.le_of_ble_eq_true rfl⟩ rfl (jc.deep (c_Parser_refuse_z hC_M (FR.rfl _ M)  e6 e8 e5 e4 (fun M7 hC_M7 hf_M7 w7_0 => ?_)) (by omega))
    have ht_M7 : FR W_par T M7 := FR.t ht_M hf_M7 (kw_sub rfl)
    obtain ⟨v9, e9⟩ : ∃ z_, M7 413 0 = z_ := ⟨_, rfl⟩
    have b9 : (-2147483648) ≤ v9 ∧ v9 ≤ 2147483647 := by rw [← e9]; exact (CI.r hC_M7 (show kd 413 = 44 from rfl) (by decide) 0)
    obtain ⟨v10, e10⟩ : ∃ z_, M7 413 1 = z_ := ⟨_, rfl⟩
    have b10 : (-2147483648) ≤ v10 ∧ v10 ≤ 2147483647 := by rw [← e10]; exact (CI.r hC_M7 (show kd 413 = 44 from rfl) (by decide) 1)
    have hq1 := CZ.rfs (M := M7) p5 e6 e8 e5 e4 w7_0 (fun h0 tk z => zr.opr z p9 p10 (fun q => by obtain ⟨_, _, c7, c8, c6, c10, c9, c11⟩ := tk; have q2 := c10 q; have q3 := p11 q; exact zcv_ask (by omega) (by omega)))
    clear w7_0
    have e11 : M7 413 8 = v3 := (hf_M7.g (show kd 413 = 44 from rfl) rfl).trans e3
    have e12 : M7 413 6 = v4 := (hf_M7.g (show kd 413 = 44 from rfl) rfl).trans e4
    have e13 : M7 413 7 = v5 := (hf_M7.g (show kd 413 = 44 from rfl) rfl).trans e5
    exact jr.vreturn rfl rfl (q _ hC_M7 ht_M7  (MP.fr p1 hC_M hf_M7 rfl) (by have hq0 : M7 413 8 = v3 := e11; have hq1 : M7 413 6 = v4 := e12; have hq2 : M7 413 7 = v5 := e13; omega) (COP.mk (hq1.le h_ee (by omega)) (fun z => z.elim)))
  · refine jr.aload_n rfl rfl ?_
    obtain ⟨v14, e14⟩ : ∃ z_, M 413 10 = z_ := ⟨_, rfl⟩
    have b14 : (-2147483648) ≤ v14 ∧ v14 ≤ 2147483647 := by rw [← e14]; exact (CI.r hC_M (show kd 413 = 44 from rfl) (by decide) 10)
    refine jr.getf (i := 10) (x := v14) (v := .int (Int32.ofInt (v14))) rfl rfl (by decide) rfl (by decide) rfl rfl e14 rfl ?_
    refine jr.goto rfl rfl ?_
    refine jr.istore_n rfl (by decide) rfl ?_
    refine jr.iload_n rfl rfl ?_
    refine jr.bipush rfl (by decide) ?_
    refine jr.icmp_eq rfl rfl (by omega) (by omega) (fun h20 => ?_) (fun h20 => ?_)
    · refine jr.aload_n rfl rfl ?_
      obtain ⟨v16, e16⟩ : ∃ z_, M 413 1 = z_ := ⟨_, rfl⟩
      have b16 : (-2147483648) ≤ v16 ∧ v16 ≤ 2147483647 := by rw [← e16]; exact (CI.r hC_M (show kd 413 = 44 from rfl) (by decide) 1)
      obtain ⟨v17, e17⟩ : ∃ z_, M 413 2 = z_ := ⟨_, rfl⟩
      have b17 : 0 ≤ v17 ∧ v17 ≤ 597 := by rw [← e17]; exact (CI.r hC_M (show kd 413 = 44 from rfl) (by decide) 2)
      have k15_P : kd (v17).toNat = 47 := (congrArg (fun z : Int => kd z.toNat) e17).symm.trans (CI.x hC_M (show kd 413 = 44 from rfl) 2 rfl (by decide))
      obtain ⟨v18, e18⟩ : ∃ z_, M ((v17.toNat)) 4 = z_ := ⟨_, rfl⟩
      have b18 : (-2147483648) ≤ v18 ∧ v18 ≤ 2147483647 := by rw [← e18]; exact (CI.r hC_M k15_P (by decide) 4)
      refine jr_v rfl rfl (Or.inl rfl) rfl rfl (by decide) rfl ⟨rfl, Nat.le_of_ble_eq_true rfl, Nat.le_of_ble_eq_true rfl⟩ rfl (jc.deep (c_Parser_countNode_z hC_M (FR.rfl _ M)  e6 e16 e5 e17 e18 p1 (fun M15 hC_M15 hf_M15 w15_0 w15_1 => ?_)) (by omega))
      have ht_M15 : FR W_par T M15 := FR.t ht_M hf_M15 (kw_sub rfl)
      obtain ⟨v19, e19⟩ : ∃ z_, M15 413 0 = z_ := ⟨_, rfl⟩
      have b19 : (-2147483648) ≤ v19 ∧ v19 ≤ 2147483647 := by rw [← e19]; exact (CI.r hC_M15 (show kd 413 = 44 from rfl) (by decide) 0)
      obtain ⟨v20, e20⟩ : ∃ z_, M15 413 1 = z_ := ⟨_, rfl⟩
      have b20 : (-2147483648) ≤ v20 ∧ v20 ≤ 2147483647 := by rw [← e20]; exact (CI.r hC_M15 (show kd 413 = 44 from rfl) (by decide) 1)
      obtain ⟨v21, e21⟩ : ∃ z_, M15 ((v17.toNat)) 4 = z_ := ⟨_, rfl⟩
      have b21 : (-2147483648) ≤ v21 ∧ v21 ≤ 2147483647 := by rw [← e21]; exact (CI.r hC_M15 k15_P (by decide) 4)
      obtain ⟨⟨⟨hTx, ktt, k7, k8, k6, k10, k9, k11⟩, hck⟩, hzr⟩ := CZ.z p5 (by omega)
      have hs1 : zso f N tt = 1 := by omega
      have hw := k10 hs1
      clear k9 k10 k11
      have hwj := zcv_j (w := zwd f N tt) (by omega)
      have hq1 := CZ.node p5 hC_M hf_M15 e6 e16 e5 e17 e18 w15_1 (fun z hk => zr.wk z hs1 (by omega) hk)
      clear w15_1
      refine jr.aload_n rfl rfl ?_
      have e23 : M15 413 8 = v3 := (hf_M15.g (show kd 413 = 44 from rfl) rfl).trans e3
      have e24 : M15 413 3 = v1 := (hf_M15.g (show kd 413 = 44 from rfl) rfl).trans e1
      have e25 : M15 413 6 = v4 := (hf_M15.g (show kd 413 = 44 from rfl) rfl).trans e4
      have e26 : M15 413 7 = v5 := (hf_M15.g (show kd 413 = 44 from rfl) rfl).trans e5
      refine jr_v rfl rfl (Or.inl rfl) rfl rfl (by decide) rfl ⟨rfl, Nat.le_of_ble_eq_true rfl, Nat.le_of_ble_eq_true rfl⟩ rfl (jc.deep (c_Parser_advance_z hC_M15 (FR.rfl _ M15)  e19 e23 (by have hq0 : M15 413 3 = v1 := e24; omega) (TXc.fr p3 hf_M15 rfl) (by have hq0 : M15 413 8 = v3 := e23; have hq1 : M15 413 6 = v4 := e25; have hq2 : M15 413 7 = v5 := e26; omega) (fun M22 hC_M22 hf_M22 w22_0 w22_1 => ?_)) (by omega))
      have ht_M22 : FR W_par T M22 := FR.t ht_M15 hf_M22 (kw_sub rfl)
      obtain ⟨v27, e27⟩ : ∃ z_, M22 413 8 = z_ := ⟨_, rfl⟩
      have b27 : 0 ≤ v27 ∧ v27 ≤ 1600 := by rw [← e27]; exact (CI.r hC_M22 (show kd 413 = 44 from rfl) (by decide) 8)
      obtain ⟨v28, e28⟩ : ∃ z_, M22 413 6 = z_ := ⟨_, rfl⟩
      have b28 : (-2147483648) ≤ v28 ∧ v28 ≤ 2147483647 := by rw [← e28]; exact (CI.r hC_M22 (show kd 413 = 44 from rfl) (by decide) 6)
      obtain ⟨v29, e29⟩ : ∃ z_, M22 413 7 = z_ := ⟨_, rfl⟩
      have b29 : 0 ≤ v29 ∧ v29 ≤ 1600 := by rw [← e29]; exact (CI.r hC_M22 (show kd 413 = 44 from rfl) (by decide) 7)
      have hq2 := CZ.adv hq1 hC_M15 hf_M22 e19 e23 w22_0
      clear w22_0
      clear p4
      refine jr.iload_n rfl rfl ?_
      refine jr.bipush rfl (by decide) ?_
      refine jr.icmp_ne rfl rfl (by omega) (by omega) (fun h51 => ?_) (fun h51 => ?_)
      · refine jr.iload_n rfl rfl ?_
        refine jr.bipush rfl (by decide) ?_
        refine jr.icmp_le rfl rfl (by omega) (by omega) (fun h116 => ?_) (fun h116 => ?_)
        · refine jr.aload_n rfl rfl ?_
          have e30 : M15 413 2 = v17 := (hf_M15.g (show kd 413 = 44 from rfl) rfl).trans e17
          have e31 : M22 413 2 = v17 := (hf_M22.g (show kd 413 = 44 from rfl) rfl).trans e30
          have k32 : kd (v17).toNat = 47 := ((congrArg (fun z : Int => kd z.toNat) (show M22 413 2 = v17 from e31)).symm.trans (CI.x hC_M22 (show kd 413 = 44 from rfl) 2 rfl (by decide)))
          refine jr.getf (i := 2) (x := v17) (v := .ref (v17.toNat)) rfl rfl (by decide) rfl (by decide) rfl rfl e31 rfl ?_
          refine jr.iload_n rfl rfl ?_
          refine jr.bipush rfl (by decide) ?_
          refine jr.icmp_ne rfl rfl (by omega) (by omega) (fun h163 => ?_) (fun h163 => ?_)
          · exact absurd h163 (by omega)
          · refine jr.bipush rfl (by decide) ?_
            refine jr.goto rfl rfl ?_
            refine jr.iconst rfl ?_
            obtain ⟨v34, e34⟩ : ∃ z_, M ((v17.toNat)) 2 = z_ := ⟨_, rfl⟩
            have b34 : 0 ≤ v34 ∧ v34 ≤ 932 := by rw [← e34]; exact (CI.r hC_M k32 (by decide) 2)
            have e35 : M15 ((v17.toNat)) 2 = v34 := (hf_M15.g k32 rfl).trans e34
            have e36 : M22 ((v17.toNat)) 2 = v34 := (hf_M22.g k32 rfl).trans e35
            refine jr_v rfl rfl (Or.inl rfl) rfl rfl (Nat.lt_trans (kx_47 k32).1 (by decide)) (kx_47 k32).2 ⟨rfl, Nat.le_of_ble_eq_true rfl, Nat.le_of_ble_eq_true rfl⟩ rfl (jc.deep (c_Program_emit_z hC_M22 (FR.rfl _ M22) k32 (by omega) (by omega) e36 rfl (by have hq0 : M22 413 2 = v17 := e31; omega) (MP.fr w15_0 hC_M15 hf_M22 rfl) (fun r33 M33 hC_M33 hf_M33 z33 w33_0 w33_1 w33_2 => ?_)) (by omega))
            have ht_M33 : FR W_par T M33 := FR.t ht_M22 hf_M33 (kw_sub rfl)
            have hq3 := CZ.emn (p := (v17.toNat)) hq2 hC_M22 hf_M33 (e31.trans (by omega)) e36 w33_2 (by omega) (by omega)
            clear w33_2 w33_1
            refine jr.pop rfl rfl ?_
            have e37 : M33 413 8 = v27 := (hf_M33.g (show kd 413 = 44 from rfl) rfl).trans e27
            have e38 : M33 413 6 = v28 := (hf_M33.g (show kd 413 = 44 from rfl) rfl).trans e28
            have e39 : M33 413 7 = v29 := (hf_M33.g (show kd 413 = 44 from rfl) rfl).trans e29
            exact jr.vreturn rfl rfl (q _ hC_M33 ht_M33  w33_0 (by have hq0 : M33 413 8 = v27 := e37; have hq1 : M33 413 6 = v28 := e38; have hq2 : M33 413 7 = v29 := e39; omega) (COP.mk ((hq3.wk (fun _ h => List.mem_cons_of_mem _ h)).le h_ee (by omega)) (fun z => ⟨zr.wtm z.1.1 hs1 (by omega) z.1.2, znx_gt f (zso_lt (f := f) (N := N) (t := tt) (by omega))⟩)))
        · exact absurd (by omega) h116
      · exact absurd (by omega) h51
    · refine jr.iload_n rfl rfl ?_
      refine jr.bipush rfl (by decide) ?_
      refine jr.icmp_lt rfl rfl (by omega) (by omega) (fun h26 => ?_) (fun h26 => ?_)
      · refine jr.aload_n rfl rfl ?_
        obtain ⟨v41, e41⟩ : ∃ z_, M 413 1 = z_ := ⟨_, rfl⟩
        have b41 : (-2147483648) ≤ v41 ∧ v41 ≤ 2147483647 := by rw [← e41]; exact (CI.r hC_M (show kd 413 = 44 from rfl) (by decide) 1)
        refine jr_v rfl rfl (Or.inl rfl) rfl rfl (by decide) rfl ⟨rfl, Nat.le_of_ble_eq_true rfl, Nat.le_of_ble_eq_true rfl⟩ rfl (jc.deep (c_Parser_refuse_z hC_M (FR.rfl _ M)  e6 e41 e5 e4 (fun M40 hC_M40 hf_M40 w40_0 => ?_)) (by omega))
        have ht_M40 : FR W_par T M40 := FR.t ht_M hf_M40 (kw_sub rfl)
        obtain ⟨v42, e42⟩ : ∃ z_, M40 413 0 = z_ := ⟨_, rfl⟩
        have b42 : (-2147483648) ≤ v42 ∧ v42 ≤ 2147483647 := by rw [← e42]; exact (CI.r hC_M40 (show kd 413 = 44 from rfl) (by decide) 0)
        obtain ⟨v43, e43⟩ : ∃ z_, M40 413 1 = z_ := ⟨_, rfl⟩
        have b43 : (-2147483648) ≤ v43 ∧ v43 ≤ 2147483647 := by rw [← e43]; exact (CI.r hC_M40 (show kd 413 = 44 from rfl) (by decide) 1)
        have hq1 := CZ.rfs (M := M40) p5 e6 e41 e5 e4 w40_0 (fun h0 tk z => zr.opr z p9 p10 (fun q => by obtain ⟨_, _, c7, c8, c6, c10, c9, c11⟩ := tk; have q2 := c10 q; have q3 := p11 q; exact zcv_ask (by omega) (by omega)))
        clear w40_0
        have e44 : M40 413 8 = v3 := (hf_M40.g (show kd 413 = 44 from rfl) rfl).trans e3
        have e45 : M40 413 6 = v4 := (hf_M40.g (show kd 413 = 44 from rfl) rfl).trans e4
        have e46 : M40 413 7 = v5 := (hf_M40.g (show kd 413 = 44 from rfl) rfl).trans e5
        exact jr.vreturn rfl rfl (q _ hC_M40 ht_M40  (MP.fr p1 hC_M hf_M40 rfl) (by have hq0 : M40 413 8 = v3 := e44; have hq1 : M40 413 6 = v4 := e45; have hq2 : M40 413 7 = v5 := e46; omega) (COP.mk (hq1.le h_ee (by omega)) (fun z => z.elim)))
      · refine jr.iload_n rfl rfl ?_
        refine jr.bipush rfl (by decide) ?_
        refine jr.icmp_le rfl rfl (by omega) (by omega) (fun h32 => ?_) (fun h32 => ?_)
        · refine jr.aload_n rfl rfl ?_
          obtain ⟨v48, e48⟩ : ∃ z_, M 413 1 = z_ := ⟨_, rfl⟩
          have b48 : (-2147483648) ≤ v48 ∧ v48 ≤ 2147483647 := by rw [← e48]; exact (CI.r hC_M (show kd 413 = 44 from rfl) (by decide) 1)
          obtain ⟨v49, e49⟩ : ∃ z_, M 413 2 = z_ := ⟨_, rfl⟩
          have b49 : 0 ≤ v49 ∧ v49 ≤ 597 := by rw [← e49]; exact (CI.r hC_M (show kd 413 = 44 from rfl) (by decide) 2)
          have k47_P : kd (v49).toNat = 47 := (congrArg (fun z : Int => kd z.toNat) e49).symm.trans (CI.x hC_M (show kd 413 = 44 from rfl) 2 rfl (by decide))
          obtain ⟨v50, e50⟩ : ∃ z_, M ((v49.toNat)) 4 = z_ := ⟨_, rfl⟩
          have b50 : (-2147483648) ≤ v50 ∧ v50 ≤ 2147483647 := by rw [← e50]; exact (CI.r hC_M k47_P (by decide) 4)
          refine jr_v rfl rfl (Or.inl rfl) rfl rfl (by decide) rfl ⟨rfl, Nat.le_of_ble_eq_true rfl, Nat.le_of_ble_eq_true rfl⟩ rfl (jc.deep (c_Parser_countNode_z hC_M (FR.rfl _ M)  e6 e48 e5 e49 e50 p1 (fun M47 hC_M47 hf_M47 w47_0 w47_1 => ?_)) (by omega))
          have ht_M47 : FR W_par T M47 := FR.t ht_M hf_M47 (kw_sub rfl)
          obtain ⟨v51, e51⟩ : ∃ z_, M47 413 0 = z_ := ⟨_, rfl⟩
          have b51 : (-2147483648) ≤ v51 ∧ v51 ≤ 2147483647 := by rw [← e51]; exact (CI.r hC_M47 (show kd 413 = 44 from rfl) (by decide) 0)
          obtain ⟨v52, e52⟩ : ∃ z_, M47 413 1 = z_ := ⟨_, rfl⟩
          have b52 : (-2147483648) ≤ v52 ∧ v52 ≤ 2147483647 := by rw [← e52]; exact (CI.r hC_M47 (show kd 413 = 44 from rfl) (by decide) 1)
          obtain ⟨v53, e53⟩ : ∃ z_, M47 ((v49.toNat)) 4 = z_ := ⟨_, rfl⟩
          have b53 : (-2147483648) ≤ v53 ∧ v53 ≤ 2147483647 := by rw [← e53]; exact (CI.r hC_M47 k47_P (by decide) 4)
          obtain ⟨⟨⟨hTx, ktt, k7, k8, k6, k10, k9, k11⟩, hck⟩, hzr⟩ := CZ.z p5 (by omega)
          have hs1 : zso f N tt = 1 := by omega
          have hw := k10 hs1
          clear k9 k10 k11
          have hwj := zcv_j (w := zwd f N tt) (by omega)
          have hq1 := CZ.node p5 hC_M hf_M47 e6 e48 e5 e49 e50 w47_1 (fun z hk => zr.wk z hs1 (by omega) hk)
          clear w47_1
          refine jr.aload_n rfl rfl ?_
          have e55 : M47 413 8 = v3 := (hf_M47.g (show kd 413 = 44 from rfl) rfl).trans e3
          have e56 : M47 413 3 = v1 := (hf_M47.g (show kd 413 = 44 from rfl) rfl).trans e1
          have e57 : M47 413 6 = v4 := (hf_M47.g (show kd 413 = 44 from rfl) rfl).trans e4
          have e58 : M47 413 7 = v5 := (hf_M47.g (show kd 413 = 44 from rfl) rfl).trans e5
          refine jr_v rfl rfl (Or.inl rfl) rfl rfl (by decide) rfl ⟨rfl, Nat.le_of_ble_eq_true rfl, Nat.le_of_ble_eq_true rfl⟩ rfl (jc.deep (c_Parser_advance_z hC_M47 (FR.rfl _ M47)  e51 e55 (by have hq0 : M47 413 3 = v1 := e56; omega) (TXc.fr p3 hf_M47 rfl) (by have hq0 : M47 413 8 = v3 := e55; have hq1 : M47 413 6 = v4 := e57; have hq2 : M47 413 7 = v5 := e58; omega) (fun M54 hC_M54 hf_M54 w54_0 w54_1 => ?_)) (by omega))
          have ht_M54 : FR W_par T M54 := FR.t ht_M47 hf_M54 (kw_sub rfl)
          obtain ⟨v59, e59⟩ : ∃ z_, M54 413 8 = z_ := ⟨_, rfl⟩
          have b59 : 0 ≤ v59 ∧ v59 ≤ 1600 := by rw [← e59]; exact (CI.r hC_M54 (show kd 413 = 44 from rfl) (by decide) 8)
          obtain ⟨v60, e60⟩ : ∃ z_, M54 413 6 = z_ := ⟨_, rfl⟩
          have b60 : (-2147483648) ≤ v60 ∧ v60 ≤ 2147483647 := by rw [← e60]; exact (CI.r hC_M54 (show kd 413 = 44 from rfl) (by decide) 6)
          obtain ⟨v61, e61⟩ : ∃ z_, M54 413 7 = z_ := ⟨_, rfl⟩
          have b61 : 0 ≤ v61 ∧ v61 ≤ 1600 := by rw [← e61]; exact (CI.r hC_M54 (show kd 413 = 44 from rfl) (by decide) 7)
          have hq2 := CZ.adv hq1 hC_M47 hf_M54 e51 e55 w54_0
          clear w54_0
          clear p4
          refine jr.iload_n rfl rfl ?_
          refine jr.bipush rfl (by decide) ?_
          refine jr.icmp_ne rfl rfl (by omega) (by omega) (fun h51 => ?_) (fun h51 => ?_)
          · refine jr.iload_n rfl rfl ?_
            refine jr.bipush rfl (by decide) ?_
            refine jr.icmp_le rfl rfl (by omega) (by omega) (fun h116 => ?_) (fun h116 => ?_)
            · refine jr.aload_n rfl rfl ?_
              have e62 : M47 413 2 = v49 := (hf_M47.g (show kd 413 = 44 from rfl) rfl).trans e49
              have e63 : M54 413 2 = v49 := (hf_M54.g (show kd 413 = 44 from rfl) rfl).trans e62
              have k64 : kd (v49).toNat = 47 := ((congrArg (fun z : Int => kd z.toNat) (show M54 413 2 = v49 from e63)).symm.trans (CI.x hC_M54 (show kd 413 = 44 from rfl) 2 rfl (by decide)))
              refine jr.getf (i := 2) (x := v49) (v := .ref (v49.toNat)) rfl rfl (by decide) rfl (by decide) rfl rfl e63 rfl ?_
              refine jr.iload_n rfl rfl ?_
              refine jr.bipush rfl (by decide) ?_
              refine jr.icmp_ne rfl rfl (by omega) (by omega) (fun h163 => ?_) (fun h163 => ?_)
              · refine jr.iload_n rfl rfl ?_
                refine jr.iconst rfl ?_
                obtain ⟨v66, e66⟩ : ∃ z_, M ((v49.toNat)) 2 = z_ := ⟨_, rfl⟩
                have b66 : 0 ≤ v66 ∧ v66 ≤ 932 := by rw [← e66]; exact (CI.r hC_M k64 (by decide) 2)
                have e67 : M47 ((v49.toNat)) 2 = v66 := (hf_M47.g k64 rfl).trans e66
                have e68 : M54 ((v49.toNat)) 2 = v66 := (hf_M54.g k64 rfl).trans e67
                refine jr_v rfl rfl (Or.inl rfl) rfl rfl (Nat.lt_trans (kx_47 k64).1 (by decide)) (kx_47 k64).2 ⟨rfl, Nat.le_of_ble_eq_true rfl, Nat.le_of_ble_eq_true rfl⟩ rfl (jc.deep (c_Program_emit_z hC_M54 (FR.rfl _ M54) k64 (by omega) (by omega) e68 rfl (by have hq0 : M54 413 2 = v49 := e63; omega) (MP.fr w47_0 hC_M47 hf_M54 rfl) (fun r65 M65 hC_M65 hf_M65 z65 w65_0 w65_1 w65_2 => ?_)) (by omega))
                have ht_M65 : FR W_par T M65 := FR.t ht_M54 hf_M65 (kw_sub rfl)
                have hq3 := CZ.emn (p := (v49.toNat)) hq2 hC_M54 hf_M65 (e63.trans (by omega)) e68 w65_2 (by omega) (by omega)
                clear w65_2 w65_1
                refine jr.pop rfl rfl ?_
                have e69 : M65 413 8 = v59 := (hf_M65.g (show kd 413 = 44 from rfl) rfl).trans e59
                have e70 : M65 413 6 = v60 := (hf_M65.g (show kd 413 = 44 from rfl) rfl).trans e60
                have e71 : M65 413 7 = v61 := (hf_M65.g (show kd 413 = 44 from rfl) rfl).trans e61
                exact jr.vreturn rfl rfl (q _ hC_M65 ht_M65  w65_0 (by have hq0 : M65 413 8 = v59 := e69; have hq1 : M65 413 6 = v60 := e70; have hq2 : M65 413 7 = v61 := e71; omega) (COP.mk ((hq3.wk (fun _ h => List.mem_cons_of_mem _ h)).le h_ee (by omega)) (fun z => ⟨zr.wtm z.1.1 hs1 (by omega) z.1.2, znx_gt f (zso_lt (f := f) (N := N) (t := tt) (by omega))⟩)))
              · exact absurd (by omega) h163
            · refine jr.aload_n rfl rfl ?_
              refine jr.bipush rfl (by decide) ?_
              refine jr.iload_n rfl rfl ?_
              have e73 : M54 413 0 = v51 := (hf_M54.g (show kd 413 = 44 from rfl) rfl).trans e51
              have e74 : M54 413 1 = v52 := (hf_M54.g (show kd 413 = 44 from rfl) rfl).trans e52
              obtain ⟨v75, e75⟩ : ∃ z_, M54 413 11 = z_ := ⟨_, rfl⟩
              have b75 : 0 ≤ v75 ∧ v75 ≤ 255 := by rw [← e75]; exact (CI.r hC_M54 (show kd 413 = 44 from rfl) (by decide) 11)
              have e76 : M54 413 3 = v1 := (hf_M54.g (show kd 413 = 44 from rfl) rfl).trans e56
              refine jr_v rfl rfl (Or.inl rfl) rfl rfl (by decide) rfl ⟨rfl, Nat.le_of_ble_eq_true rfl, Nat.le_of_ble_eq_true rfl⟩ rfl (jc.deep (c_Parser_open_z hC_M54 (FR.rfl _ M54) (by omega) (by omega) e73 e74 e61 e60 e59 e75 (by have hq0 : M54 413 3 = v1 := e76; omega) (TXc.fr (TXc.fr p3 hf_M47 rfl) hf_M54 rfl) (by have hq0 : M54 413 8 = v59 := e59; have hq1 : M54 413 6 = v60 := e60; have hq2 : M54 413 7 = v61 := e61; omega) (fun M72 hC_M72 hf_M72 w72_0 w72_1 w72_2 w72_3 => ?_)) (by omega))
              have ht_M72 : FR W_par T M72 := FR.t ht_M54 hf_M72 (kw_sub rfl)
              obtain ⟨v77, e77⟩ : ∃ z_, M72 413 0 = z_ := ⟨_, rfl⟩
              have b77 : (-2147483648) ≤ v77 ∧ v77 ≤ 2147483647 := by rw [← e77]; exact (CI.r hC_M72 (show kd 413 = 44 from rfl) (by decide) 0)
              obtain ⟨v78, e78⟩ : ∃ z_, M72 413 1 = z_ := ⟨_, rfl⟩
              have b78 : (-2147483648) ≤ v78 ∧ v78 ≤ 2147483647 := by rw [← e78]; exact (CI.r hC_M72 (show kd 413 = 44 from rfl) (by decide) 1)
              obtain ⟨v79, e79⟩ : ∃ z_, M72 413 8 = z_ := ⟨_, rfl⟩
              have b79 : 0 ≤ v79 ∧ v79 ≤ 1600 := by rw [← e79]; exact (CI.r hC_M72 (show kd 413 = 44 from rfl) (by decide) 8)
              obtain ⟨v80, e80⟩ : ∃ z_, M72 413 6 = z_ := ⟨_, rfl⟩
              have b80 : (-2147483648) ≤ v80 ∧ v80 ≤ 2147483647 := by rw [← e80]; exact (CI.r hC_M72 (show kd 413 = 44 from rfl) (by decide) 6)
              obtain ⟨v81, e81⟩ : ∃ z_, M72 413 7 = z_ := ⟨_, rfl⟩
              have b81 : 0 ≤ v81 ∧ v81 ≤ 1600 := by rw [← e81]; exact (CI.r hC_M72 (show kd 413 = 44 from rfl) (by decide) 7)
              have hq3 := CZ.opn hq2 hC_M54 hf_M72 e73 e74 e61 e60 e59 e75 w72_0 w72_2 (fun z y => zr.waskf z.1 hs1 (by omega) z.2 y) (fun z h3 h4 hd => zr.waskd z.1 hs1 (by omega) z.2 h3 h4 (by omega))
              clear w72_0 w72_2
              clear w54_1
              have hq4 := hq3.imp (fun z => zr.wask z.1.1 hs1 (by omega) z.1.2 z.2.1 z.2.2.1 (by have y := z.2.2.2; omega))
              refine jr.aload_n rfl rfl ?_
              refine jr.iload_n rfl rfl ?_
              refine jr_s rfl rfl (Or.inl rfl) ⟨Nat.le_of_ble_eq_true rfl, Nat.le_of_ble_eq_true rfl⟩ rfl rfl (jc.deep (c_Parser_expsOf_z hC_M72 (by omega) (fun r82 z82 w82_0 => ?_)) (by omega))
              have hzo : r82 = zar (zwd f N tt) := by rw [w82_0]; unfold zeo; rw [if_pos (by omega)]; rw [show v14 = zwd f N tt by omega]
              have hza : 1 ≤ zar (zwd f N tt) := zar_1 _
              refine jr.iload_n rfl rfl ?_
              refine jr.iconst rfl ?_
              refine jr.iadd rfl ?_
              have e84 : M72 413 3 = v1 := (hf_M72.g (show kd 413 = 44 from rfl) rfl).trans e76
              refine jr_v rfl rfl (Or.inl rfl) rfl rfl (by decide) rfl ⟨rfl, Nat.le_of_ble_eq_true rfl, Nat.le_of_ble_eq_true rfl⟩ rfl (jc.deep (ihP.2.2.2.1 hC_M72 (FR.rfl _ M72) (by omega) (by omega) (by have hq0 : M72 413 3 = v1 := e84; omega) (by have hq0 : M72 413 0 = v77 := e77; omega) (MP.fr (MP.fr w47_0 hC_M47 hf_M54 rfl) hC_M54 hf_M72 rfl) (by omega) (TXc.fr (TXc.fr (TXc.fr p3 hf_M47 rfl) hf_M54 rfl) hf_M72 rfl) (by have hq0 : M72 413 8 = v79 := e79; have hq1 : M72 413 6 = v80 := e80; have hq2 : M72 413 7 = v81 := e81; omega) hq4 (by omega) (by omega) (fun _ => Or.inl ⟨rfl, by omega⟩) (fun _ z => z) (by decide) (fun M83 hC_M83 hf_M83 w83_0 w83_1 w83_2 => ?_)) (by omega))
              have ht_M83 : FR W_par T M83 := FR.t ht_M72 hf_M83 (kw_sub rfl)
              obtain ⟨v85, e85⟩ : ∃ z_, M83 413 8 = z_ := ⟨_, rfl⟩
              have b85 : 0 ≤ v85 ∧ v85 ≤ 1600 := by rw [← e85]; exact (CI.r hC_M83 (show kd 413 = 44 from rfl) (by decide) 8)
              obtain ⟨v86, e86⟩ : ∃ z_, M83 413 6 = z_ := ⟨_, rfl⟩
              have b86 : (-2147483648) ≤ v86 ∧ v86 ≤ 2147483647 := by rw [← e86]; exact (CI.r hC_M83 (show kd 413 = 44 from rfl) (by decide) 6)
              obtain ⟨v87, e87⟩ : ∃ z_, M83 413 7 = z_ := ⟨_, rfl⟩
              have b87 : 0 ≤ v87 ∧ v87 ≤ 1600 := by rw [← e87]; exact (CI.r hC_M83 (show kd 413 = 44 from rfl) (by decide) 7)
              have hce := CEL.z1 w83_2 (by omega)
              obtain ⟨t1, k1, c1, hu1, hq6⟩ := hce
              clear w72_3
              refine jr.aload_n rfl rfl ?_
              have e88 : M47 413 2 = v49 := (hf_M47.g (show kd 413 = 44 from rfl) rfl).trans e49
              have e89 : M54 413 2 = v49 := (hf_M54.g (show kd 413 = 44 from rfl) rfl).trans e88
              have e90 : M72 413 2 = v49 := (hf_M72.g (show kd 413 = 44 from rfl) rfl).trans e89
              have e91 : M83 413 2 = v49 := (hf_M83.g (show kd 413 = 44 from rfl) rfl).trans e90
              have k92 : kd (v49).toNat = 47 := ((congrArg (fun z : Int => kd z.toNat) (show M83 413 2 = v49 from e91)).symm.trans (CI.x hC_M83 (show kd 413 = 44 from rfl) 2 rfl (by decide)))
              refine jr.getf (i := 2) (x := v49) (v := .ref (v49.toNat)) rfl rfl (by decide) rfl (by decide) rfl rfl e91 rfl ?_
              refine jr.iload_n rfl rfl ?_
              refine jr.iconst rfl ?_
              obtain ⟨v94, e94⟩ : ∃ z_, M83 ((v49.toNat)) 2 = z_ := ⟨_, rfl⟩
              have b94 : 0 ≤ v94 ∧ v94 ≤ 932 := by rw [← e94]; exact (CI.r hC_M83 k92 (by decide) 2)
              refine jr_v rfl rfl (Or.inl rfl) rfl rfl (Nat.lt_trans (kx_47 k92).1 (by decide)) (kx_47 k92).2 ⟨rfl, Nat.le_of_ble_eq_true rfl, Nat.le_of_ble_eq_true rfl⟩ rfl (jc.deep (c_Program_emit_z hC_M83 (FR.rfl _ M83) k92 (by omega) (by omega) e94 rfl (by have hq0 : M83 413 2 = v49 := e91; omega) w83_0 (fun r93 M93 hC_M93 hf_M93 z93 w93_0 w93_1 w93_2 => ?_)) (by omega))
              have ht_M93 : FR W_par T M93 := FR.t ht_M83 hf_M93 (kw_sub rfl)
              have hq7 := CZ.emn (p := (v49.toNat)) hq6 hC_M83 hf_M93 (e91.trans (by omega)) e94 w93_2 (by omega) (by omega)
              clear w93_2 w93_1
              refine jr.pop rfl rfl ?_
              refine jr.aload_n rfl rfl ?_
              refine jr.bipush rfl (by decide) ?_
              obtain ⟨v96, e96⟩ : ∃ z_, M83 413 0 = z_ := ⟨_, rfl⟩
              have b96 : (-2147483648) ≤ v96 ∧ v96 ≤ 2147483647 := by rw [← e96]; exact (CI.r hC_M83 (show kd 413 = 44 from rfl) (by decide) 0)
              have e97 : M93 413 0 = v96 := (hf_M93.g (show kd 413 = 44 from rfl) rfl).trans e96
              obtain ⟨v98, e98⟩ : ∃ z_, M83 413 1 = z_ := ⟨_, rfl⟩
              have b98 : (-2147483648) ≤ v98 ∧ v98 ≤ 2147483647 := by rw [← e98]; exact (CI.r hC_M83 (show kd 413 = 44 from rfl) (by decide) 1)
              have e99 : M93 413 1 = v98 := (hf_M93.g (show kd 413 = 44 from rfl) rfl).trans e98
              have e100 : M93 413 7 = v87 := (hf_M93.g (show kd 413 = 44 from rfl) rfl).trans e87
              have e101 : M93 413 6 = v86 := (hf_M93.g (show kd 413 = 44 from rfl) rfl).trans e86
              have e102 : M93 413 8 = v85 := (hf_M93.g (show kd 413 = 44 from rfl) rfl).trans e85
              obtain ⟨v103, e103⟩ : ∃ z_, M83 413 11 = z_ := ⟨_, rfl⟩
              have b103 : 0 ≤ v103 ∧ v103 ≤ 255 := by rw [← e103]; exact (CI.r hC_M83 (show kd 413 = 44 from rfl) (by decide) 11)
              have e104 : M93 413 11 = v103 := (hf_M93.g (show kd 413 = 44 from rfl) rfl).trans e103
              have e105 : M83 413 3 = v1 := (hf_M83.g (show kd 413 = 44 from rfl) rfl).trans e84
              have e106 : M93 413 3 = v1 := (hf_M93.g (show kd 413 = 44 from rfl) rfl).trans e105
              refine jr_v rfl rfl (Or.inl rfl) rfl rfl (by decide) rfl ⟨rfl, Nat.le_of_ble_eq_true rfl, Nat.le_of_ble_eq_true rfl⟩ rfl (jc.deep (c_Parser_expect_z hC_M93 (FR.rfl _ M93) (by omega) e97 e99 e100 e101 e102 e104 (by have hq0 : M93 413 3 = v1 := e106; omega) (TXc.fr (TXc.fr (TXc.fr (TXc.fr (TXc.fr p3 hf_M47 rfl) hf_M54 rfl) hf_M72 rfl) hf_M83 rfl) hf_M93 rfl) (by have hq0 : M93 413 8 = v85 := e102; have hq1 : M93 413 6 = v86 := e101; have hq2 : M93 413 7 = v87 := e100; omega) (fun M95 hC_M95 hf_M95 w95_0 w95_1 w95_2 => ?_)) (by omega))
              have ht_M95 : FR W_par T M95 := FR.t ht_M93 hf_M95 (kw_sub rfl)
              obtain ⟨v107, e107⟩ : ∃ z_, M95 413 0 = z_ := ⟨_, rfl⟩
              have b107 : (-2147483648) ≤ v107 ∧ v107 ≤ 2147483647 := by rw [← e107]; exact (CI.r hC_M95 (show kd 413 = 44 from rfl) (by decide) 0)
              obtain ⟨v108, e108⟩ : ∃ z_, M95 413 1 = z_ := ⟨_, rfl⟩
              have b108 : (-2147483648) ≤ v108 ∧ v108 ≤ 2147483647 := by rw [← e108]; exact (CI.r hC_M95 (show kd 413 = 44 from rfl) (by decide) 1)
              obtain ⟨v109, e109⟩ : ∃ z_, M95 413 8 = z_ := ⟨_, rfl⟩
              have b109 : 0 ≤ v109 ∧ v109 ≤ 1600 := by rw [← e109]; exact (CI.r hC_M95 (show kd 413 = 44 from rfl) (by decide) 8)
              obtain ⟨v110, e110⟩ : ∃ z_, M95 413 6 = z_ := ⟨_, rfl⟩
              have b110 : (-2147483648) ≤ v110 ∧ v110 ≤ 2147483647 := by rw [← e110]; exact (CI.r hC_M95 (show kd 413 = 44 from rfl) (by decide) 6)
              obtain ⟨v111, e111⟩ : ∃ z_, M95 413 7 = z_ := ⟨_, rfl⟩
              have b111 : 0 ≤ v111 ∧ v111 ≤ 1600 := by rw [← e111]; exact (CI.r hC_M95 (show kd 413 = 44 from rfl) (by decide) 7)
              have hq8 := CZ.exp hq7 hC_M93 hf_M95 e97 e99 e100 e101 e102 e104 w95_0 w95_1 (fun z y => zr.clfR z.1.1 z.1.2.1 (by omega) y)
              clear w95_0 w95_1
              clear w83_1
              refine jr.goto rfl rfl ?_
              exact jr.vreturn rfl rfl (q _ hC_M95 ht_M95  (MP.fr w93_0 hC_M93 hf_M95 rfl) (by have hq0 : M95 413 8 = v109 := e109; have hq1 : M95 413 6 = v110 := e110; have hq2 : M95 413 7 = v111 := e111; omega) (COP.mk ((hq8.wk (fun _ h => List.mem_cons_of_mem _ h)).le h_ee (by omega)) (fun z => ⟨by have y := zr.clR z.1.1.1 (by omega) z.2; rw [show dd + 1 - 1 = dd by omega] at y; exact y, by have g1 := znx_ge f N tt; have g2 := znx_ge f N (znx f N tt); have g3 := znx_ge f N t1; omega⟩)))
          · refine jr.aload_n rfl rfl ?_
            refine jr.bipush rfl (by decide) ?_
            refine jr.iload_n rfl rfl ?_
            have e113 : M54 413 0 = v51 := (hf_M54.g (show kd 413 = 44 from rfl) rfl).trans e51
            have e114 : M54 413 1 = v52 := (hf_M54.g (show kd 413 = 44 from rfl) rfl).trans e52
            obtain ⟨v115, e115⟩ : ∃ z_, M54 413 11 = z_ := ⟨_, rfl⟩
            have b115 : 0 ≤ v115 ∧ v115 ≤ 255 := by rw [← e115]; exact (CI.r hC_M54 (show kd 413 = 44 from rfl) (by decide) 11)
            have e116 : M54 413 3 = v1 := (hf_M54.g (show kd 413 = 44 from rfl) rfl).trans e56
            refine jr_v rfl rfl (Or.inl rfl) rfl rfl (by decide) rfl ⟨rfl, Nat.le_of_ble_eq_true rfl, Nat.le_of_ble_eq_true rfl⟩ rfl (jc.deep (c_Parser_open_z hC_M54 (FR.rfl _ M54) (by omega) (by omega) e113 e114 e61 e60 e59 e115 (by have hq0 : M54 413 3 = v1 := e116; omega) (TXc.fr (TXc.fr p3 hf_M47 rfl) hf_M54 rfl) (by have hq0 : M54 413 8 = v59 := e59; have hq1 : M54 413 6 = v60 := e60; have hq2 : M54 413 7 = v61 := e61; omega) (fun M112 hC_M112 hf_M112 w112_0 w112_1 w112_2 w112_3 => ?_)) (by omega))
            have ht_M112 : FR W_par T M112 := FR.t ht_M54 hf_M112 (kw_sub rfl)
            obtain ⟨v117, e117⟩ : ∃ z_, M112 413 0 = z_ := ⟨_, rfl⟩
            have b117 : (-2147483648) ≤ v117 ∧ v117 ≤ 2147483647 := by rw [← e117]; exact (CI.r hC_M112 (show kd 413 = 44 from rfl) (by decide) 0)
            obtain ⟨v118, e118⟩ : ∃ z_, M112 413 1 = z_ := ⟨_, rfl⟩
            have b118 : (-2147483648) ≤ v118 ∧ v118 ≤ 2147483647 := by rw [← e118]; exact (CI.r hC_M112 (show kd 413 = 44 from rfl) (by decide) 1)
            obtain ⟨v119, e119⟩ : ∃ z_, M112 413 8 = z_ := ⟨_, rfl⟩
            have b119 : 0 ≤ v119 ∧ v119 ≤ 1600 := by rw [← e119]; exact (CI.r hC_M112 (show kd 413 = 44 from rfl) (by decide) 8)
            obtain ⟨v120, e120⟩ : ∃ z_, M112 413 6 = z_ := ⟨_, rfl⟩
            have b120 : (-2147483648) ≤ v120 ∧ v120 ≤ 2147483647 := by rw [← e120]; exact (CI.r hC_M112 (show kd 413 = 44 from rfl) (by decide) 6)
            obtain ⟨v121, e121⟩ : ∃ z_, M112 413 7 = z_ := ⟨_, rfl⟩
            have b121 : 0 ≤ v121 ∧ v121 ≤ 1600 := by rw [← e121]; exact (CI.r hC_M112 (show kd 413 = 44 from rfl) (by decide) 7)
            have hq3 := hq2.imp (fun z => zr.whas z.1 hs1 (by omega) z.2)
            have hq4 := CZ.opn hq3 hC_M54 hf_M112 e113 e114 e61 e60 e59 e115 w112_0 w112_2 (fun z y => zr.has0 z y) (fun z h3 h4 hd => zr.hasd z ⟨h3, h4⟩ (by omega))
            clear w112_0 w112_2
            clear w54_1
            refine jr.aload_n rfl rfl ?_
            refine jr.getf (i := 6) (x := v120) (v := .int (Int32.ofInt (v120))) rfl rfl (by decide) rfl (by decide) rfl rfl e120 rfl ?_
            refine jr.iconst rfl ?_
            refine jr.icmp_ne rfl rfl (by omega) (by omega) (fun h66 => ?_) (fun h66 => ?_)
            · refine jr.iconst rfl ?_
              refine jr.istore_n rfl (by decide) rfl ?_
              refine jr.iload_n rfl rfl ?_
              refine jr.if_ge rfl rfl (by omega) (fun h => absurd h (by decide)) (fun _ => ?_)
              refine jr.aload_n rfl rfl ?_
              refine jr_v rfl rfl (Or.inl rfl) rfl rfl (by decide) rfl ⟨rfl, Nat.le_of_ble_eq_true rfl, Nat.le_of_ble_eq_true rfl⟩ rfl (jc.deep (c_Parser_refuse_z hC_M112 (FR.rfl _ M112)  e117 e118 e121 e120 (fun M122 hC_M122 hf_M122 w122_0 => ?_)) (by omega))
              have ht_M122 : FR W_par T M122 := FR.t ht_M112 hf_M122 (kw_sub rfl)
              obtain ⟨v123, e123⟩ : ∃ z_, M122 413 0 = z_ := ⟨_, rfl⟩
              have b123 : (-2147483648) ≤ v123 ∧ v123 ≤ 2147483647 := by rw [← e123]; exact (CI.r hC_M122 (show kd 413 = 44 from rfl) (by decide) 0)
              obtain ⟨v124, e124⟩ : ∃ z_, M122 413 1 = z_ := ⟨_, rfl⟩
              have b124 : (-2147483648) ≤ v124 ∧ v124 ≤ 2147483647 := by rw [← e124]; exact (CI.r hC_M122 (show kd 413 = 44 from rfl) (by decide) 1)
              have hq5 := CZ.rfs (M := M122) hq4 e117 e118 e121 e120 w122_0 (fun h0 tk z => zr.has1 z.1 ⟨z.2.1, z.2.2.1⟩ (by have y := z.2.2.2; omega) (fun q => by obtain ⟨_, _, c7, c8, c6, c10, c9, c11⟩ := tk; have q2 := c10 q.1; have y := zcv_i (w := zwd f N (znx f N (znx f N tt))) (by omega) (by omega) (by omega); omega))
              clear w122_0
              refine jr.aload_n rfl rfl ?_
              have e126 : M122 413 8 = v119 := (hf_M122.g (show kd 413 = 44 from rfl) rfl).trans e119
              have e127 : M112 413 3 = v1 := (hf_M112.g (show kd 413 = 44 from rfl) rfl).trans e116
              have e128 : M122 413 3 = v1 := (hf_M122.g (show kd 413 = 44 from rfl) rfl).trans e127
              have e129 : M122 413 6 = v120 := (hf_M122.g (show kd 413 = 44 from rfl) rfl).trans e120
              have e130 : M122 413 7 = v121 := (hf_M122.g (show kd 413 = 44 from rfl) rfl).trans e121
              refine jr_v rfl rfl (Or.inl rfl) rfl rfl (by decide) rfl ⟨rfl, Nat.le_of_ble_eq_true rfl, Nat.le_of_ble_eq_true rfl⟩ rfl (jc.deep (c_Parser_advance_z hC_M122 (FR.rfl _ M122)  e123 e126 (by have hq0 : M122 413 3 = v1 := e128; omega) (TXc.fr (TXc.fr (TXc.fr (TXc.fr p3 hf_M47 rfl) hf_M54 rfl) hf_M112 rfl) hf_M122 rfl) (by have hq0 : M122 413 8 = v119 := e126; have hq1 : M122 413 6 = v120 := e129; have hq2 : M122 413 7 = v121 := e130; omega) (fun M125 hC_M125 hf_M125 w125_0 w125_1 => ?_)) (by omega))
              have ht_M125 : FR W_par T M125 := FR.t ht_M122 hf_M125 (kw_sub rfl)
              obtain ⟨v131, e131⟩ : ∃ z_, M125 413 8 = z_ := ⟨_, rfl⟩
              have b131 : 0 ≤ v131 ∧ v131 ≤ 1600 := by rw [← e131]; exact (CI.r hC_M125 (show kd 413 = 44 from rfl) (by decide) 8)
              obtain ⟨v132, e132⟩ : ∃ z_, M125 413 6 = z_ := ⟨_, rfl⟩
              have b132 : (-2147483648) ≤ v132 ∧ v132 ≤ 2147483647 := by rw [← e132]; exact (CI.r hC_M125 (show kd 413 = 44 from rfl) (by decide) 6)
              obtain ⟨v133, e133⟩ : ∃ z_, M125 413 7 = z_ := ⟨_, rfl⟩
              have b133 : 0 ≤ v133 ∧ v133 ≤ 1600 := by rw [← e133]; exact (CI.r hC_M125 (show kd 413 = 44 from rfl) (by decide) 7)
              have hq6 := CZ.adv hq5 hC_M122 hf_M125 e123 e126 w125_0
              clear w125_0
              clear w112_3
              refine jr.aload_n rfl rfl ?_
              have e134 : M47 413 2 = v49 := (hf_M47.g (show kd 413 = 44 from rfl) rfl).trans e49
              have e135 : M54 413 2 = v49 := (hf_M54.g (show kd 413 = 44 from rfl) rfl).trans e134
              have e136 : M112 413 2 = v49 := (hf_M112.g (show kd 413 = 44 from rfl) rfl).trans e135
              have e137 : M122 413 2 = v49 := (hf_M122.g (show kd 413 = 44 from rfl) rfl).trans e136
              have e138 : M125 413 2 = v49 := (hf_M125.g (show kd 413 = 44 from rfl) rfl).trans e137
              have k139 : kd (v49).toNat = 47 := ((congrArg (fun z : Int => kd z.toNat) (show M125 413 2 = v49 from e138)).symm.trans (CI.x hC_M125 (show kd 413 = 44 from rfl) 2 rfl (by decide)))
              refine jr.getf (i := 2) (x := v49) (v := .ref (v49.toNat)) rfl rfl (by decide) rfl (by decide) rfl rfl e138 rfl ?_
              refine jr.bipush rfl (by decide) ?_
              refine jr.iload_n rfl rfl ?_
              obtain ⟨v141, e141⟩ : ∃ z_, M ((v49.toNat)) 2 = z_ := ⟨_, rfl⟩
              have b141 : 0 ≤ v141 ∧ v141 ≤ 932 := by rw [← e141]; exact (CI.r hC_M k139 (by decide) 2)
              have e142 : M47 ((v49.toNat)) 2 = v141 := (hf_M47.g k139 rfl).trans e141
              have e143 : M54 ((v49.toNat)) 2 = v141 := (hf_M54.g k139 rfl).trans e142
              have e144 : M112 ((v49.toNat)) 2 = v141 := (hf_M112.g k139 rfl).trans e143
              have e145 : M122 ((v49.toNat)) 2 = v141 := (hf_M122.g k139 rfl).trans e144
              have e146 : M125 ((v49.toNat)) 2 = v141 := (hf_M125.g k139 rfl).trans e145
              refine jr_v rfl rfl (Or.inl rfl) rfl rfl (Nat.lt_trans (kx_47 k139).1 (by decide)) (kx_47 k139).2 ⟨rfl, Nat.le_of_ble_eq_true rfl, Nat.le_of_ble_eq_true rfl⟩ rfl (jc.deep (c_Program_emit_z hC_M125 (FR.rfl _ M125) k139 (by omega) (by omega) e146 rfl (by have hq0 : M125 413 2 = v49 := e138; omega) (MP.fr (MP.fr (MP.fr (MP.fr w47_0 hC_M47 hf_M54 rfl) hC_M54 hf_M112 rfl) hC_M112 hf_M122 rfl) hC_M122 hf_M125 rfl) (fun r140 M140 hC_M140 hf_M140 z140 w140_0 w140_1 w140_2 => ?_)) (by omega))
              have ht_M140 : FR W_par T M140 := FR.t ht_M125 hf_M140 (kw_sub rfl)
              have hq7 := CZ.emn (p := (v49.toNat)) hq6 hC_M125 hf_M140 (e138.trans (by omega)) e146 w140_2 (by omega) (by omega)
              clear w140_2 w140_1
              refine jr.pop rfl rfl ?_
              refine jr.aload_n rfl rfl ?_
              refine jr.bipush rfl (by decide) ?_
              have e148 : M125 413 0 = v123 := (hf_M125.g (show kd 413 = 44 from rfl) rfl).trans e123
              have e149 : M140 413 0 = v123 := (hf_M140.g (show kd 413 = 44 from rfl) rfl).trans e148
              have e150 : M125 413 1 = v124 := (hf_M125.g (show kd 413 = 44 from rfl) rfl).trans e124
              have e151 : M140 413 1 = v124 := (hf_M140.g (show kd 413 = 44 from rfl) rfl).trans e150
              have e152 : M140 413 7 = v133 := (hf_M140.g (show kd 413 = 44 from rfl) rfl).trans e133
              have e153 : M140 413 6 = v132 := (hf_M140.g (show kd 413 = 44 from rfl) rfl).trans e132
              have e154 : M140 413 8 = v131 := (hf_M140.g (show kd 413 = 44 from rfl) rfl).trans e131
              obtain ⟨v155, e155⟩ : ∃ z_, M125 413 11 = z_ := ⟨_, rfl⟩
              have b155 : 0 ≤ v155 ∧ v155 ≤ 255 := by rw [← e155]; exact (CI.r hC_M125 (show kd 413 = 44 from rfl) (by decide) 11)
              have e156 : M140 413 11 = v155 := (hf_M140.g (show kd 413 = 44 from rfl) rfl).trans e155
              have e157 : M125 413 3 = v1 := (hf_M125.g (show kd 413 = 44 from rfl) rfl).trans e128
              have e158 : M140 413 3 = v1 := (hf_M140.g (show kd 413 = 44 from rfl) rfl).trans e157
              refine jr_v rfl rfl (Or.inl rfl) rfl rfl (by decide) rfl ⟨rfl, Nat.le_of_ble_eq_true rfl, Nat.le_of_ble_eq_true rfl⟩ rfl (jc.deep (c_Parser_expect_z hC_M140 (FR.rfl _ M140) (by omega) e149 e151 e152 e153 e154 e156 (by have hq0 : M140 413 3 = v1 := e158; omega) (TXc.fr (TXc.fr (TXc.fr (TXc.fr (TXc.fr (TXc.fr p3 hf_M47 rfl) hf_M54 rfl) hf_M112 rfl) hf_M122 rfl) hf_M125 rfl) hf_M140 rfl) (by have hq0 : M140 413 8 = v131 := e154; have hq1 : M140 413 6 = v132 := e153; have hq2 : M140 413 7 = v133 := e152; omega) (fun M147 hC_M147 hf_M147 w147_0 w147_1 w147_2 => ?_)) (by omega))
              have ht_M147 : FR W_par T M147 := FR.t ht_M140 hf_M147 (kw_sub rfl)
              obtain ⟨v159, e159⟩ : ∃ z_, M147 413 0 = z_ := ⟨_, rfl⟩
              have b159 : (-2147483648) ≤ v159 ∧ v159 ≤ 2147483647 := by rw [← e159]; exact (CI.r hC_M147 (show kd 413 = 44 from rfl) (by decide) 0)
              obtain ⟨v160, e160⟩ : ∃ z_, M147 413 1 = z_ := ⟨_, rfl⟩
              have b160 : (-2147483648) ≤ v160 ∧ v160 ≤ 2147483647 := by rw [← e160]; exact (CI.r hC_M147 (show kd 413 = 44 from rfl) (by decide) 1)
              obtain ⟨v161, e161⟩ : ∃ z_, M147 413 8 = z_ := ⟨_, rfl⟩
              have b161 : 0 ≤ v161 ∧ v161 ≤ 1600 := by rw [← e161]; exact (CI.r hC_M147 (show kd 413 = 44 from rfl) (by decide) 8)
              obtain ⟨v162, e162⟩ : ∃ z_, M147 413 6 = z_ := ⟨_, rfl⟩
              have b162 : (-2147483648) ≤ v162 ∧ v162 ≤ 2147483647 := by rw [← e162]; exact (CI.r hC_M147 (show kd 413 = 44 from rfl) (by decide) 6)
              obtain ⟨v163, e163⟩ : ∃ z_, M147 413 7 = z_ := ⟨_, rfl⟩
              have b163 : 0 ≤ v163 ∧ v163 ≤ 1600 := by rw [← e163]; exact (CI.r hC_M147 (show kd 413 = 44 from rfl) (by decide) 7)
              have hq8 := CZ.exp hq7 hC_M140 hf_M147 e149 e151 e152 e153 e154 e156 w147_0 w147_1 (fun z y => z.1.elim)
              clear w147_0 w147_1
              clear w125_1
              refine jr.goto rfl rfl ?_
              exact jr.vreturn rfl rfl (q _ hC_M147 ht_M147  (MP.fr w140_0 hC_M140 hf_M147 rfl) (by have hq0 : M147 413 8 = v161 := e161; have hq1 : M147 413 6 = v162 := e162; have hq2 : M147 413 7 = v163 := e163; omega) (COP.mk ((hq8.wk (fun _ h => List.mem_cons_of_mem _ h)).le h_ee (by omega)) (fun z => z.1.1.elim)))
            · refine jr.aload_n rfl rfl ?_
              obtain ⟨v164, e164⟩ : ∃ z_, M112 413 10 = z_ := ⟨_, rfl⟩
              have b164 : (-2147483648) ≤ v164 ∧ v164 ≤ 2147483647 := by rw [← e164]; exact (CI.r hC_M112 (show kd 413 = 44 from rfl) (by decide) 10)
              refine jr.getf (i := 10) (x := v164) (v := .int (Int32.ofInt (v164))) rfl rfl (by decide) rfl (by decide) rfl rfl e164 rfl ?_
              refine jr.bipush rfl (by decide) ?_
              refine jr.isub rfl ?_
              refine jr.iw (j_w (v164 - 31)) (j_w_eq _) ?_
              have b165 : (-2147483648 ≤ j_w (v164 - 31) ∧ j_w (v164 - 31) ≤ 2147483647) ∧ (v164 < -2147483617 ∨ j_w (v164 - 31) = v164 - 31) := jw31 (by omega)
              generalize j_w (v164 - 31) = v165 at b165 ⊢
              refine jr.goto rfl rfl ?_
              refine jr.istore_n rfl (by decide) rfl ?_
              refine jr.iload_n rfl rfl ?_
              refine jr.if_ge rfl rfl (by omega) (fun h82 => ?_) (fun h82 => ?_)
              · refine jr.aload_n rfl rfl ?_
                have e167 : M112 413 3 = v1 := (hf_M112.g (show kd 413 = 44 from rfl) rfl).trans e116
                refine jr_v rfl rfl (Or.inl rfl) rfl rfl (by decide) rfl ⟨rfl, Nat.le_of_ble_eq_true rfl, Nat.le_of_ble_eq_true rfl⟩ rfl (jc.deep (c_Parser_advance_z hC_M112 (FR.rfl _ M112)  e117 e119 (by have hq0 : M112 413 3 = v1 := e167; omega) (TXc.fr (TXc.fr (TXc.fr p3 hf_M47 rfl) hf_M54 rfl) hf_M112 rfl) (by have hq0 : M112 413 8 = v119 := e119; have hq1 : M112 413 6 = v120 := e120; have hq2 : M112 413 7 = v121 := e121; omega) (fun M166 hC_M166 hf_M166 w166_0 w166_1 => ?_)) (by omega))
                have ht_M166 : FR W_par T M166 := FR.t ht_M112 hf_M166 (kw_sub rfl)
                obtain ⟨v168, e168⟩ : ∃ z_, M166 413 8 = z_ := ⟨_, rfl⟩
                have b168 : 0 ≤ v168 ∧ v168 ≤ 1600 := by rw [← e168]; exact (CI.r hC_M166 (show kd 413 = 44 from rfl) (by decide) 8)
                obtain ⟨v169, e169⟩ : ∃ z_, M166 413 6 = z_ := ⟨_, rfl⟩
                have b169 : (-2147483648) ≤ v169 ∧ v169 ≤ 2147483647 := by rw [← e169]; exact (CI.r hC_M166 (show kd 413 = 44 from rfl) (by decide) 6)
                obtain ⟨v170, e170⟩ : ∃ z_, M166 413 7 = z_ := ⟨_, rfl⟩
                have b170 : 0 ≤ v170 ∧ v170 ≤ 1600 := by rw [← e170]; exact (CI.r hC_M166 (show kd 413 = 44 from rfl) (by decide) 7)
                have hq5 := hq4.tk.imp (fun z => (⟨z.1, by obtain ⟨_, _, c7, c8, c6, c10, c9, c11⟩ := z; have q := c10 (by omega); have y0 := zcv_ge (zwd_r f N (znx f N (znx f N tt))).1; have y := zcv_k (w := zwd f N (znx f N (znx f N tt))) (by omega); omega⟩ : _ ∧ zso f N (znx f N (znx f N tt)) = 1 ∧ 31 ≤ zwd f N (znx f N (znx f N tt)) ∧ zwd f N (znx f N (znx f N tt)) ≤ 44))
                have hq6 := CZ.adv hq5 hC_M112 hf_M166 e117 e119 w166_0
                clear w166_0
                clear w112_3
                refine jr.aload_n rfl rfl ?_
                have e171 : M47 413 2 = v49 := (hf_M47.g (show kd 413 = 44 from rfl) rfl).trans e49
                have e172 : M54 413 2 = v49 := (hf_M54.g (show kd 413 = 44 from rfl) rfl).trans e171
                have e173 : M112 413 2 = v49 := (hf_M112.g (show kd 413 = 44 from rfl) rfl).trans e172
                have e174 : M166 413 2 = v49 := (hf_M166.g (show kd 413 = 44 from rfl) rfl).trans e173
                have k175 : kd (v49).toNat = 47 := ((congrArg (fun z : Int => kd z.toNat) (show M166 413 2 = v49 from e174)).symm.trans (CI.x hC_M166 (show kd 413 = 44 from rfl) 2 rfl (by decide)))
                refine jr.getf (i := 2) (x := v49) (v := .ref (v49.toNat)) rfl rfl (by decide) rfl (by decide) rfl rfl e174 rfl ?_
                refine jr.bipush rfl (by decide) ?_
                refine jr.iload_n rfl rfl ?_
                obtain ⟨v177, e177⟩ : ∃ z_, M ((v49.toNat)) 2 = z_ := ⟨_, rfl⟩
                have b177 : 0 ≤ v177 ∧ v177 ≤ 932 := by rw [← e177]; exact (CI.r hC_M k175 (by decide) 2)
                have e178 : M47 ((v49.toNat)) 2 = v177 := (hf_M47.g k175 rfl).trans e177
                have e179 : M54 ((v49.toNat)) 2 = v177 := (hf_M54.g k175 rfl).trans e178
                have e180 : M112 ((v49.toNat)) 2 = v177 := (hf_M112.g k175 rfl).trans e179
                have e181 : M166 ((v49.toNat)) 2 = v177 := (hf_M166.g k175 rfl).trans e180
                refine jr_v rfl rfl (Or.inl rfl) rfl rfl (Nat.lt_trans (kx_47 k175).1 (by decide)) (kx_47 k175).2 ⟨rfl, Nat.le_of_ble_eq_true rfl, Nat.le_of_ble_eq_true rfl⟩ rfl (jc.deep (c_Program_emit_z hC_M166 (FR.rfl _ M166) k175 (by omega) (by omega) e181 rfl (by have hq0 : M166 413 2 = v49 := e174; omega) (MP.fr (MP.fr (MP.fr w47_0 hC_M47 hf_M54 rfl) hC_M54 hf_M112 rfl) hC_M112 hf_M166 rfl) (fun r176 M176 hC_M176 hf_M176 z176 w176_0 w176_1 w176_2 => ?_)) (by omega))
                have ht_M176 : FR W_par T M176 := FR.t ht_M166 hf_M176 (kw_sub rfl)
                have hq7 := CZ.emn (p := (v49.toNat)) hq6 hC_M166 hf_M176 (e174.trans (by omega)) e181 w176_2 (by omega) (by omega)
                clear w176_2 w176_1
                refine jr.pop rfl rfl ?_
                refine jr.aload_n rfl rfl ?_
                refine jr.bipush rfl (by decide) ?_
                have e183 : M166 413 0 = v117 := (hf_M166.g (show kd 413 = 44 from rfl) rfl).trans e117
                have e184 : M176 413 0 = v117 := (hf_M176.g (show kd 413 = 44 from rfl) rfl).trans e183
                have e185 : M166 413 1 = v118 := (hf_M166.g (show kd 413 = 44 from rfl) rfl).trans e118
                have e186 : M176 413 1 = v118 := (hf_M176.g (show kd 413 = 44 from rfl) rfl).trans e185
                have e187 : M176 413 7 = v170 := (hf_M176.g (show kd 413 = 44 from rfl) rfl).trans e170
                have e188 : M176 413 6 = v169 := (hf_M176.g (show kd 413 = 44 from rfl) rfl).trans e169
                have e189 : M176 413 8 = v168 := (hf_M176.g (show kd 413 = 44 from rfl) rfl).trans e168
                obtain ⟨v190, e190⟩ : ∃ z_, M166 413 11 = z_ := ⟨_, rfl⟩
                have b190 : 0 ≤ v190 ∧ v190 ≤ 255 := by rw [← e190]; exact (CI.r hC_M166 (show kd 413 = 44 from rfl) (by decide) 11)
                have e191 : M176 413 11 = v190 := (hf_M176.g (show kd 413 = 44 from rfl) rfl).trans e190
                have e192 : M166 413 3 = v1 := (hf_M166.g (show kd 413 = 44 from rfl) rfl).trans e167
                have e193 : M176 413 3 = v1 := (hf_M176.g (show kd 413 = 44 from rfl) rfl).trans e192
                refine jr_v rfl rfl (Or.inl rfl) rfl rfl (by decide) rfl ⟨rfl, Nat.le_of_ble_eq_true rfl, Nat.le_of_ble_eq_true rfl⟩ rfl (jc.deep (c_Parser_expect_z hC_M176 (FR.rfl _ M176) (by omega) e184 e186 e187 e188 e189 e191 (by have hq0 : M176 413 3 = v1 := e193; omega) (TXc.fr (TXc.fr (TXc.fr (TXc.fr (TXc.fr p3 hf_M47 rfl) hf_M54 rfl) hf_M112 rfl) hf_M166 rfl) hf_M176 rfl) (by have hq0 : M176 413 8 = v168 := e189; have hq1 : M176 413 6 = v169 := e188; have hq2 : M176 413 7 = v170 := e187; omega) (fun M182 hC_M182 hf_M182 w182_0 w182_1 w182_2 => ?_)) (by omega))
                have ht_M182 : FR W_par T M182 := FR.t ht_M176 hf_M182 (kw_sub rfl)
                obtain ⟨v194, e194⟩ : ∃ z_, M182 413 0 = z_ := ⟨_, rfl⟩
                have b194 : (-2147483648) ≤ v194 ∧ v194 ≤ 2147483647 := by rw [← e194]; exact (CI.r hC_M182 (show kd 413 = 44 from rfl) (by decide) 0)
                obtain ⟨v195, e195⟩ : ∃ z_, M182 413 1 = z_ := ⟨_, rfl⟩
                have b195 : (-2147483648) ≤ v195 ∧ v195 ≤ 2147483647 := by rw [← e195]; exact (CI.r hC_M182 (show kd 413 = 44 from rfl) (by decide) 1)
                obtain ⟨v196, e196⟩ : ∃ z_, M182 413 8 = z_ := ⟨_, rfl⟩
                have b196 : 0 ≤ v196 ∧ v196 ≤ 1600 := by rw [← e196]; exact (CI.r hC_M182 (show kd 413 = 44 from rfl) (by decide) 8)
                obtain ⟨v197, e197⟩ : ∃ z_, M182 413 6 = z_ := ⟨_, rfl⟩
                have b197 : (-2147483648) ≤ v197 ∧ v197 ≤ 2147483647 := by rw [← e197]; exact (CI.r hC_M182 (show kd 413 = 44 from rfl) (by decide) 6)
                obtain ⟨v198, e198⟩ : ∃ z_, M182 413 7 = z_ := ⟨_, rfl⟩
                have b198 : 0 ≤ v198 ∧ v198 ≤ 1600 := by rw [← e198]; exact (CI.r hC_M182 (show kd 413 = 44 from rfl) (by decide) 7)
                have hq8 := CZ.exp hq7 hC_M176 hf_M182 e184 e186 e187 e188 e189 e191 w182_0 w182_1 (fun z y => zr.has2 z.1.1.1 ⟨z.1.1.2.1, z.1.1.2.2.1⟩ (by have y2 := z.1.1.2.2.2; omega) z.1.2 y)
                clear w182_0 w182_1
                clear w166_1
                refine jr.goto rfl rfl ?_
                exact jr.vreturn rfl rfl (q _ hC_M182 ht_M182  (MP.fr w176_0 hC_M176 hf_M182 rfl) (by have hq0 : M182 413 8 = v196 := e196; have hq1 : M182 413 6 = v197 := e197; have hq2 : M182 413 7 = v198 := e198; omega) (COP.mk ((hq8.wk (fun _ h => List.mem_cons_of_mem _ h)).le h_ee (by omega)) (fun z => ⟨zr.has z.1.1.1.1 ⟨z.1.1.1.2.1, z.1.1.1.2.2.1⟩ (by have y := z.1.1.1.2.2.2; omega) z.1.1.2 z.2, by have g1 := znx_gt f (zso_lt (f := f) (N := N) (t := tt) (by omega)); have g2 := znx_ge f N (znx f N tt); have g3 := znx_ge f N (znx f N (znx f N tt)); have g4 := znx_ge f N (znx f N (znx f N (znx f N tt))); omega⟩)))
              · refine jr.aload_n rfl rfl ?_
                refine jr_v rfl rfl (Or.inl rfl) rfl rfl (by decide) rfl ⟨rfl, Nat.le_of_ble_eq_true rfl, Nat.le_of_ble_eq_true rfl⟩ rfl (jc.deep (c_Parser_refuse_z hC_M112 (FR.rfl _ M112)  e117 e118 e121 e120 (fun M199 hC_M199 hf_M199 w199_0 => ?_)) (by omega))
                have ht_M199 : FR W_par T M199 := FR.t ht_M112 hf_M199 (kw_sub rfl)
                obtain ⟨v200, e200⟩ : ∃ z_, M199 413 0 = z_ := ⟨_, rfl⟩
                have b200 : (-2147483648) ≤ v200 ∧ v200 ≤ 2147483647 := by rw [← e200]; exact (CI.r hC_M199 (show kd 413 = 44 from rfl) (by decide) 0)
                obtain ⟨v201, e201⟩ : ∃ z_, M199 413 1 = z_ := ⟨_, rfl⟩
                have b201 : (-2147483648) ≤ v201 ∧ v201 ≤ 2147483647 := by rw [← e201]; exact (CI.r hC_M199 (show kd 413 = 44 from rfl) (by decide) 1)
                have hq5 := CZ.rfs (M := M199) hq4 e117 e118 e121 e120 w199_0 (fun h0 tk z => zr.has1 z.1 ⟨z.2.1, z.2.2.1⟩ (by have y := z.2.2.2; omega) (fun q => by obtain ⟨_, _, c7, c8, c6, c10, c9, c11⟩ := tk; have q2 := c10 q.1; have y := zcv_i (w := zwd f N (znx f N (znx f N tt))) (by omega) (by omega) (by omega); omega))
                clear w199_0
                refine jr.aload_n rfl rfl ?_
                have e203 : M199 413 8 = v119 := (hf_M199.g (show kd 413 = 44 from rfl) rfl).trans e119
                have e204 : M112 413 3 = v1 := (hf_M112.g (show kd 413 = 44 from rfl) rfl).trans e116
                have e205 : M199 413 3 = v1 := (hf_M199.g (show kd 413 = 44 from rfl) rfl).trans e204
                have e206 : M199 413 6 = v120 := (hf_M199.g (show kd 413 = 44 from rfl) rfl).trans e120
                have e207 : M199 413 7 = v121 := (hf_M199.g (show kd 413 = 44 from rfl) rfl).trans e121
                refine jr_v rfl rfl (Or.inl rfl) rfl rfl (by decide) rfl ⟨rfl, Nat.le_of_ble_eq_true rfl, Nat.le_of_ble_eq_true rfl⟩ rfl (jc.deep (c_Parser_advance_z hC_M199 (FR.rfl _ M199)  e200 e203 (by have hq0 : M199 413 3 = v1 := e205; omega) (TXc.fr (TXc.fr (TXc.fr (TXc.fr p3 hf_M47 rfl) hf_M54 rfl) hf_M112 rfl) hf_M199 rfl) (by have hq0 : M199 413 8 = v119 := e203; have hq1 : M199 413 6 = v120 := e206; have hq2 : M199 413 7 = v121 := e207; omega) (fun M202 hC_M202 hf_M202 w202_0 w202_1 => ?_)) (by omega))
                have ht_M202 : FR W_par T M202 := FR.t ht_M199 hf_M202 (kw_sub rfl)
                obtain ⟨v208, e208⟩ : ∃ z_, M202 413 8 = z_ := ⟨_, rfl⟩
                have b208 : 0 ≤ v208 ∧ v208 ≤ 1600 := by rw [← e208]; exact (CI.r hC_M202 (show kd 413 = 44 from rfl) (by decide) 8)
                obtain ⟨v209, e209⟩ : ∃ z_, M202 413 6 = z_ := ⟨_, rfl⟩
                have b209 : (-2147483648) ≤ v209 ∧ v209 ≤ 2147483647 := by rw [← e209]; exact (CI.r hC_M202 (show kd 413 = 44 from rfl) (by decide) 6)
                obtain ⟨v210, e210⟩ : ∃ z_, M202 413 7 = z_ := ⟨_, rfl⟩
                have b210 : 0 ≤ v210 ∧ v210 ≤ 1600 := by rw [← e210]; exact (CI.r hC_M202 (show kd 413 = 44 from rfl) (by decide) 7)
                have hq6 := CZ.adv hq5 hC_M199 hf_M202 e200 e203 w202_0
                clear w202_0
                clear w112_3
                refine jr.aload_n rfl rfl ?_
                have e211 : M47 413 2 = v49 := (hf_M47.g (show kd 413 = 44 from rfl) rfl).trans e49
                have e212 : M54 413 2 = v49 := (hf_M54.g (show kd 413 = 44 from rfl) rfl).trans e211
                have e213 : M112 413 2 = v49 := (hf_M112.g (show kd 413 = 44 from rfl) rfl).trans e212
                have e214 : M199 413 2 = v49 := (hf_M199.g (show kd 413 = 44 from rfl) rfl).trans e213
                have e215 : M202 413 2 = v49 := (hf_M202.g (show kd 413 = 44 from rfl) rfl).trans e214
                have k216 : kd (v49).toNat = 47 := ((congrArg (fun z : Int => kd z.toNat) (show M202 413 2 = v49 from e215)).symm.trans (CI.x hC_M202 (show kd 413 = 44 from rfl) 2 rfl (by decide)))
                refine jr.getf (i := 2) (x := v49) (v := .ref (v49.toNat)) rfl rfl (by decide) rfl (by decide) rfl rfl e215 rfl ?_
                refine jr.bipush rfl (by decide) ?_
                refine jr.iload_n rfl rfl ?_
                obtain ⟨v218, e218⟩ : ∃ z_, M ((v49.toNat)) 2 = z_ := ⟨_, rfl⟩
                have b218 : 0 ≤ v218 ∧ v218 ≤ 932 := by rw [← e218]; exact (CI.r hC_M k216 (by decide) 2)
                have e219 : M47 ((v49.toNat)) 2 = v218 := (hf_M47.g k216 rfl).trans e218
                have e220 : M54 ((v49.toNat)) 2 = v218 := (hf_M54.g k216 rfl).trans e219
                have e221 : M112 ((v49.toNat)) 2 = v218 := (hf_M112.g k216 rfl).trans e220
                have e222 : M199 ((v49.toNat)) 2 = v218 := (hf_M199.g k216 rfl).trans e221
                have e223 : M202 ((v49.toNat)) 2 = v218 := (hf_M202.g k216 rfl).trans e222
                refine jr_v rfl rfl (Or.inl rfl) rfl rfl (Nat.lt_trans (kx_47 k216).1 (by decide)) (kx_47 k216).2 ⟨rfl, Nat.le_of_ble_eq_true rfl, Nat.le_of_ble_eq_true rfl⟩ rfl (jc.deep (c_Program_emit_z hC_M202 (FR.rfl _ M202) k216 (by omega) (by omega) e223 rfl (by have hq0 : M202 413 2 = v49 := e215; omega) (MP.fr (MP.fr (MP.fr (MP.fr w47_0 hC_M47 hf_M54 rfl) hC_M54 hf_M112 rfl) hC_M112 hf_M199 rfl) hC_M199 hf_M202 rfl) (fun r217 M217 hC_M217 hf_M217 z217 w217_0 w217_1 w217_2 => ?_)) (by omega))
                have ht_M217 : FR W_par T M217 := FR.t ht_M202 hf_M217 (kw_sub rfl)
                have hq7 := CZ.emn (p := (v49.toNat)) hq6 hC_M202 hf_M217 (e215.trans (by omega)) e223 w217_2 (by omega) (by omega)
                clear w217_2 w217_1
                refine jr.pop rfl rfl ?_
                refine jr.aload_n rfl rfl ?_
                refine jr.bipush rfl (by decide) ?_
                have e225 : M202 413 0 = v200 := (hf_M202.g (show kd 413 = 44 from rfl) rfl).trans e200
                have e226 : M217 413 0 = v200 := (hf_M217.g (show kd 413 = 44 from rfl) rfl).trans e225
                have e227 : M202 413 1 = v201 := (hf_M202.g (show kd 413 = 44 from rfl) rfl).trans e201
                have e228 : M217 413 1 = v201 := (hf_M217.g (show kd 413 = 44 from rfl) rfl).trans e227
                have e229 : M217 413 7 = v210 := (hf_M217.g (show kd 413 = 44 from rfl) rfl).trans e210
                have e230 : M217 413 6 = v209 := (hf_M217.g (show kd 413 = 44 from rfl) rfl).trans e209
                have e231 : M217 413 8 = v208 := (hf_M217.g (show kd 413 = 44 from rfl) rfl).trans e208
                obtain ⟨v232, e232⟩ : ∃ z_, M202 413 11 = z_ := ⟨_, rfl⟩
                have b232 : 0 ≤ v232 ∧ v232 ≤ 255 := by rw [← e232]; exact (CI.r hC_M202 (show kd 413 = 44 from rfl) (by decide) 11)
                have e233 : M217 413 11 = v232 := (hf_M217.g (show kd 413 = 44 from rfl) rfl).trans e232
                have e234 : M202 413 3 = v1 := (hf_M202.g (show kd 413 = 44 from rfl) rfl).trans e205
                have e235 : M217 413 3 = v1 := (hf_M217.g (show kd 413 = 44 from rfl) rfl).trans e234
                refine jr_v rfl rfl (Or.inl rfl) rfl rfl (by decide) rfl ⟨rfl, Nat.le_of_ble_eq_true rfl, Nat.le_of_ble_eq_true rfl⟩ rfl (jc.deep (c_Parser_expect_z hC_M217 (FR.rfl _ M217) (by omega) e226 e228 e229 e230 e231 e233 (by have hq0 : M217 413 3 = v1 := e235; omega) (TXc.fr (TXc.fr (TXc.fr (TXc.fr (TXc.fr (TXc.fr p3 hf_M47 rfl) hf_M54 rfl) hf_M112 rfl) hf_M199 rfl) hf_M202 rfl) hf_M217 rfl) (by have hq0 : M217 413 8 = v208 := e231; have hq1 : M217 413 6 = v209 := e230; have hq2 : M217 413 7 = v210 := e229; omega) (fun M224 hC_M224 hf_M224 w224_0 w224_1 w224_2 => ?_)) (by omega))
                have ht_M224 : FR W_par T M224 := FR.t ht_M217 hf_M224 (kw_sub rfl)
                obtain ⟨v236, e236⟩ : ∃ z_, M224 413 0 = z_ := ⟨_, rfl⟩
                have b236 : (-2147483648) ≤ v236 ∧ v236 ≤ 2147483647 := by rw [← e236]; exact (CI.r hC_M224 (show kd 413 = 44 from rfl) (by decide) 0)
                obtain ⟨v237, e237⟩ : ∃ z_, M224 413 1 = z_ := ⟨_, rfl⟩
                have b237 : (-2147483648) ≤ v237 ∧ v237 ≤ 2147483647 := by rw [← e237]; exact (CI.r hC_M224 (show kd 413 = 44 from rfl) (by decide) 1)
                obtain ⟨v238, e238⟩ : ∃ z_, M224 413 8 = z_ := ⟨_, rfl⟩
                have b238 : 0 ≤ v238 ∧ v238 ≤ 1600 := by rw [← e238]; exact (CI.r hC_M224 (show kd 413 = 44 from rfl) (by decide) 8)
                obtain ⟨v239, e239⟩ : ∃ z_, M224 413 6 = z_ := ⟨_, rfl⟩
                have b239 : (-2147483648) ≤ v239 ∧ v239 ≤ 2147483647 := by rw [← e239]; exact (CI.r hC_M224 (show kd 413 = 44 from rfl) (by decide) 6)
                obtain ⟨v240, e240⟩ : ∃ z_, M224 413 7 = z_ := ⟨_, rfl⟩
                have b240 : 0 ≤ v240 ∧ v240 ≤ 1600 := by rw [← e240]; exact (CI.r hC_M224 (show kd 413 = 44 from rfl) (by decide) 7)
                have hq8 := CZ.exp hq7 hC_M217 hf_M224 e226 e228 e229 e230 e231 e233 w224_0 w224_1 (fun z y => z.1.elim)
                clear w224_0 w224_1
                clear w202_1
                refine jr.goto rfl rfl ?_
                exact jr.vreturn rfl rfl (q _ hC_M224 ht_M224  (MP.fr w217_0 hC_M217 hf_M224 rfl) (by have hq0 : M224 413 8 = v238 := e238; have hq1 : M224 413 6 = v239 := e239; have hq2 : M224 413 7 = v240 := e240; omega) (COP.mk ((hq8.wk (fun _ h => List.mem_cons_of_mem _ h)).le h_ee (by omega)) (fun z => z.1.1.elim)))
        · refine jr.aload_n rfl rfl ?_
          obtain ⟨v242, e242⟩ : ∃ z_, M 413 1 = z_ := ⟨_, rfl⟩
          have b242 : (-2147483648) ≤ v242 ∧ v242 ≤ 2147483647 := by rw [← e242]; exact (CI.r hC_M (show kd 413 = 44 from rfl) (by decide) 1)
          refine jr_v rfl rfl (Or.inl rfl) rfl rfl (by decide) rfl ⟨rfl, Nat.le_of_ble_eq_true rfl, Nat.le_of_ble_eq_true rfl⟩ rfl (jc.deep (c_Parser_refuse_z hC_M (FR.rfl _ M)  e6 e242 e5 e4 (fun M241 hC_M241 hf_M241 w241_0 => ?_)) (by omega))
          have ht_M241 : FR W_par T M241 := FR.t ht_M hf_M241 (kw_sub rfl)
          obtain ⟨v243, e243⟩ : ∃ z_, M241 413 0 = z_ := ⟨_, rfl⟩
          have b243 : (-2147483648) ≤ v243 ∧ v243 ≤ 2147483647 := by rw [← e243]; exact (CI.r hC_M241 (show kd 413 = 44 from rfl) (by decide) 0)
          obtain ⟨v244, e244⟩ : ∃ z_, M241 413 1 = z_ := ⟨_, rfl⟩
          have b244 : (-2147483648) ≤ v244 ∧ v244 ≤ 2147483647 := by rw [← e244]; exact (CI.r hC_M241 (show kd 413 = 44 from rfl) (by decide) 1)
          have hq1 := CZ.rfs (M := M241) p5 e6 e242 e5 e4 w241_0 (fun h0 tk z => zr.opr z p9 p10 (fun q => by obtain ⟨_, _, c7, c8, c6, c10, c9, c11⟩ := tk; have q2 := c10 q; have q3 := p11 q; exact zcv_ask (by omega) (by omega)))
          clear w241_0
          have e245 : M241 413 8 = v3 := (hf_M241.g (show kd 413 = 44 from rfl) rfl).trans e3
          have e246 : M241 413 6 = v4 := (hf_M241.g (show kd 413 = 44 from rfl) rfl).trans e4
          have e247 : M241 413 7 = v5 := (hf_M241.g (show kd 413 = 44 from rfl) rfl).trans e5
          exact jr.vreturn rfl rfl (q _ hC_M241 ht_M241  (MP.fr p1 hC_M hf_M241 rfl) (by have hq0 : M241 413 8 = v3 := e245; have hq1 : M241 413 6 = v4 := e246; have hq2 : M241 413 7 = v5 := e247; omega) (COP.mk (hq1.le h_ee (by omega)) (fun z => z.elim)))
