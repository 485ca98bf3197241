theorem c_Parser_exp_z_L21 {A : Nat → Option (Nat × (Nat → Int32))} [HA A] {Q : Option Value → jm → Prop} {G : Nat → Int → Int} {f : Int → Int} {N : Int} {xs : ZS} {tt kk dd cc bh ee : Int} {sg : List (Int × Int × Int × Int)} {nm ak : List Int} {fz : List (Int × Int)} {T : jm} {n : Nat} (ihP : PXz A n) {F : Int} {x : Int} {y : Int} (q : ∀ (M' : jm), CI M' → FR W_par T M' → (MP M' G) → (F = 0 ∨ M' 413 0 ≠ 0) → (M' 413 8 ≤ N ∧ (M' 413 6 = 1 → M' 413 7 < M' 413 8)) → (CXP f N xs M' x dd cc bh sg nm ak ee fz tt) → Q none M') : ∀ (nM : Nat) (M : jm) (i : Int), CI M → FR W_par T M → 0 ≤ x ∧ x ≤ 4 → 0 ≤ y ∧ y ≤ 13 → 0 ≤ i ∧ i ≤ 1601 → (1 ≤ M 413 3 ∧ M 413 3 ≤ 1) → (y ≤ 12 ∨ M 413 0 ≠ 0) → (F = 0 ∨ M 413 0 ≠ 0) → (MP M G) → (20 * (13 - y) + (8 - x) ≤ ((n + 1 : Nat) : Int)) → (M 413 8 ≤ N ∧ (M 413 6 = 1 → M 413 7 < M 413 8)) → (CXL f N xs M x dd cc bh sg nm ak ee fz tt i) → (TXc f N M) → (dd = y) → (0 ≤ ee) → ((x ≤ 2 → cc = 0)) → (∃ (a w n e : Int) (r : List (Int × Int × Int × Int)), sg = (a, w, n, e) :: r ∧ a ≠ 20) → ((M 413 0 ≠ 0 ∨ 0 ≤ tt)) → 1601 - i ≤ nM → jr A (n + 60) xm_203 21 [(1, .int (Int32.ofInt (x))), (2, .int (Int32.ofInt (y))), (3, .int (Int32.ofInt (i))), (0, .ref (413))] [] M Q := by
  intro nM
  induction nM using Nat.strongRecOn with
  | ind nM ih =>
    intro M i hC_M ht_M h_x h_y h_i hy0 hy1 hy2 hy3 hy4 hy5 hy6 hy7 hy8 hy9 hy10 hy11 hy12 hm
    have h_ee := hy9
    have hN := hy7.1
    obtain ⟨v1, e1⟩ : ∃ z_, M 413 3 = z_ := ⟨_, rfl⟩
    have b1 : 1 ≤ v1 ∧ v1 ≤ 419 := by rw [← e1]; exact (CI.r hC_M (show kd 413 = 44 from rfl) (by decide) 3)
    have b2 : 1 ≤ v1 ∧ v1 ≤ 1 := by rw [← e1]; exact hy0
    obtain ⟨v3, e3⟩ : ∃ z_, M 413 0 = z_ := ⟨_, rfl⟩
    have b3 : (-2147483648) ≤ v3 ∧ v3 ≤ 2147483647 := by rw [← e3]; exact (CI.r hC_M (show kd 413 = 44 from rfl) (by decide) 0)
    obtain ⟨v4, e4⟩ : ∃ z_, M 413 8 = z_ := ⟨_, rfl⟩
    have b4 : 0 ≤ v4 ∧ v4 ≤ 1600 := by rw [← e4]; exact (CI.r hC_M (show kd 413 = 44 from rfl) (by decide) 8)
    obtain ⟨v5, e5⟩ : ∃ z_, M 413 6 = z_ := ⟨_, rfl⟩
    have b5 : (-2147483648) ≤ v5 ∧ v5 ≤ 2147483647 := by rw [← e5]; exact (CI.r hC_M (show kd 413 = 44 from rfl) (by decide) 6)
    obtain ⟨v6, e6⟩ : ∃ z_, M 413 7 = z_ := ⟨_, rfl⟩
    have b6 : 0 ≤ v6 ∧ v6 ≤ 1600 := by rw [← e6]; exact (CI.r hC_M (show kd 413 = 44 from rfl) (by decide) 7)
    refine jr.iload_n rfl rfl ?_
    refine jr.aload_n rfl rfl ?_
    obtain ⟨v7, e7⟩ : ∃ z_, M 413 4 = z_ := ⟨_, rfl⟩
    have b7 : 0 ≤ v7 ∧ v7 ≤ 1600 := by rw [← e7]; exact (CI.r hC_M (show kd 413 = 44 from rfl) (by decide) 4)
    refine jr.getf (i := 4) (x := v7) (v := .int (Int32.ofInt (v7))) rfl rfl (by decide) rfl (by decide) rfl rfl e7 rfl ?_
    refine jr.icmp_gt rfl rfl (by omega) (by omega) (fun h26 => ?_) (fun h26 => ?_)
    · obtain ⟨t0, k0, c0, hu0, hq0⟩ := hy6
      exact jr.vreturn rfl rfl (q _ hC_M ht_M  hy3 (by have hq0 : M 413 0 = v3 := e3; omega) (by have hq0 : M 413 8 = v4 := e4; have hq1 : M 413 6 = v5 := e5; have hq2 : M 413 7 = v6 := e6; omega) (by first | (have hx := h33; exact CXP.flt (by omega) hq0) | exact CXP.mk (c := c0) hq0.t0.tk (by omega) (fun z => absurd z.2.1.2 (by have y0 := z.1.2; omega))))
    · refine jr.aload_n rfl rfl ?_
      refine jr.getf (i := 0) (x := v3) (v := .int (Int32.ofInt (v3))) rfl rfl (by decide) rfl (by decide) rfl rfl e3 rfl ?_
      refine jr.if_ne rfl rfl (by omega) (fun h33 => ?_) (fun h33 => ?_)
      · obtain ⟨t0, k0, c0, hu0, hq0⟩ := hy6
        exact jr.vreturn rfl rfl (q _ hC_M ht_M  hy3 (by have hq0 : M 413 0 = v3 := e3; omega) (by have hq0 : M 413 8 = v4 := e4; have hq1 : M 413 6 = v5 := e5; have hq2 : M 413 7 = v6 := e6; omega) (by first | (have hx := h33; exact CXP.flt (by omega) hq0) | exact CXP.mk (c := c0) hq0.t0.tk (by omega) (fun z => absurd z.2.1.2 (by have y0 := z.1.2; omega))))
      · refine jr.aload_n rfl rfl ?_
        refine jr_v rfl rfl (Or.inl rfl) rfl rfl (by decide) rfl ⟨rfl, Nat.le_of_ble_eq_true rfl, Nat.le_of_ble_eq_true rfl⟩ rfl (jc.deep (c_Parser_rankOfSign_z hC_M  (fun r8 z8 w8_0 => ?_)) (by omega))
        refine jr.iload_n rfl rfl ?_
        refine jr.icmp_ne rfl rfl (by omega) (by omega) (fun h41 => ?_) (fun h41 => ?_)
        · obtain ⟨t0, k0, c0, hu0, hq0⟩ := hy6
          exact jr.vreturn rfl rfl (q _ hC_M ht_M  hy3 (by have hq0 : M 413 0 = v3 := e3; omega) (by have hq0 : M 413 8 = v4 := e4; have hq1 : M 413 6 = v5 := e5; have hq2 : M 413 7 = v6 := e6; omega) (by first | (have hx := h41; exact CXP.mk hq0.tk (by omega) (fun z => ⟨z.1.1, z.1.2.1.up (by have y := zrk_r (f := f) (N := N) (t := t0) z.2.2.2.2.1 z.2.2.2.2.2.2.2 w8_0; omega), z.1.2.2.1⟩)) | (have hx := h33; exact CXP.flt (by omega) hq0) | exact CXP.mk (c := c0) hq0.t0.tk (by omega) (fun z => absurd z.2.1.2 (by have y0 := z.1.2; omega))))
        · refine jr.aload_n rfl rfl ?_
          obtain ⟨v9, e9⟩ : ∃ z_, M 413 11 = z_ := ⟨_, rfl⟩
          have b9 : 0 ≤ v9 ∧ v9 ≤ 255 := by rw [← e9]; exact (CI.r hC_M (show kd 413 = 44 from rfl) (by decide) 11)
          refine jr.getf (i := 11) (x := v9) (v := .int (Int32.ofInt (v9))) rfl rfl (by decide) rfl (by decide) rfl rfl e9 rfl ?_
          refine jr.istore rfl (by decide) rfl ?_
          refine jr.aload_n rfl rfl ?_
          obtain ⟨v11, e11⟩ : ∃ z_, M 413 1 = z_ := ⟨_, rfl⟩
          have b11 : (-2147483648) ≤ v11 ∧ v11 ≤ 2147483647 := by rw [← e11]; exact (CI.r hC_M (show kd 413 = 44 from rfl) (by decide) 1)
          obtain ⟨v12, e12⟩ : ∃ z_, M 413 2 = z_ := ⟨_, rfl⟩
          have b12 : 0 ≤ v12 ∧ v12 ≤ 597 := by rw [← e12]; exact (CI.r hC_M (show kd 413 = 44 from rfl) (by decide) 2)
          have k10_P : kd (v12).toNat = 47 := (congrArg (fun z : Int => kd z.toNat) e12).symm.trans (CI.x hC_M (show kd 413 = 44 from rfl) 2 rfl (by decide))
          obtain ⟨v13, e13⟩ : ∃ z_, M ((v12.toNat)) 4 = z_ := ⟨_, rfl⟩
          have b13 : (-2147483648) ≤ v13 ∧ v13 ≤ 2147483647 := by rw [← e13]; exact (CI.r hC_M k10_P (by decide) 4)
          refine jr_v rfl rfl (Or.inl rfl) rfl rfl (by decide) rfl ⟨rfl, Nat.le_of_ble_eq_true rfl, Nat.le_of_ble_eq_true rfl⟩ rfl (jc.deep (c_Parser_countNode_z hC_M (FR.rfl _ M)  e3 e11 e6 e12 e13 hy3 (fun M10 hC_M10 hf_M10 w10_0 w10_1 => ?_)) (by omega))
          have ht_M10 : FR W_par T M10 := FR.t ht_M hf_M10 (kw_sub rfl)
          obtain ⟨v14, e14⟩ : ∃ z_, M10 413 0 = z_ := ⟨_, rfl⟩
          have b14 : (-2147483648) ≤ v14 ∧ v14 ≤ 2147483647 := by rw [← e14]; exact (CI.r hC_M10 (show kd 413 = 44 from rfl) (by decide) 0)
          obtain ⟨v15, e15⟩ : ∃ z_, M10 413 1 = z_ := ⟨_, rfl⟩
          have b15 : (-2147483648) ≤ v15 ∧ v15 ≤ 2147483647 := by rw [← e15]; exact (CI.r hC_M10 (show kd 413 = 44 from rfl) (by decide) 1)
          obtain ⟨v16, e16⟩ : ∃ z_, M10 ((v12.toNat)) 4 = z_ := ⟨_, rfl⟩
          have b16 : (-2147483648) ≤ v16 ∧ v16 ≤ 2147483647 := by rw [← e16]; exact (CI.r hC_M10 k10_P (by decide) 4)
          obtain ⟨t0, k0, c0, hu0, hq0⟩ := hy6
          obtain ⟨aa, aww, an, ae, ar, hsg, haa⟩ := hy11
          subst hsg
          have hq1 := hq0.tk.imp (fun z => (⟨z.1, zrk_r (f := f) (N := N) (t := t0) z.2.2.2.2.1 z.2.2.2.2.2.2.2 w8_0⟩ : _ ∧ zrk f N t0 = r8))
          have hF0 : F = 0 := by omega
          have hyy : y ≤ 12 := by omega
          have htt : 0 ≤ tt := by omega
          clear hy1 hy2 hy12 w8_0
          have hq2 := CZ.node hq1 hC_M hf_M10 e3 e11 e6 e12 e13 w10_1 (fun z hk => zr.bink z.1.1 haa (by have y := z.2; omega) (fun q => by have y := z.2; have y2 := z.1.2.2.2 (by omega); omega) hk)
          have wf10 := ndF w10_1
          clear w10_1
          have hq3 := hq2.imp (fun z => zr.eq (c' := zc2 x cc) (zr.bin z.1.1.1 haa (by have y := z.1.2; omega) (fun q => by have y := z.1.2; have y2 := z.1.1.2.2.2 (by omega); omega) z.2) rfl rfl rfl rfl (zc2_e (by have y := z.1.2; omega) z.1.1.2.2.1) rfl)
          refine jr.aload_n rfl rfl ?_
          have e18 : M10 413 8 = v4 := (hf_M10.g (show kd 413 = 44 from rfl) rfl).trans e4
          have e19 : M10 413 3 = v1 := (hf_M10.g (show kd 413 = 44 from rfl) rfl).trans e1
          have e20 : M10 413 6 = v5 := (hf_M10.g (show kd 413 = 44 from rfl) rfl).trans e5
          have e21 : M10 413 7 = v6 := (hf_M10.g (show kd 413 = 44 from rfl) rfl).trans e6
          refine jr_v rfl rfl (Or.inl rfl) rfl rfl (by decide) rfl ⟨rfl, Nat.le_of_ble_eq_true rfl, Nat.le_of_ble_eq_true rfl⟩ rfl (jc.deep (c_Parser_advance_z hC_M10 (FR.rfl _ M10)  e14 e18 (by have hq0 : M10 413 3 = v1 := e19; omega) (TXc.fr hy7 hf_M10 rfl) (by have hq0 : M10 413 8 = v4 := e18; have hq1 : M10 413 6 = v5 := e20; have hq2 : M10 413 7 = v6 := e21; omega) (fun M17 hC_M17 hf_M17 w17_0 w17_1 => ?_)) (by omega))
          have ht_M17 : FR W_par T M17 := FR.t ht_M10 hf_M17 (kw_sub rfl)
          obtain ⟨v22, e22⟩ : ∃ z_, M17 413 8 = z_ := ⟨_, rfl⟩
          have b22 : 0 ≤ v22 ∧ v22 ≤ 1600 := by rw [← e22]; exact (CI.r hC_M17 (show kd 413 = 44 from rfl) (by decide) 8)
          obtain ⟨v23, e23⟩ : ∃ z_, M17 413 6 = z_ := ⟨_, rfl⟩
          have b23 : (-2147483648) ≤ v23 ∧ v23 ≤ 2147483647 := by rw [← e23]; exact (CI.r hC_M17 (show kd 413 = 44 from rfl) (by decide) 6)
          obtain ⟨v24, e24⟩ : ∃ z_, M17 413 7 = z_ := ⟨_, rfl⟩
          have b24 : 0 ≤ v24 ∧ v24 ≤ 1600 := by rw [← e24]; exact (CI.r hC_M17 (show kd 413 = 44 from rfl) (by decide) 7)
          have hq4 := CZ.adv hq3 hC_M10 hf_M17 e14 e18 w17_0
          clear w17_0
          clear hy5
          refine jr.iconst rfl ?_
          refine jr.istore rfl (by decide) rfl ?_
          refine jr.iload_n rfl rfl ?_
          refine jr.iconst rfl ?_
          refine jr.icmp_gt rfl rfl (by omega) (by omega) (fun h63 => ?_) (fun h63 => ?_)
          · refine jr.aload_n rfl rfl ?_
            refine jr.iload_n rfl rfl ?_
            refine jr.iconst rfl ?_
            refine jr.iadd rfl ?_
            refine jr.iload_n rfl rfl ?_
            have e26 : M17 413 0 = v14 := (hf_M17.g (show kd 413 = 44 from rfl) rfl).trans e14
            have e27 : M17 413 3 = v1 := (hf_M17.g (show kd 413 = 44 from rfl) rfl).trans e19
            refine jr_v rfl rfl (Or.inl rfl) rfl rfl (by decide) rfl ⟨rfl, Nat.le_of_ble_eq_true rfl, Nat.le_of_ble_eq_true rfl⟩ rfl (jc.deep (ihP.2.2.1 hC_M17 (FR.rfl _ M17) (by omega) (by omega) e26 (by have hq0 : M17 413 3 = v1 := e27; omega) (by have hq0 : M17 413 0 = v14 := e26; omega) (MP.fr w10_0 hC_M10 hf_M17 rfl) (by omega) (TXc.fr (TXc.fr hy7 hf_M10 rfl) hf_M17 rfl) (by have hq0 : M17 413 8 = v22 := e22; have hq1 : M17 413 6 = v23 := e23; have hq2 : M17 413 7 = v24 := e24; omega) hq4 (by omega) (by omega) (fun q => zc2_0 (by omega)) ⟨_, _, _, _, _, rfl, haa⟩ (fun M25 hC_M25 hf_M25 w25_0 w25_1 w25_2 w25_3 => ?_)) (by omega))
            have ht_M25 : FR W_par T M25 := FR.t ht_M17 hf_M25 (kw_sub rfl)
            obtain ⟨v28, e28⟩ : ∃ z_, M25 413 0 = z_ := ⟨_, rfl⟩
            have b28 : (-2147483648) ≤ v28 ∧ v28 ≤ 2147483647 := by rw [← e28]; exact (CI.r hC_M25 (show kd 413 = 44 from rfl) (by decide) 0)
            obtain ⟨v29, e29⟩ : ∃ z_, M25 413 8 = z_ := ⟨_, rfl⟩
            have b29 : 0 ≤ v29 ∧ v29 ≤ 1600 := by rw [← e29]; exact (CI.r hC_M25 (show kd 413 = 44 from rfl) (by decide) 8)
            obtain ⟨v30, e30⟩ : ∃ z_, M25 413 6 = z_ := ⟨_, rfl⟩
            have b30 : (-2147483648) ≤ v30 ∧ v30 ≤ 2147483647 := by rw [← e30]; exact (CI.r hC_M25 (show kd 413 = 44 from rfl) (by decide) 6)
            obtain ⟨v31, e31⟩ : ∃ z_, M25 413 7 = z_ := ⟨_, rfl⟩
            have b31 : 0 ≤ v31 ∧ v31 ≤ 1600 := by rw [← e31]; exact (CI.r hC_M25 (show kd 413 = 44 from rfl) (by decide) 7)
            obtain ⟨t1, k1, c1, hu1, hq6⟩ := w25_3
            clear w17_1
            refine jr.aload_n rfl rfl ?_
            have e32 : M10 413 2 = v12 := (hf_M10.g (show kd 413 = 44 from rfl) rfl).trans e12
            have e33 : M17 413 2 = v12 := (hf_M17.g (show kd 413 = 44 from rfl) rfl).trans e32
            have e34 : M25 413 2 = v12 := (hf_M25.g (show kd 413 = 44 from rfl) rfl).trans e33
            have k35 : kd (v12).toNat = 47 := ((congrArg (fun z : Int => kd z.toNat) (show M25 413 2 = v12 from e34)).symm.trans (CI.x hC_M25 (show kd 413 = 44 from rfl) 2 rfl (by decide)))
            refine jr.getf (i := 2) (x := v12) (v := .ref (v12.toNat)) rfl rfl (by decide) rfl (by decide) rfl rfl e34 rfl ?_
            refine jr.iload_n rfl rfl ?_
            refine jr.iconst rfl ?_
            refine jr.icmp_gt rfl rfl (by omega) (by omega) (fun h103 => ?_) (fun h103 => ?_)
            · refine jr.sipush rfl (by decide) ?_
              refine jr.iload rfl rfl ?_
              refine jr.iadd rfl ?_
              refine jr.iconst rfl ?_
              obtain ⟨v37, e37⟩ : ∃ z_, M25 ((v12.toNat)) 2 = z_ := ⟨_, rfl⟩
              have b37 : 0 ≤ v37 ∧ v37 ≤ 932 := by rw [← e37]; exact (CI.r hC_M25 k35 (by decide) 2)
              refine jr_v rfl rfl (Or.inl rfl) rfl rfl (Nat.lt_trans (kx_47 k35).1 (by decide)) (kx_47 k35).2 ⟨rfl, Nat.le_of_ble_eq_true rfl, Nat.le_of_ble_eq_true rfl⟩ rfl (jc.deep (c_Program_emit_z hC_M25 (FR.rfl _ M25) k35 (by omega) (by omega) e37 rfl (by have hq0 : M25 413 2 = v12 := e34; omega) w25_0 (fun r36 M36 hC_M36 hf_M36 z36 w36_0 w36_1 w36_2 => ?_)) (by omega))
              have ht_M36 : FR W_par T M36 := FR.t ht_M25 hf_M36 (kw_sub rfl)
              have hq7 := CZ.emn (p := (v12.toNat)) hq6 hC_M25 hf_M36 (e34.trans (by omega)) e37 w36_2 (by omega) (by omega)
              clear w36_2 w36_1
              refine jr.pop rfl rfl ?_
              refine jr.aload_n rfl rfl ?_
              have e38 : M36 413 2 = v12 := (hf_M36.g (show kd 413 = 44 from rfl) rfl).trans e34
              have k39 : kd (v12).toNat = 47 := ((congrArg (fun z : Int => kd z.toNat) (show M36 413 2 = v12 from e38)).symm.trans (CI.x hC_M36 (show kd 413 = 44 from rfl) 2 rfl (by decide)))
              refine jr.getf (i := 2) (x := v12) (v := .ref (v12.toNat)) rfl rfl (by decide) rfl (by decide) rfl rfl e38 rfl ?_
              refine jr.iload rfl rfl ?_
              obtain ⟨v41, e41⟩ : ∃ z_, M36 ((v12.toNat)) 2 = z_ := ⟨_, rfl⟩
              have b41 : 0 ≤ v41 ∧ v41 ≤ 932 := by rw [← e41]; exact (CI.r hC_M36 k39 (by decide) 2)
              refine jr_v rfl rfl (Or.inl rfl) rfl rfl (Nat.lt_trans (kx_47 k39).1 (by decide)) (kx_47 k39).2 ⟨rfl, Nat.le_of_ble_eq_true rfl, Nat.le_of_ble_eq_true rfl⟩ rfl (jc.deep (c_Program_land_z hC_M36 (FR.rfl _ M36) k39 (by omega) e41 rfl (by have hq0 : M36 413 2 = v12 := e38; omega) w36_0 (fun M40 hC_M40 hf_M40 w40_0 w40_1 => ?_)) (by omega))
              have ht_M40 : FR W_par T M40 := FR.t ht_M36 hf_M40 (kw_sub rfl)
              have hq8 := CZ.lndn (p := (v12.toNat)) hq7 w40_1 (by decide)
              have hq9 := hq8.wk (fun _ h => List.mem_cons_of_mem _ h)
              refine jr.iload_n rfl rfl ?_
              refine jr.iconst rfl ?_
              refine jr.icmp_ne rfl rfl (by omega) (by omega) (fun h134 => ?_) (fun h134 => ?_)
              · refine jr.iinc rfl rfl (by decide) rfl ?_
                refine jr.goto rfl rfl ?_
                have e42 : M25 413 3 = v1 := (hf_M25.g (show kd 413 = 44 from rfl) rfl).trans e27
                have e43 : M36 413 3 = v1 := (hf_M36.g (show kd 413 = 44 from rfl) rfl).trans e42
                have e44 : M40 413 3 = v1 := (hf_M40.g (show kd 413 = 44 from rfl) rfl).trans e43
                have e45 : M36 413 0 = v28 := (hf_M36.g (show kd 413 = 44 from rfl) rfl).trans e28
                have e46 : M40 413 0 = v28 := (hf_M40.g (show kd 413 = 44 from rfl) rfl).trans e45
                have e47 : M36 413 8 = v29 := (hf_M36.g (show kd 413 = 44 from rfl) rfl).trans e29
                have e48 : M40 413 8 = v29 := (hf_M40.g (show kd 413 = 44 from rfl) rfl).trans e47
                have e49 : M36 413 6 = v30 := (hf_M36.g (show kd 413 = 44 from rfl) rfl).trans e30
                have e50 : M40 413 6 = v30 := (hf_M40.g (show kd 413 = 44 from rfl) rfl).trans e49
                have e51 : M36 413 7 = v31 := (hf_M36.g (show kd 413 = 44 from rfl) rfl).trans e31
                have e52 : M40 413 7 = v31 := (hf_M40.g (show kd 413 = 44 from rfl) rfl).trans e51
                refine jr.pick [3, 4, 0, 5] rfl rfl ?_
                exact ih (nM - 1) (by omega) M40 (i + 1) hC_M40 ht_M40 (by omega) (by omega) (by omega) (by have hq0 : M40 413 3 = v1 := e44; omega) (by have hq0 : M40 413 0 = v28 := e46; omega) (by have hq0 : M40 413 0 = v28 := e46; omega) w40_0 (by omega) (by have hq0 : M40 413 8 = v29 := e48; have hq1 : M40 413 6 = v30 := e50; have hq2 : M40 413 7 = v31 := e52; omega) (CXL.mk (hq9.le h_ee (by omega)) (by have g1 := znx_ge f N t0; omega) (fun z => ⟨z.1.1, z.1.2.1, fun q => (z.1.2.2 (by omega)).trans (zc2_3 q), fun q => by exfalso; omega⟩)) (TXc.fr (TXc.fr (TXc.fr (TXc.fr (TXc.fr hy7 hf_M10 rfl) hf_M17 rfl) hf_M25 rfl) hf_M36 rfl) hf_M40 rfl) (by omega) (by omega) hy10 ⟨_, _, _, _, _, rfl, haa⟩ (Or.inr (by omega)) (by omega)
              · have e53 : M36 413 8 = v29 := (hf_M36.g (show kd 413 = 44 from rfl) rfl).trans e29
                have e54 : M40 413 8 = v29 := (hf_M40.g (show kd 413 = 44 from rfl) rfl).trans e53
                have e55 : M36 413 6 = v30 := (hf_M36.g (show kd 413 = 44 from rfl) rfl).trans e30
                have e56 : M40 413 6 = v30 := (hf_M40.g (show kd 413 = 44 from rfl) rfl).trans e55
                have e57 : M36 413 7 = v31 := (hf_M36.g (show kd 413 = 44 from rfl) rfl).trans e31
                have e58 : M40 413 7 = v31 := (hf_M40.g (show kd 413 = 44 from rfl) rfl).trans e57
                have e59 : M36 413 0 = v28 := (hf_M36.g (show kd 413 = 44 from rfl) rfl).trans e28
                have e60 : M40 413 0 = v28 := (hf_M40.g (show kd 413 = 44 from rfl) rfl).trans e59
                exact jr.vreturn rfl rfl (q _ hC_M40 ht_M40  w40_0 (by have hq0 : M40 413 0 = v28 := e60; omega) (by have hq0 : M40 413 8 = v29 := e54; have hq1 : M40 413 6 = v30 := e56; have hq2 : M40 413 7 = v31 := e58; omega) (CXP.mk (hq9.le h_ee (by omega)) (by have g1 := znx_ge f N t0; omega) (fun z => ⟨z.1.1, zRK_2 z.1.2.1 (by omega) (z.1.2.2 (by omega)) (zc2_2 (by omega)), fun q => by omega⟩)))
            · exact absurd (by omega) h103
          · refine jr.aload_n rfl rfl ?_
            have e61 : M10 413 2 = v12 := (hf_M10.g (show kd 413 = 44 from rfl) rfl).trans e12
            have e62 : M17 413 2 = v12 := (hf_M17.g (show kd 413 = 44 from rfl) rfl).trans e61
            have k63 : kd (v12).toNat = 47 := ((congrArg (fun z : Int => kd z.toNat) (show M17 413 2 = v12 from e62)).symm.trans (CI.x hC_M17 (show kd 413 = 44 from rfl) 2 rfl (by decide)))
            refine jr.getf (i := 2) (x := v12) (v := .ref (v12.toNat)) rfl rfl (by decide) rfl (by decide) rfl rfl e62 rfl ?_
            refine jr.iload_n rfl rfl ?_
            refine jr.if_ne rfl rfl (by omega) (fun h71 => ?_) (fun h71 => ?_)
            · refine jr.sipush rfl (by decide) ?_
              refine jr.iconst rfl ?_
              obtain ⟨v65, e65⟩ : ∃ z_, M ((v12.toNat)) 2 = z_ := ⟨_, rfl⟩
              have b65 : 0 ≤ v65 ∧ v65 ≤ 932 := by rw [← e65]; exact (CI.r hC_M k63 (by decide) 2)
              have e66 : M10 ((v12.toNat)) 2 = v65 := (hf_M10.g k63 rfl).trans e65
              have e67 : M17 ((v12.toNat)) 2 = v65 := (hf_M17.g k63 rfl).trans e66
              refine jr_v rfl rfl (Or.inl rfl) rfl rfl (Nat.lt_trans (kx_47 k63).1 (by decide)) (kx_47 k63).2 ⟨rfl, Nat.le_of_ble_eq_true rfl, Nat.le_of_ble_eq_true rfl⟩ rfl (jc.deep (c_Program_emit_z hC_M17 (FR.rfl _ M17) k63 (by omega) (by omega) e67 rfl (by have hq0 : M17 413 2 = v12 := e62; omega) (MP.fr w10_0 hC_M10 hf_M17 rfl) (fun r64 M64 hC_M64 hf_M64 z64 w64_0 w64_1 w64_2 => ?_)) (by omega))
              have ht_M64 : FR W_par T M64 := FR.t ht_M17 hf_M64 (kw_sub rfl)
              have hq5 := CZ.emn (p := (v12.toNat)) hq4 hC_M17 hf_M64 (e62.trans (by omega)) e67 w64_2 (by omega) (by omega)
              clear w64_2
              refine jr.istore rfl (by decide) rfl ?_
              refine jr.aload_n rfl rfl ?_
              refine jr.iload_n rfl rfl ?_
              refine jr.iconst rfl ?_
              refine jr.iadd rfl ?_
              refine jr.iload_n rfl rfl ?_
              have e69 : M17 413 0 = v14 := (hf_M17.g (show kd 413 = 44 from rfl) rfl).trans e14
              have e70 : M64 413 0 = v14 := (hf_M64.g (show kd 413 = 44 from rfl) rfl).trans e69
              have e71 : M17 413 3 = v1 := (hf_M17.g (show kd 413 = 44 from rfl) rfl).trans e19
              have e72 : M64 413 3 = v1 := (hf_M64.g (show kd 413 = 44 from rfl) rfl).trans e71
              have e73 : M64 413 8 = v22 := (hf_M64.g (show kd 413 = 44 from rfl) rfl).trans e22
              have e74 : M64 413 6 = v23 := (hf_M64.g (show kd 413 = 44 from rfl) rfl).trans e23
              have e75 : M64 413 7 = v24 := (hf_M64.g (show kd 413 = 44 from rfl) rfl).trans e24
              refine jr_v rfl rfl (Or.inl rfl) rfl rfl (by decide) rfl ⟨rfl, Nat.le_of_ble_eq_true rfl, Nat.le_of_ble_eq_true rfl⟩ rfl (jc.deep (ihP.2.2.1 hC_M64 (FR.rfl _ M64) (by omega) (by omega) e70 (by have hq0 : M64 413 3 = v1 := e72; omega) (by have hq0 : M64 413 0 = v14 := e70; omega) w64_0 (by omega) (TXc.fr (TXc.fr (TXc.fr hy7 hf_M10 rfl) hf_M17 rfl) hf_M64 rfl) (by have hq0 : M64 413 8 = v22 := e73; have hq1 : M64 413 6 = v23 := e74; have hq2 : M64 413 7 = v24 := e75; omega) (hq5.imp (fun z => z.1)) (by omega) (by omega) (fun q => zc2_0 (by omega)) ⟨_, _, _, _, _, rfl, haa⟩ (fun M68 hC_M68 hf_M68 w68_0 w68_1 w68_2 w68_3 => ?_)) (by omega))
              have ht_M68 : FR W_par T M68 := FR.t ht_M64 hf_M68 (kw_sub rfl)
              obtain ⟨v76, e76⟩ : ∃ z_, M68 413 0 = z_ := ⟨_, rfl⟩
              have b76 : (-2147483648) ≤ v76 ∧ v76 ≤ 2147483647 := by rw [← e76]; exact (CI.r hC_M68 (show kd 413 = 44 from rfl) (by decide) 0)
              obtain ⟨v77, e77⟩ : ∃ z_, M68 413 8 = z_ := ⟨_, rfl⟩
              have b77 : 0 ≤ v77 ∧ v77 ≤ 1600 := by rw [← e77]; exact (CI.r hC_M68 (show kd 413 = 44 from rfl) (by decide) 8)
              obtain ⟨v78, e78⟩ : ∃ z_, M68 413 6 = z_ := ⟨_, rfl⟩
              have b78 : (-2147483648) ≤ v78 ∧ v78 ≤ 2147483647 := by rw [← e78]; exact (CI.r hC_M68 (show kd 413 = 44 from rfl) (by decide) 6)
              obtain ⟨v79, e79⟩ : ∃ z_, M68 413 7 = z_ := ⟨_, rfl⟩
              have b79 : 0 ≤ v79 ∧ v79 ≤ 1600 := by rw [← e79]; exact (CI.r hC_M68 (show kd 413 = 44 from rfl) (by decide) 7)
              obtain ⟨t1, k1, c1, hu1, hq6⟩ := w68_3
              clear w17_1
              refine jr.aload_n rfl rfl ?_
              have e80 : M64 413 2 = v12 := (hf_M64.g (show kd 413 = 44 from rfl) rfl).trans e62
              have e81 : M68 413 2 = v12 := (hf_M68.g (show kd 413 = 44 from rfl) rfl).trans e80
              have k82 : kd (v12).toNat = 47 := ((congrArg (fun z : Int => kd z.toNat) (show M68 413 2 = v12 from e81)).symm.trans (CI.x hC_M68 (show kd 413 = 44 from rfl) 2 rfl (by decide)))
              refine jr.getf (i := 2) (x := v12) (v := .ref (v12.toNat)) rfl rfl (by decide) rfl (by decide) rfl rfl e81 rfl ?_
              refine jr.iload_n rfl rfl ?_
              refine jr.iconst rfl ?_
              refine jr.icmp_gt rfl rfl (by omega) (by omega) (fun h103 => ?_) (fun h103 => ?_)
              · exact absurd h103 (by omega)
              · refine jr.sipush rfl (by decide) ?_
                refine jr.goto rfl rfl ?_
                refine jr.iconst rfl ?_
                obtain ⟨v84, e84⟩ : ∃ z_, M68 ((v12.toNat)) 2 = z_ := ⟨_, rfl⟩
                have b84 : 0 ≤ v84 ∧ v84 ≤ 932 := by rw [← e84]; exact (CI.r hC_M68 k82 (by decide) 2)
                refine jr_v rfl rfl (Or.inl rfl) rfl rfl (Nat.lt_trans (kx_47 k82).1 (by decide)) (kx_47 k82).2 ⟨rfl, Nat.le_of_ble_eq_true rfl, Nat.le_of_ble_eq_true rfl⟩ rfl (jc.deep (c_Program_emit_z hC_M68 (FR.rfl _ M68) k82 (by omega) (by omega) e84 rfl (by have hq0 : M68 413 2 = v12 := e81; omega) w68_0 (fun r83 M83 hC_M83 hf_M83 z83 w83_0 w83_1 w83_2 => ?_)) (by omega))
                have ht_M83 : FR W_par T M83 := FR.t ht_M68 hf_M83 (kw_sub rfl)
                have hq7 := CZ.emn (p := (v12.toNat)) hq6 hC_M68 hf_M83 (e81.trans (by omega)) e84 w83_2 (by omega) (by omega)
                clear w83_2 w83_1
                refine jr.pop rfl rfl ?_
                refine jr.aload_n rfl rfl ?_
                have e85 : M83 413 2 = v12 := (hf_M83.g (show kd 413 = 44 from rfl) rfl).trans e81
                have k86 : kd (v12).toNat = 47 := ((congrArg (fun z : Int => kd z.toNat) (show M83 413 2 = v12 from e85)).symm.trans (CI.x hC_M83 (show kd 413 = 44 from rfl) 2 rfl (by decide)))
                refine jr.getf (i := 2) (x := v12) (v := .ref (v12.toNat)) rfl rfl (by decide) rfl (by decide) rfl rfl e85 rfl ?_
                refine jr.iload rfl rfl ?_
                obtain ⟨v88, e88⟩ : ∃ z_, M83 ((v12.toNat)) 2 = z_ := ⟨_, rfl⟩
                have b88 : 0 ≤ v88 ∧ v88 ≤ 932 := by rw [← e88]; exact (CI.r hC_M83 k86 (by decide) 2)
                refine jr_v rfl rfl (Or.inl rfl) rfl rfl (Nat.lt_trans (kx_47 k86).1 (by decide)) (kx_47 k86).2 ⟨rfl, Nat.le_of_ble_eq_true rfl, Nat.le_of_ble_eq_true rfl⟩ rfl (jc.deep (c_Program_land_z hC_M83 (FR.rfl _ M83) k86 (by omega) e88 rfl (by have hq0 : M83 413 2 = v12 := e85; omega) w83_0 (fun M87 hC_M87 hf_M87 w87_0 w87_1 => ?_)) (by omega))
                have ht_M87 : FR W_par T M87 := FR.t ht_M83 hf_M87 (kw_sub rfl)
                have hq8 := CZ.lnd2 (p := (v12.toNat)) hq7 hC_M83 hf_M87 (e85.trans (by omega)) w87_1 (List.mem_cons_of_mem _ List.mem_cons_self) w64_1 (by omega)
                have hq9 := hq8.wk (fun _ h => List.mem_cons_of_mem _ (List.mem_cons_of_mem _ h))
                refine jr.iload_n rfl rfl ?_
                refine jr.iconst rfl ?_
                refine jr.icmp_ne rfl rfl (by omega) (by omega) (fun h134 => ?_) (fun h134 => ?_)
                · refine jr.iinc rfl rfl (by decide) rfl ?_
                  refine jr.goto rfl rfl ?_
                  have e89 : M68 413 3 = v1 := (hf_M68.g (show kd 413 = 44 from rfl) rfl).trans e72
                  have e90 : M83 413 3 = v1 := (hf_M83.g (show kd 413 = 44 from rfl) rfl).trans e89
                  have e91 : M87 413 3 = v1 := (hf_M87.g (show kd 413 = 44 from rfl) rfl).trans e90
                  have e92 : M83 413 0 = v76 := (hf_M83.g (show kd 413 = 44 from rfl) rfl).trans e76
                  have e93 : M87 413 0 = v76 := (hf_M87.g (show kd 413 = 44 from rfl) rfl).trans e92
                  have e94 : M83 413 8 = v77 := (hf_M83.g (show kd 413 = 44 from rfl) rfl).trans e77
                  have e95 : M87 413 8 = v77 := (hf_M87.g (show kd 413 = 44 from rfl) rfl).trans e94
                  have e96 : M83 413 6 = v78 := (hf_M83.g (show kd 413 = 44 from rfl) rfl).trans e78
                  have e97 : M87 413 6 = v78 := (hf_M87.g (show kd 413 = 44 from rfl) rfl).trans e96
                  have e98 : M83 413 7 = v79 := (hf_M83.g (show kd 413 = 44 from rfl) rfl).trans e79
                  have e99 : M87 413 7 = v79 := (hf_M87.g (show kd 413 = 44 from rfl) rfl).trans e98
                  refine jr.pick [3, 4, 0, 5] rfl rfl ?_
                  exact ih (nM - 1) (by omega) M87 (i + 1) hC_M87 ht_M87 (by omega) (by omega) (by omega) (by have hq0 : M87 413 3 = v1 := e91; omega) (by have hq0 : M87 413 0 = v76 := e93; omega) (by have hq0 : M87 413 0 = v76 := e93; omega) w87_0 (by omega) (by have hq0 : M87 413 8 = v77 := e95; have hq1 : M87 413 6 = v78 := e97; have hq2 : M87 413 7 = v79 := e99; omega) (CXL.mk (hq9.le h_ee (by omega)) (by have g1 := znx_ge f N t0; omega) (fun z => ⟨z.1.1, z.1.2.1, fun q => (z.1.2.2 (by omega)).trans (zc2_3 q), fun q => by exfalso; omega⟩)) (TXc.fr (TXc.fr (TXc.fr (TXc.fr (TXc.fr (TXc.fr hy7 hf_M10 rfl) hf_M17 rfl) hf_M64 rfl) hf_M68 rfl) hf_M83 rfl) hf_M87 rfl) (by omega) (by omega) hy10 ⟨_, _, _, _, _, rfl, haa⟩ (Or.inr (by omega)) (by omega)
                · exact absurd (by omega) h134
            · refine jr.sipush rfl (by decide) ?_
              refine jr.goto rfl rfl ?_
              refine jr.iconst rfl ?_
              obtain ⟨v101, e101⟩ : ∃ z_, M ((v12.toNat)) 2 = z_ := ⟨_, rfl⟩
              have b101 : 0 ≤ v101 ∧ v101 ≤ 932 := by rw [← e101]; exact (CI.r hC_M k63 (by decide) 2)
              have e102 : M10 ((v12.toNat)) 2 = v101 := (hf_M10.g k63 rfl).trans e101
              have e103 : M17 ((v12.toNat)) 2 = v101 := (hf_M17.g k63 rfl).trans e102
              refine jr_v rfl rfl (Or.inl rfl) rfl rfl (Nat.lt_trans (kx_47 k63).1 (by decide)) (kx_47 k63).2 ⟨rfl, Nat.le_of_ble_eq_true rfl, Nat.le_of_ble_eq_true rfl⟩ rfl (jc.deep (c_Program_emit_z hC_M17 (FR.rfl _ M17) k63 (by omega) (by omega) e103 rfl (by have hq0 : M17 413 2 = v12 := e62; omega) (MP.fr w10_0 hC_M10 hf_M17 rfl) (fun r100 M100 hC_M100 hf_M100 z100 w100_0 w100_1 w100_2 => ?_)) (by omega))
              have ht_M100 : FR W_par T M100 := FR.t ht_M17 hf_M100 (kw_sub rfl)
              have hq5 := CZ.emn (p := (v12.toNat)) hq4 hC_M17 hf_M100 (e62.trans (by omega)) e103 w100_2 (by omega) (by omega)
              clear w100_2
              refine jr.istore rfl (by decide) rfl ?_
              refine jr.aload_n rfl rfl ?_
              refine jr.iload_n rfl rfl ?_
              refine jr.iconst rfl ?_
              refine jr.iadd rfl ?_
              refine jr.iload_n rfl rfl ?_
              have e105 : M17 413 0 = v14 := (hf_M17.g (show kd 413 = 44 from rfl) rfl).trans e14
              have e106 : M100 413 0 = v14 := (hf_M100.g (show kd 413 = 44 from rfl) rfl).trans e105
              have e107 : M17 413 3 = v1 := (hf_M17.g (show kd 413 = 44 from rfl) rfl).trans e19
              have e108 : M100 413 3 = v1 := (hf_M100.g (show kd 413 = 44 from rfl) rfl).trans e107
              have e109 : M100 413 8 = v22 := (hf_M100.g (show kd 413 = 44 from rfl) rfl).trans e22
              have e110 : M100 413 6 = v23 := (hf_M100.g (show kd 413 = 44 from rfl) rfl).trans e23
              have e111 : M100 413 7 = v24 := (hf_M100.g (show kd 413 = 44 from rfl) rfl).trans e24
              refine jr_v rfl rfl (Or.inl rfl) rfl rfl (by decide) rfl ⟨rfl, Nat.le_of_ble_eq_true rfl, Nat.le_of_ble_eq_true rfl⟩ rfl (jc.deep (ihP.2.2.1 hC_M100 (FR.rfl _ M100) (by omega) (by omega) e106 (by have hq0 : M100 413 3 = v1 := e108; omega) (by have hq0 : M100 413 0 = v14 := e106; omega) w100_0 (by omega) (TXc.fr (TXc.fr (TXc.fr hy7 hf_M10 rfl) hf_M17 rfl) hf_M100 rfl) (by have hq0 : M100 413 8 = v22 := e109; have hq1 : M100 413 6 = v23 := e110; have hq2 : M100 413 7 = v24 := e111; omega) (hq5.imp (fun z => z.1)) (by omega) (by omega) (fun q => zc2_0 (by omega)) ⟨_, _, _, _, _, rfl, haa⟩ (fun M104 hC_M104 hf_M104 w104_0 w104_1 w104_2 w104_3 => ?_)) (by omega))
              have ht_M104 : FR W_par T M104 := FR.t ht_M100 hf_M104 (kw_sub rfl)
              obtain ⟨v112, e112⟩ : ∃ z_, M104 413 0 = z_ := ⟨_, rfl⟩
              have b112 : (-2147483648) ≤ v112 ∧ v112 ≤ 2147483647 := by rw [← e112]; exact (CI.r hC_M104 (show kd 413 = 44 from rfl) (by decide) 0)
              obtain ⟨v113, e113⟩ : ∃ z_, M104 413 8 = z_ := ⟨_, rfl⟩
              have b113 : 0 ≤ v113 ∧ v113 ≤ 1600 := by rw [← e113]; exact (CI.r hC_M104 (show kd 413 = 44 from rfl) (by decide) 8)
              obtain ⟨v114, e114⟩ : ∃ z_, M104 413 6 = z_ := ⟨_, rfl⟩
              have b114 : (-2147483648) ≤ v114 ∧ v114 ≤ 2147483647 := by rw [← e114]; exact (CI.r hC_M104 (show kd 413 = 44 from rfl) (by decide) 6)
              obtain ⟨v115, e115⟩ : ∃ z_, M104 413 7 = z_ := ⟨_, rfl⟩
              have b115 : 0 ≤ v115 ∧ v115 ≤ 1600 := by rw [← e115]; exact (CI.r hC_M104 (show kd 413 = 44 from rfl) (by decide) 7)
              obtain ⟨t1, k1, c1, hu1, hq6⟩ := w104_3
              clear w17_1
              refine jr.aload_n rfl rfl ?_
              have e116 : M100 413 2 = v12 := (hf_M100.g (show kd 413 = 44 from rfl) rfl).trans e62
              have e117 : M104 413 2 = v12 := (hf_M104.g (show kd 413 = 44 from rfl) rfl).trans e116
              have k118 : kd (v12).toNat = 47 := ((congrArg (fun z : Int => kd z.toNat) (show M104 413 2 = v12 from e117)).symm.trans (CI.x hC_M104 (show kd 413 = 44 from rfl) 2 rfl (by decide)))
              refine jr.getf (i := 2) (x := v12) (v := .ref (v12.toNat)) rfl rfl (by decide) rfl (by decide) rfl rfl e117 rfl ?_
              refine jr.iload_n rfl rfl ?_
              refine jr.iconst rfl ?_
              refine jr.icmp_gt rfl rfl (by omega) (by omega) (fun h103 => ?_) (fun h103 => ?_)
              · exact absurd h103 (by omega)
              · refine jr.sipush rfl (by decide) ?_
                refine jr.goto rfl rfl ?_
                refine jr.iconst rfl ?_
                obtain ⟨v120, e120⟩ : ∃ z_, M104 ((v12.toNat)) 2 = z_ := ⟨_, rfl⟩
                have b120 : 0 ≤ v120 ∧ v120 ≤ 932 := by rw [← e120]; exact (CI.r hC_M104 k118 (by decide) 2)
                refine jr_v rfl rfl (Or.inl rfl) rfl rfl (Nat.lt_trans (kx_47 k118).1 (by decide)) (kx_47 k118).2 ⟨rfl, Nat.le_of_ble_eq_true rfl, Nat.le_of_ble_eq_true rfl⟩ rfl (jc.deep (c_Program_emit_z hC_M104 (FR.rfl _ M104) k118 (by omega) (by omega) e120 rfl (by have hq0 : M104 413 2 = v12 := e117; omega) w104_0 (fun r119 M119 hC_M119 hf_M119 z119 w119_0 w119_1 w119_2 => ?_)) (by omega))
                have ht_M119 : FR W_par T M119 := FR.t ht_M104 hf_M119 (kw_sub rfl)
                have hq7 := CZ.emn (p := (v12.toNat)) hq6 hC_M104 hf_M119 (e117.trans (by omega)) e120 w119_2 (by omega) (by omega)
                clear w119_2 w119_1
                refine jr.pop rfl rfl ?_
                refine jr.aload_n rfl rfl ?_
                have e121 : M119 413 2 = v12 := (hf_M119.g (show kd 413 = 44 from rfl) rfl).trans e117
                have k122 : kd (v12).toNat = 47 := ((congrArg (fun z : Int => kd z.toNat) (show M119 413 2 = v12 from e121)).symm.trans (CI.x hC_M119 (show kd 413 = 44 from rfl) 2 rfl (by decide)))
                refine jr.getf (i := 2) (x := v12) (v := .ref (v12.toNat)) rfl rfl (by decide) rfl (by decide) rfl rfl e121 rfl ?_
                refine jr.iload rfl rfl ?_
                obtain ⟨v124, e124⟩ : ∃ z_, M119 ((v12.toNat)) 2 = z_ := ⟨_, rfl⟩
                have b124 : 0 ≤ v124 ∧ v124 ≤ 932 := by rw [← e124]; exact (CI.r hC_M119 k122 (by decide) 2)
                refine jr_v rfl rfl (Or.inl rfl) rfl rfl (Nat.lt_trans (kx_47 k122).1 (by decide)) (kx_47 k122).2 ⟨rfl, Nat.le_of_ble_eq_true rfl, Nat.le_of_ble_eq_true rfl⟩ rfl (jc.deep (c_Program_land_z hC_M119 (FR.rfl _ M119) k122 (by omega) e124 rfl (by have hq0 : M119 413 2 = v12 := e121; omega) w119_0 (fun M123 hC_M123 hf_M123 w123_0 w123_1 => ?_)) (by omega))
                have ht_M123 : FR W_par T M123 := FR.t ht_M119 hf_M123 (kw_sub rfl)
                have hq8 := CZ.lnd2 (p := (v12.toNat)) hq7 hC_M119 hf_M123 (e121.trans (by omega)) w123_1 (List.mem_cons_of_mem _ List.mem_cons_self) w100_1 (by omega)
                have hq9 := hq8.wk (fun _ h => List.mem_cons_of_mem _ (List.mem_cons_of_mem _ h))
                refine jr.iload_n rfl rfl ?_
                refine jr.iconst rfl ?_
                refine jr.icmp_ne rfl rfl (by omega) (by omega) (fun h134 => ?_) (fun h134 => ?_)
                · refine jr.iinc rfl rfl (by decide) rfl ?_
                  refine jr.goto rfl rfl ?_
                  have e125 : M104 413 3 = v1 := (hf_M104.g (show kd 413 = 44 from rfl) rfl).trans e108
                  have e126 : M119 413 3 = v1 := (hf_M119.g (show kd 413 = 44 from rfl) rfl).trans e125
                  have e127 : M123 413 3 = v1 := (hf_M123.g (show kd 413 = 44 from rfl) rfl).trans e126
                  have e128 : M119 413 0 = v112 := (hf_M119.g (show kd 413 = 44 from rfl) rfl).trans e112
                  have e129 : M123 413 0 = v112 := (hf_M123.g (show kd 413 = 44 from rfl) rfl).trans e128
                  have e130 : M119 413 8 = v113 := (hf_M119.g (show kd 413 = 44 from rfl) rfl).trans e113
                  have e131 : M123 413 8 = v113 := (hf_M123.g (show kd 413 = 44 from rfl) rfl).trans e130
                  have e132 : M119 413 6 = v114 := (hf_M119.g (show kd 413 = 44 from rfl) rfl).trans e114
                  have e133 : M123 413 6 = v114 := (hf_M123.g (show kd 413 = 44 from rfl) rfl).trans e132
                  have e134 : M119 413 7 = v115 := (hf_M119.g (show kd 413 = 44 from rfl) rfl).trans e115
                  have e135 : M123 413 7 = v115 := (hf_M123.g (show kd 413 = 44 from rfl) rfl).trans e134
                  refine jr.pick [3, 4, 0, 5] rfl rfl ?_
                  exact ih (nM - 1) (by omega) M123 (i + 1) hC_M123 ht_M123 (by omega) (by omega) (by omega) (by have hq0 : M123 413 3 = v1 := e127; omega) (by have hq0 : M123 413 0 = v112 := e129; omega) (by have hq0 : M123 413 0 = v112 := e129; omega) w123_0 (by omega) (by have hq0 : M123 413 8 = v113 := e131; have hq1 : M123 413 6 = v114 := e133; have hq2 : M123 413 7 = v115 := e135; omega) (CXL.mk (hq9.le h_ee (by omega)) (by have g1 := znx_ge f N t0; omega) (fun z => ⟨z.1.1, z.1.2.1, fun q => (z.1.2.2 (by omega)).trans (zc2_3 q), fun q => by exfalso; omega⟩)) (TXc.fr (TXc.fr (TXc.fr (TXc.fr (TXc.fr (TXc.fr hy7 hf_M10 rfl) hf_M17 rfl) hf_M100 rfl) hf_M104 rfl) hf_M119 rfl) hf_M123 rfl) (by omega) (by omega) hy10 ⟨_, _, _, _, _, rfl, haa⟩ (Or.inr (by omega)) (by omega)
                · exact absurd (by omega) h134
theorem c_Parser_exp_z {A : Nat → Option (Nat × (Nat → Int32))} [HA A] {n : Nat} (ihP : PXz A n) : PXz_exp A (n + 1) := by
  intro Q G f N xs tt kk dd cc bh ee sg nm ak fz T M hC_M ht_M x h_x y h_y F g_F p0 p1 p2 p3 p4 p5 p6 p7 p8 p9 p10 q
  refine jc_of (m := xm_203) rfl (Nat.le_of_ble_eq_true rfl) rfl ?_
  have b_F : (-2147483648) ≤ F ∧ F ≤ 2147483647 := by rw [← g_F]; exact (CI.r hC_M (show kd 413 = 44 from rfl) (by decide) 0)
  obtain ⟨v1, e1⟩ : ∃ z_, M 413 3 = z_ := ⟨_, rfl⟩
  have b1 : 1 ≤ v1 ∧ v1 ≤ 419 := by rw [← e1]; exact (CI.r hC_M (show kd 413 = 44 from rfl) (by decide) 3)
  have b2 : 1 ≤ v1 ∧ v1 ≤ 1 := by rw [← e1]; exact p0
  have e3 : M 413 0 = F := g_F
  obtain ⟨v4, e4⟩ : ∃ z_, M 413 8 = z_ := ⟨_, rfl⟩
  have b4 : 0 ≤ v4 ∧ v4 ≤ 1600 := by rw [← e4]; exact (CI.r hC_M (show kd 413 = 44 from rfl) (by decide) 8)
  obtain ⟨v5, e5⟩ : ∃ z_, M 413 6 = z_ := ⟨_, rfl⟩
  have b5 : (-2147483648) ≤ v5 ∧ v5 ≤ 2147483647 := by rw [← e5]; exact (CI.r hC_M (show kd 413 = 44 from rfl) (by decide) 6)
  obtain ⟨v6, e6⟩ : ∃ z_, M 413 7 = z_ := ⟨_, rfl⟩
  have b6 : 0 ≤ v6 ∧ v6 ≤ 1600 := by rw [← e6]; exact (CI.r hC_M (show kd 413 = 44 from rfl) (by decide) 7)
  refine jr.iload_n rfl rfl ?_
  refine jr.iconst rfl ?_
  refine jr.icmp_le rfl rfl (by omega) (by omega) (fun h2 => ?_) (fun h2 => ?_)
  · refine jr.aload_n rfl rfl ?_
    refine jr.iload_n rfl rfl ?_
    refine jr.iconst rfl ?_
    refine jr.iadd rfl ?_
    refine jr.iload_n rfl rfl ?_
    refine jr_v rfl rfl (Or.inl rfl) rfl rfl (by decide) rfl ⟨rfl, Nat.le_of_ble_eq_true rfl, Nat.le_of_ble_eq_true rfl⟩ rfl (jc.deep (ihP.2.2.1 hC_M (FR.rfl _ M) (by omega) (by omega) g_F (by have hq0 : M 413 3 = v1 := e1; omega) (by have hq0 : M 413 0 = F := g_F; omega) p2 (by omega) p4 (by have hq0 : M 413 8 = v4 := e4; have hq1 : M 413 6 = v5 := e5; have hq2 : M 413 7 = v6 := e6; omega) p6 (by omega) p8 (fun q => p9 (by omega)) p10 (fun M7 hC_M7 hf_M7 w7_0 w7_1 w7_2 w7_3 => ?_)) (by omega))
    have ht_M7 : FR W_par T M7 := FR.t ht_M hf_M7 (kw_sub rfl)
    obtain ⟨v8, e8⟩ : ∃ z_, M7 413 0 = z_ := ⟨_, rfl⟩
    have b8 : (-2147483648) ≤ v8 ∧ v8 ≤ 2147483647 := by rw [← e8]; exact (CI.r hC_M7 (show kd 413 = 44 from rfl) (by decide) 0)
    obtain ⟨v9, e9⟩ : ∃ z_, M7 413 8 = z_ := ⟨_, rfl⟩
    have b9 : 0 ≤ v9 ∧ v9 ≤ 1600 := by rw [← e9]; exact (CI.r hC_M7 (show kd 413 = 44 from rfl) (by decide) 8)
    obtain ⟨v10, e10⟩ : ∃ z_, M7 413 6 = z_ := ⟨_, rfl⟩
    have b10 : (-2147483648) ≤ v10 ∧ v10 ≤ 2147483647 := by rw [← e10]; exact (CI.r hC_M7 (show kd 413 = 44 from rfl) (by decide) 6)
    obtain ⟨v11, e11⟩ : ∃ z_, M7 413 7 = z_ := ⟨_, rfl⟩
    have b11 : 0 ≤ v11 ∧ v11 ≤ 1600 := by rw [← e11]; exact (CI.r hC_M7 (show kd 413 = 44 from rfl) (by decide) 7)
    refine jr.iconst rfl ?_
    refine jr.istore_n rfl (by decide) rfl ?_
    have e12 : M7 413 3 = v1 := (hf_M7.g (show kd 413 = 44 from rfl) rfl).trans e1
    refine jr.pick [2, 3, 0, 1] rfl rfl ?_
    exact c_Parser_exp_z_L21 (kk := kk) ihP  q 1601 M7 0 hC_M7 ht_M7 (by omega) (by omega) (by omega) (by have hq0 : M7 413 3 = v1 := e12; omega) (by have hq0 : M7 413 0 = v8 := e8; omega) (by have hq0 : M7 413 0 = v8 := e8; omega) w7_0 (by omega) (by have hq0 : M7 413 8 = v9 := e9; have hq1 : M7 413 6 = v10 := e10; have hq2 : M7 413 7 = v11 := e11; omega) (by obtain ⟨t0, k0, c0, hu0, hq0⟩ := w7_3; exact CXL.mk hq0 (by omega) (fun z => ⟨z.1, z.2.1, fun q => z.2.2 (by omega), fun q => by have y := z.2.2 (by omega); have y2 := p9 (by omega); omega⟩)) (TXc.fr p4 hf_M7 rfl) (by omega) (by omega) p9 p10 (by by_cases h0 : M 413 0 = 0; (exact Or.inr (CZ.z p6 h0).1.1.2.1.1); (exact Or.inl (by have hq0 : M7 413 0 = v8 := e8; omega))) (by omega)
  · refine jr.aload_n rfl rfl ?_
    refine jr.iload_n rfl rfl ?_
    refine jr_v rfl rfl (Or.inl rfl) rfl rfl (by decide) rfl ⟨rfl, Nat.le_of_ble_eq_true rfl, Nat.le_of_ble_eq_true rfl⟩ rfl (jc.deep (ihP.2.1 hC_M (FR.rfl _ M) (by omega) g_F (by have hq0 : M 413 3 = v1 := e1; omega) (by have hq0 : M 413 0 = F := g_F; omega) p2 (by omega) p4 (by have hq0 : M 413 8 = v4 := e4; have hq1 : M 413 6 = v5 := e5; have hq2 : M 413 7 = v6 := e6; omega) p6 (by omega) p8 (fun M13 hC_M13 hf_M13 w13_0 w13_1 w13_2 w13_3 => ?_)) (by omega))
    have ht_M13 : FR W_par T M13 := FR.t ht_M hf_M13 (kw_sub rfl)
    obtain ⟨v14, e14⟩ : ∃ z_, M13 413 0 = z_ := ⟨_, rfl⟩
    have b14 : (-2147483648) ≤ v14 ∧ v14 ≤ 2147483647 := by rw [← e14]; exact (CI.r hC_M13 (show kd 413 = 44 from rfl) (by decide) 0)
    obtain ⟨v15, e15⟩ : ∃ z_, M13 413 8 = z_ := ⟨_, rfl⟩
    have b15 : 0 ≤ v15 ∧ v15 ≤ 1600 := by rw [← e15]; exact (CI.r hC_M13 (show kd 413 = 44 from rfl) (by decide) 8)
    obtain ⟨v16, e16⟩ : ∃ z_, M13 413 6 = z_ := ⟨_, rfl⟩
    have b16 : (-2147483648) ≤ v16 ∧ v16 ≤ 2147483647 := by rw [← e16]; exact (CI.r hC_M13 (show kd 413 = 44 from rfl) (by decide) 6)
    obtain ⟨v17, e17⟩ : ∃ z_, M13 413 7 = z_ := ⟨_, rfl⟩
    have b17 : 0 ≤ v17 ∧ v17 ≤ 1600 := by rw [← e17]; exact (CI.r hC_M13 (show kd 413 = 44 from rfl) (by decide) 7)
    exact jr.vreturn rfl rfl (q _ hC_M13 ht_M13  w13_0 (by have hq0 : M13 413 0 = v14 := e14; omega) (by have hq0 : M13 413 8 = v15 := e15; have hq1 : M13 413 6 = v16 := e16; have hq2 : M13 413 7 = v17 := e17; omega) (by have y := COP.xp w13_3; rw [show x = 5 by omega]; exact y))
theorem c_Parser_exps_z_L2 {A : Nat → Option (Nat × (Nat → Int32))} [HA A] {Q : Option Value → jm → Prop} {G : Nat → Int → Int} {f : Int → Int} {N : Int} {xs : ZS} {tt kk dd bh ee : Int} {sg : List (Int × Int × Int × Int)} {nm ak : List Int} {fz : List (Int × Int)} {aw ww we : Int} {Z0 : Prop} {T : jm} {n : Nat} (ihP : PXz A n) {x : Int} {y : Int} (q : ∀ (M' : jm), CI M' → FR W_par T M' → (MP M' G) → (M' 413 8 ≤ N ∧ (M' 413 6 = 1 → M' 413 7 < M' 413 8)) → (CEL f N xs M' x tt kk dd bh aw ww we sg nm ak ee fz Z0) → Q none M') : ∀ (nM : Nat) (M : jm) (i : Int), CI M → FR W_par T M → 0 ≤ x ∧ x ≤ 5 → 0 ≤ y ∧ y ≤ 13 → 0 ≤ i ∧ i ≤ 5 → (1 ≤ M 413 3 ∧ M 413 3 ≤ 1) → (y ≤ 12 ∨ M 413 0 ≠ 0) → (MP M G) → (20 * (13 - y) + 9 ≤ ((n + 1 : Nat) : Int)) → (TXc f N M) → (M 413 8 ≤ N ∧ (M 413 6 = 1 → M 413 7 < M 413 8)) → (CEL f N xs M i tt kk dd bh aw ww we sg nm ak ee fz Z0) → (dd = y) → (0 ≤ ee) → (i ≤ x) → ((1 ≤ x → ZAX aw ww we x)) → ((1 ≤ x → Z0 → zr f N xs (2, tt, kk, dd, 0, bh, (aw, ww, 1, we) :: sg, nm, ak))) → (aw ≠ 20) → 5 - i ≤ nM → jr A (n + 60) xm_202 2 [(1, .int (Int32.ofInt (x))), (2, .int (Int32.ofInt (y))), (3, .int (Int32.ofInt (i))), (0, .ref (413))] [] M Q := by
  intro nM
  induction nM using Nat.strongRecOn with
  | ind nM ih =>
    intro M i hC_M ht_M h_x h_y h_i hy0 hy1 hy2 hy3 hy4 hy5 hy6 hy7 hy8 hy9 hy10 hy11 hy12 hm
    obtain ⟨v1, e1⟩ : ∃ z_, M 413 3 = z_ := ⟨_, rfl⟩
    have b1 : 1 ≤ v1 ∧ v1 ≤ 419 := by rw [← e1]; exact (CI.r hC_M (show kd 413 = 44 from rfl) (by decide) 3)
    have b2 : 1 ≤ v1 ∧ v1 ≤ 1 := by rw [← e1]; exact hy0
    obtain ⟨v3, e3⟩ : ∃ z_, M 413 0 = z_ := ⟨_, rfl⟩
    have b3 : (-2147483648) ≤ v3 ∧ v3 ≤ 2147483647 := by rw [← e3]; exact (CI.r hC_M (show kd 413 = 44 from rfl) (by decide) 0)
    obtain ⟨v4, e4⟩ : ∃ z_, M 413 8 = z_ := ⟨_, rfl⟩
    have b4 : 0 ≤ v4 ∧ v4 ≤ 1600 := by rw [← e4]; exact (CI.r hC_M (show kd 413 = 44 from rfl) (by decide) 8)
    obtain ⟨v5, e5⟩ : ∃ z_, M 413 6 = z_ := ⟨_, rfl⟩
    have b5 : (-2147483648) ≤ v5 ∧ v5 ≤ 2147483647 := by rw [← e5]; exact (CI.r hC_M (show kd 413 = 44 from rfl) (by decide) 6)
    obtain ⟨v6, e6⟩ : ∃ z_, M 413 7 = z_ := ⟨_, rfl⟩
    have b6 : 0 ≤ v6 ∧ v6 ≤ 1600 := by rw [← e6]; exact (CI.r hC_M (show kd 413 = 44 from rfl) (by decide) 7)
    refine jr.iload_n rfl rfl ?_
    refine jr.iload_n rfl rfl ?_
    refine jr.icmp_ge rfl rfl (by omega) (by omega) (fun h4 => ?_) (fun h4 => ?_)
    · exact jr.vreturn rfl rfl (q _ hC_M ht_M  hy2 (by have hq0 : M 413 8 = v4 := e4; have hq1 : M 413 6 = v5 := e5; have hq2 : M 413 7 = v6 := e6; omega) (by first | (have hx := h11; exact CEL.flt hy6 (by omega) (by omega)) | (have y := hy6; rw [show i = x by omega] at y; exact y)))
    · refine jr.aload_n rfl rfl ?_
      refine jr.getf (i := 0) (x := v3) (v := .int (Int32.ofInt (v3))) rfl rfl (by decide) rfl (by decide) rfl rfl e3 rfl ?_
      refine jr.if_ne rfl rfl (by omega) (fun h11 => ?_) (fun h11 => ?_)
      · exact jr.vreturn rfl rfl (q _ hC_M ht_M  hy2 (by have hq0 : M 413 8 = v4 := e4; have hq1 : M 413 6 = v5 := e5; have hq2 : M 413 7 = v6 := e6; omega) (by first | (have hx := h11; exact CEL.flt hy6 (by omega) (by omega)) | (have y := hy6; rw [show i = x by omega] at y; exact y)))
      · refine jr.iload_n rfl rfl ?_
        refine jr.if_le rfl rfl (by omega) (fun h15 => ?_) (fun h15 => ?_)
        · refine jr.aload_n rfl rfl ?_
          refine jr.iconst rfl ?_
          refine jr.iload_n rfl rfl ?_
          refine jr_v rfl rfl (Or.inl rfl) rfl rfl (by decide) rfl ⟨rfl, Nat.le_of_ble_eq_true rfl, Nat.le_of_ble_eq_true rfl⟩ rfl (jc.deep (ihP.2.2.1 hC_M (FR.rfl _ M) (by omega) (by omega) e3 (by have hq0 : M 413 3 = v1 := e1; omega) (by have hq0 : M 413 0 = v3 := e3; omega) hy2 (by omega) hy4 (by have hq0 : M 413 8 = v4 := e4; have hq1 : M 413 6 = v5 := e5; have hq2 : M 413 7 = v6 := e6; omega) ((CEL.z0 hy6 (by omega)).imp (hy11 (by omega))) (by omega) (by omega) (fun _ => rfl) ⟨_, _, _, _, _, rfl, hy12⟩ (fun M7 hC_M7 hf_M7 w7_0 w7_1 w7_2 w7_3 => ?_)) (by omega))
          have ht_M7 : FR W_par T M7 := FR.t ht_M hf_M7 (kw_sub rfl)
          obtain ⟨v8, e8⟩ : ∃ z_, M7 413 0 = z_ := ⟨_, rfl⟩
          have b8 : (-2147483648) ≤ v8 ∧ v8 ≤ 2147483647 := by rw [← e8]; exact (CI.r hC_M7 (show kd 413 = 44 from rfl) (by decide) 0)
          obtain ⟨v9, e9⟩ : ∃ z_, M7 413 8 = z_ := ⟨_, rfl⟩
          have b9 : 0 ≤ v9 ∧ v9 ≤ 1600 := by rw [← e9]; exact (CI.r hC_M7 (show kd 413 = 44 from rfl) (by decide) 8)
          obtain ⟨v10, e10⟩ : ∃ z_, M7 413 6 = z_ := ⟨_, rfl⟩
          have b10 : (-2147483648) ≤ v10 ∧ v10 ≤ 2147483647 := by rw [← e10]; exact (CI.r hC_M7 (show kd 413 = 44 from rfl) (by decide) 6)
          obtain ⟨v11, e11⟩ : ∃ z_, M7 413 7 = z_ := ⟨_, rfl⟩
          have b11 : 0 ≤ v11 ∧ v11 ≤ 1600 := by rw [← e11]; exact (CI.r hC_M7 (show kd 413 = 44 from rfl) (by decide) 7)
          refine jr.iinc rfl rfl (by decide) rfl ?_
          refine jr.goto rfl rfl ?_
          have e12 : M7 413 3 = v1 := (hf_M7.g (show kd 413 = 44 from rfl) rfl).trans e1
          refine jr.pick [1, 2, 0, 3] rfl rfl ?_
          exact ih (nM - 1) (by omega) M7 (i + 1) hC_M7 ht_M7 (by omega) (by omega) (by omega) (by have hq0 : M7 413 3 = v1 := e12; omega) (by have hq0 : M7 413 0 = v8 := e8; omega) w7_0 (by omega) (TXc.fr hy4 hf_M7 rfl) (by have hq0 : M7 413 8 = v9 := e9; have hq1 : M7 413 6 = v10 := e10; have hq2 : M7 413 7 = v11 := e11; omega) (Or.inr ⟨by omega, by rw [show i + 1 = (1 : Int) by omega]; exact w7_3⟩) (by omega) (by omega) (by omega) hy10 hy11 hy12 (by omega)
        · refine jr.aload_n rfl rfl ?_
          refine jr.bipush rfl (by decide) ?_
          obtain ⟨v14, e14⟩ : ∃ z_, M 413 1 = z_ := ⟨_, rfl⟩
          have b14 : (-2147483648) ≤ v14 ∧ v14 ≤ 2147483647 := by rw [← e14]; exact (CI.r hC_M (show kd 413 = 44 from rfl) (by decide) 1)
          obtain ⟨v15, e15⟩ : ∃ z_, M 413 11 = z_ := ⟨_, rfl⟩
          have b15 : 0 ≤ v15 ∧ v15 ≤ 255 := by rw [← e15]; exact (CI.r hC_M (show kd 413 = 44 from rfl) (by decide) 11)
          refine jr_v rfl rfl (Or.inl rfl) rfl rfl (by decide) rfl ⟨rfl, Nat.le_of_ble_eq_true rfl, Nat.le_of_ble_eq_true rfl⟩ rfl (jc.deep (c_Parser_expect_z hC_M (FR.rfl _ M) (by omega) e3 e14 e6 e5 e4 e15 (by have hq0 : M 413 3 = v1 := e1; omega) hy4 (by have hq0 : M 413 8 = v4 := e4; have hq1 : M 413 6 = v5 := e5; have hq2 : M 413 7 = v6 := e6; omega) (fun M13 hC_M13 hf_M13 w13_0 w13_1 w13_2 => ?_)) (by omega))
          have ht_M13 : FR W_par T M13 := FR.t ht_M hf_M13 (kw_sub rfl)
          obtain ⟨v16, e16⟩ : ∃ z_, M13 413 0 = z_ := ⟨_, rfl⟩
          have b16 : (-2147483648) ≤ v16 ∧ v16 ≤ 2147483647 := by rw [← e16]; exact (CI.r hC_M13 (show kd 413 = 44 from rfl) (by decide) 0)
          obtain ⟨v17, e17⟩ : ∃ z_, M13 413 1 = z_ := ⟨_, rfl⟩
          have b17 : (-2147483648) ≤ v17 ∧ v17 ≤ 2147483647 := by rw [← e17]; exact (CI.r hC_M13 (show kd 413 = 44 from rfl) (by decide) 1)
          obtain ⟨v18, e18⟩ : ∃ z_, M13 413 8 = z_ := ⟨_, rfl⟩
          have b18 : 0 ≤ v18 ∧ v18 ≤ 1600 := by rw [← e18]; exact (CI.r hC_M13 (show kd 413 = 44 from rfl) (by decide) 8)
          obtain ⟨v19, e19⟩ : ∃ z_, M13 413 6 = z_ := ⟨_, rfl⟩
          have b19 : (-2147483648) ≤ v19 ∧ v19 ≤ 2147483647 := by rw [← e19]; exact (CI.r hC_M13 (show kd 413 = 44 from rfl) (by decide) 6)
          obtain ⟨v20, e20⟩ : ∃ z_, M13 413 7 = z_ := ⟨_, rfl⟩
          have b20 : 0 ≤ v20 ∧ v20 ≤ 1600 := by rw [← e20]; exact (CI.r hC_M13 (show kd 413 = 44 from rfl) (by decide) 7)
          obtain ⟨t1, k1, c1, hu1, hq1⟩ := CEL.z1 hy6 (by omega)
          have hq2 := CZ.exp hq1 hC_M hf_M13 e3 e14 e6 e5 e4 e15 w13_0 w13_1 (fun z y => zr.nxfR z.1 (hy10 (by omega)) z.2.1 (by omega) y)
          have wf13 := exF w13_0
          clear w13_0 w13_1
          clear hy5
          have hq3 := hq2.imp (fun z => zr.nxR z.1.1 (hy10 (by omega)) (by omega) z.2)
          refine jr.aload_n rfl rfl ?_
          refine jr.iconst rfl ?_
          refine jr.iload_n rfl rfl ?_
          have e22 : M13 413 3 = v1 := (hf_M13.g (show kd 413 = 44 from rfl) rfl).trans e1
          refine jr_v rfl rfl (Or.inl rfl) rfl rfl (by decide) rfl ⟨rfl, Nat.le_of_ble_eq_true rfl, Nat.le_of_ble_eq_true rfl⟩ rfl (jc.deep (ihP.2.2.1 hC_M13 (FR.rfl _ M13) (by omega) (by omega) e16 (by have hq0 : M13 413 3 = v1 := e22; omega) (by have hq0 : M13 413 0 = v16 := e16; omega) (MP.fr hy2 hC_M hf_M13 rfl) (by omega) (TXc.fr hy4 hf_M13 rfl) (by have hq0 : M13 413 8 = v18 := e18; have hq1 : M13 413 6 = v19 := e19; have hq2 : M13 413 7 = v20 := e20; omega) hq3 (by omega) (by omega) (fun _ => rfl) ⟨_, _, _, _, _, rfl, hy12⟩ (fun M21 hC_M21 hf_M21 w21_0 w21_1 w21_2 w21_3 => ?_)) (by omega))
          have ht_M21 : FR W_par T M21 := FR.t ht_M13 hf_M21 (kw_sub rfl)
          obtain ⟨v23, e23⟩ : ∃ z_, M21 413 0 = z_ := ⟨_, rfl⟩
          have b23 : (-2147483648) ≤ v23 ∧ v23 ≤ 2147483647 := by rw [← e23]; exact (CI.r hC_M21 (show kd 413 = 44 from rfl) (by decide) 0)
          obtain ⟨v24, e24⟩ : ∃ z_, M21 413 8 = z_ := ⟨_, rfl⟩
          have b24 : 0 ≤ v24 ∧ v24 ≤ 1600 := by rw [← e24]; exact (CI.r hC_M21 (show kd 413 = 44 from rfl) (by decide) 8)
          obtain ⟨v25, e25⟩ : ∃ z_, M21 413 6 = z_ := ⟨_, rfl⟩
          have b25 : (-2147483648) ≤ v25 ∧ v25 ≤ 2147483647 := by rw [← e25]; exact (CI.r hC_M21 (show kd 413 = 44 from rfl) (by decide) 6)
          obtain ⟨v26, e26⟩ : ∃ z_, M21 413 7 = z_ := ⟨_, rfl⟩
          have b26 : 0 ≤ v26 ∧ v26 ≤ 1600 := by rw [← e26]; exact (CI.r hC_M21 (show kd 413 = 44 from rfl) (by decide) 7)
          refine jr.iinc rfl rfl (by decide) rfl ?_
          refine jr.goto rfl rfl ?_
          have e27 : M21 413 3 = v1 := (hf_M21.g (show kd 413 = 44 from rfl) rfl).trans e22
          refine jr.pick [1, 2, 0, 3] rfl rfl ?_
          exact ih (nM - 1) (by omega) M21 (i + 1) hC_M21 ht_M21 (by omega) (by omega) (by omega) (by have hq0 : M21 413 3 = v1 := e27; omega) (by have hq0 : M21 413 0 = v23 := e23; omega) w21_0 (by omega) (TXc.fr (TXc.fr hy4 hf_M13 rfl) hf_M21 rfl) (by have hq0 : M21 413 8 = v24 := e24; have hq1 : M21 413 6 = v25 := e25; have hq2 : M21 413 7 = v26 := e26; omega) (Or.inr ⟨by omega, (CXP.dn w21_3 (by have g1 := znx_ge f N t1; omega))⟩) (by omega) (by omega) (by omega) hy10 hy11 hy12 (by omega)
theorem c_Parser_exps_z {A : Nat → Option (Nat × (Nat → Int32))} [HA A] {n : Nat} (ihP : PXz A n) : PXz_exps A (n + 1) := by
  intro Q G f N xs tt kk dd bh ee sg nm ak fz aw ww we Z0 T M hC_M ht_M x h_x y h_y  p0 p1 p2 p3 p4 p5 p6 p7 p8 p9 p10 p11 q
  refine jc_of (m := xm_202) rfl (Nat.le_of_ble_eq_true rfl) rfl ?_
  obtain ⟨v1, e1⟩ : ∃ z_, M 413 3 = z_ := ⟨_, rfl⟩
  have b1 : 1 ≤ v1 ∧ v1 ≤ 419 := by rw [← e1]; exact (CI.r hC_M (show kd 413 = 44 from rfl) (by decide) 3)
  have b2 : 1 ≤ v1 ∧ v1 ≤ 1 := by rw [← e1]; exact p0
  obtain ⟨v3, e3⟩ : ∃ z_, M 413 0 = z_ := ⟨_, rfl⟩
  have b3 : (-2147483648) ≤ v3 ∧ v3 ≤ 2147483647 := by rw [← e3]; exact (CI.r hC_M (show kd 413 = 44 from rfl) (by decide) 0)
  obtain ⟨v4, e4⟩ : ∃ z_, M 413 8 = z_ := ⟨_, rfl⟩
  have b4 : 0 ≤ v4 ∧ v4 ≤ 1600 := by rw [← e4]; exact (CI.r hC_M (show kd 413 = 44 from rfl) (by decide) 8)
  obtain ⟨v5, e5⟩ : ∃ z_, M 413 6 = z_ := ⟨_, rfl⟩
  have b5 : (-2147483648) ≤ v5 ∧ v5 ≤ 2147483647 := by rw [← e5]; exact (CI.r hC_M (show kd 413 = 44 from rfl) (by decide) 6)
  obtain ⟨v6, e6⟩ : ∃ z_, M 413 7 = z_ := ⟨_, rfl⟩
  have b6 : 0 ≤ v6 ∧ v6 ≤ 1600 := by rw [← e6]; exact (CI.r hC_M (show kd 413 = 44 from rfl) (by decide) 7)
  refine jr.iconst rfl ?_
  refine jr.istore_n rfl (by decide) rfl ?_
  refine jr.pick [2, 3, 0, 1] rfl rfl ?_
  exact c_Parser_exps_z_L2 ihP  q 5 M 0 hC_M ht_M (by omega) (by omega) (by omega) (by have hq0 : M 413 3 = v1 := e1; omega) (by have hq0 : M 413 0 = v3 := e3; omega) p2 (by omega) p4 (by have hq0 : M 413 8 = v4 := e4; have hq1 : M 413 6 = v5 := e5; have hq2 : M 413 7 = v6 := e6; omega) (Or.inl ⟨rfl, p6⟩) (by omega) (by omega) (by omega) p9 p10 p11 (by omega)
