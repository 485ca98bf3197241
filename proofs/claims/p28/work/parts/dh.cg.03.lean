theorem c_Parser_block_z_L9 {A : Nat → Option (Nat × (Nat → Int32))} [HA A] {Q : Option Value → jm → Prop} {G : Nat → Int → Int} {f : Int → Int} {N : Int} {xs : ZS} {tt kk bh ee : Int} {sg : List (Int × Int × Int × Int)} {nm ak : List Int} {fz : List (Int × Int)} {BB : Int × Int × Int × Int} {Z0 : Prop} {T : jm} {n : Nat} (ihP : PXz A n) {x : Int} {y : Int} (q : ∀ (M' : jm), CI M' → FR W_par T M' → (MP M' G) → (M' 413 8 ≤ N ∧ (M' 413 6 = 1 → M' 413 7 < M' 413 8)) → (CBP f N xs M' (x + 1) bh BB sg nm ee fz tt) → Q none M') : ∀ (nM : Nat) (M : jm) (i : Int), CI M → FR W_par T M → 0 ≤ x ∧ x ≤ 12 → 0 ≤ y ∧ y ≤ 1 → 0 ≤ i ∧ i ≤ 1601 → (1 ≤ M 413 3 ∧ M 413 3 ≤ 1) → (x ≤ 11 ∨ M 413 0 ≠ 0) → (MP M G) → (20 * (13 - x) + 10 ≤ ((n + 1 : Nat) : Int)) → (M 413 8 ≤ N ∧ (M 413 6 = 1 → M 413 7 < M 413 8)) → (CDL f N xs M x bh BB sg nm ee fz tt i) → (TXc f N M) → (0 ≤ ee) → (bh = y) → ((M 413 0 ≠ 0 ∨ 0 ≤ tt)) → 1601 - i ≤ nM → jr A (n + 60) xm_198 9 [(1, .int (Int32.ofInt (x))), (2, .int (Int32.ofInt (y))), (3, .int (Int32.ofInt (i))), (0, .ref (413))] [] M Q := by
  intro nM
  induction nM using Nat.strongRecOn with
  | ind nM ih =>
    intro M i hC_M ht_M h_x h_y h_i hy0 hy1 hy2 hy3 hy4 hy5 hy6 hy7 hy8 hy9 hm
    have hN := hy6.1
    obtain ⟨v1, e1⟩ : ∃ z_, M 413 3 = z_ := ⟨_, rfl⟩
    have b1 : 1 ≤ v1 ∧ v1 ≤ 419 := by rw [← e1]; exact (CI.r hC_M (show kd 413 = 44 from rfl) (by decide) 3)
    have b2 : 1 ≤ v1 ∧ v1 ≤ 1 := by rw [← e1]; exact hy0
    obtain ⟨v3, e3⟩ : ∃ z_, M 413 0 = z_ := ⟨_, rfl⟩
    have b3 : (-2147483648) ≤ v3 ∧ v3 ≤ 2147483647 := by rw [← e3]; exact (CI.r hC_M (show kd 413 = 44 from rfl) (by decide) 0)
    obtain ⟨v4, e4⟩ : ∃ z_, M 413 8 = z_ := ⟨_, rfl⟩
    have b4 : 0 ≤ v4 ∧ v4 ≤ 1600 := by rw [← e4]; exact (CI.r hC_M (show kd 413 = 44 from rfl) (by decide) 8)
    obtain ⟨v5, e5⟩ : ∃ z_, M 413 6 = z_ := ⟨_, rfl⟩
    have b5 : (-2147483648) ≤ v5 ∧ v5 ≤ 2147483647 := by rw [← e5]; exact (CI.r hC_M (show kd 413 = 44 from rfl) (by decide) 6)
    obtain ⟨v6, e6⟩ : ∃ z_, M 413 7 = z_ := ⟨_, rfl⟩
    have b6 : 0 ≤ v6 ∧ v6 ≤ 1600 := by rw [← e6]; exact (CI.r hC_M (show kd 413 = 44 from rfl) (by decide) 7)
    refine jr.iload_n rfl rfl ?_
    refine jr.aload_n rfl rfl ?_
    obtain ⟨v7, e7⟩ : ∃ z_, M 413 4 = z_ := ⟨_, rfl⟩
    have b7 : 0 ≤ v7 ∧ v7 ≤ 1600 := by rw [← e7]; exact (CI.r hC_M (show kd 413 = 44 from rfl) (by decide) 4)
    refine jr.getf (i := 4) (x := v7) (v := .int (Int32.ofInt (v7))) rfl rfl (by decide) rfl (by decide) rfl rfl e7 rfl ?_
    refine jr.icmp_gt rfl rfl (by omega) (by omega) (fun h14 => ?_) (fun h14 => ?_)
    · refine jr.aload_n rfl rfl ?_
      refine jr.bipush rfl (by decide) ?_
      obtain ⟨v9, e9⟩ : ∃ z_, M 413 1 = z_ := ⟨_, rfl⟩
      have b9 : (-2147483648) ≤ v9 ∧ v9 ≤ 2147483647 := by rw [← e9]; exact (CI.r hC_M (show kd 413 = 44 from rfl) (by decide) 1)
      obtain ⟨v10, e10⟩ : ∃ z_, M 413 11 = z_ := ⟨_, rfl⟩
      have b10 : 0 ≤ v10 ∧ v10 ≤ 255 := by rw [← e10]; exact (CI.r hC_M (show kd 413 = 44 from rfl) (by decide) 11)
      obtain ⟨t0, k0, ak0, hu0, hq0⟩ := hy5
      have hqx : CZ f N xs M t0 k0 nm ak0 ee fz (zr f N xs (1, t0, k0, x + 1, 0, bh, BB :: sg, nm, ak0) ∧ (zso f N t0 = 3 ∧ f t0 = 125)) := by first | (have hx := h30; exact hq0.tk.imp (fun z => ⟨z.1, by have y2 := z.2.2.2.2.1; omega, by have y2 := z.2.2.2.2.1; have y := z.2.2.2.2.2.2.2 (by omega); omega⟩)) | (have hx := h21; exact CZ.flt (by omega) (hq0.yf (by omega))) | exact hq0.t0.tk.imp (fun z => absurd z.2.1.2 (by have y0 := z.1.2; omega))
      refine jr_v rfl rfl (Or.inl rfl) rfl rfl (by decide) rfl ⟨rfl, Nat.le_of_ble_eq_true rfl, Nat.le_of_ble_eq_true rfl⟩ rfl (jc.deep (c_Parser_expect_z hC_M (FR.rfl _ M) (by omega) e3 e9 e6 e5 e4 e10 (by have hq0 : M 413 3 = v1 := e1; omega) hy6 (by have hq0 : M 413 8 = v4 := e4; have hq1 : M 413 6 = v5 := e5; have hq2 : M 413 7 = v6 := e6; omega) (fun M8 hC_M8 hf_M8 w8_0 w8_1 w8_2 => ?_)) (by omega))
      have ht_M8 : FR W_par T M8 := FR.t ht_M hf_M8 (kw_sub rfl)
      obtain ⟨v11, e11⟩ : ∃ z_, M8 413 0 = z_ := ⟨_, rfl⟩
      have b11 : (-2147483648) ≤ v11 ∧ v11 ≤ 2147483647 := by rw [← e11]; exact (CI.r hC_M8 (show kd 413 = 44 from rfl) (by decide) 0)
      obtain ⟨v12, e12⟩ : ∃ z_, M8 413 1 = z_ := ⟨_, rfl⟩
      have b12 : (-2147483648) ≤ v12 ∧ v12 ≤ 2147483647 := by rw [← e12]; exact (CI.r hC_M8 (show kd 413 = 44 from rfl) (by decide) 1)
      obtain ⟨v13, e13⟩ : ∃ z_, M8 413 8 = z_ := ⟨_, rfl⟩
      have b13 : 0 ≤ v13 ∧ v13 ≤ 1600 := by rw [← e13]; exact (CI.r hC_M8 (show kd 413 = 44 from rfl) (by decide) 8)
      obtain ⟨v14, e14⟩ : ∃ z_, M8 413 6 = z_ := ⟨_, rfl⟩
      have b14 : (-2147483648) ≤ v14 ∧ v14 ≤ 2147483647 := by rw [← e14]; exact (CI.r hC_M8 (show kd 413 = 44 from rfl) (by decide) 6)
      obtain ⟨v15, e15⟩ : ∃ z_, M8 413 7 = z_ := ⟨_, rfl⟩
      have b15 : 0 ≤ v15 ∧ v15 ≤ 1600 := by rw [← e15]; exact (CI.r hC_M8 (show kd 413 = 44 from rfl) (by decide) 7)
      have hq5 := CZ.exp hqx hC_M hf_M8 e3 e9 e6 e5 e4 e10 w8_0 w8_1 (fun z y => absurd z.2 y)
      have wf8 := exF w8_0
      clear w8_0 w8_1
      clear hy4
      exact jr.vreturn rfl rfl (q _ hC_M8 ht_M8  (MP.fr hy2 hC_M hf_M8 rfl) (by have hq0 : M8 413 8 = v13 := e13; have hq1 : M8 413 6 = v14 := e14; have hq2 : M8 413 7 = v15 := e15; omega) (CBP.mk hq5 (by omega) (fun z => ⟨z.1.1, z.2⟩)))
    · refine jr.aload_n rfl rfl ?_
      refine jr.getf (i := 0) (x := v3) (v := .int (Int32.ofInt (v3))) rfl rfl (by decide) rfl (by decide) rfl rfl e3 rfl ?_
      refine jr.if_ne rfl rfl (by omega) (fun h21 => ?_) (fun h21 => ?_)
      · refine jr.aload_n rfl rfl ?_
        refine jr.bipush rfl (by decide) ?_
        obtain ⟨v17, e17⟩ : ∃ z_, M 413 1 = z_ := ⟨_, rfl⟩
        have b17 : (-2147483648) ≤ v17 ∧ v17 ≤ 2147483647 := by rw [← e17]; exact (CI.r hC_M (show kd 413 = 44 from rfl) (by decide) 1)
        obtain ⟨v18, e18⟩ : ∃ z_, M 413 11 = z_ := ⟨_, rfl⟩
        have b18 : 0 ≤ v18 ∧ v18 ≤ 255 := by rw [← e18]; exact (CI.r hC_M (show kd 413 = 44 from rfl) (by decide) 11)
        obtain ⟨t0, k0, ak0, hu0, hq0⟩ := hy5
        have hqx : CZ f N xs M t0 k0 nm ak0 ee fz (zr f N xs (1, t0, k0, x + 1, 0, bh, BB :: sg, nm, ak0) ∧ (zso f N t0 = 3 ∧ f t0 = 125)) := by first | (have hx := h30; exact hq0.tk.imp (fun z => ⟨z.1, by have y2 := z.2.2.2.2.1; omega, by have y2 := z.2.2.2.2.1; have y := z.2.2.2.2.2.2.2 (by omega); omega⟩)) | (have hx := h21; exact CZ.flt (by omega) (hq0.yf (by omega))) | exact hq0.t0.tk.imp (fun z => absurd z.2.1.2 (by have y0 := z.1.2; omega))
        refine jr_v rfl rfl (Or.inl rfl) rfl rfl (by decide) rfl ⟨rfl, Nat.le_of_ble_eq_true rfl, Nat.le_of_ble_eq_true rfl⟩ rfl (jc.deep (c_Parser_expect_z hC_M (FR.rfl _ M) (by omega) e3 e17 e6 e5 e4 e18 (by have hq0 : M 413 3 = v1 := e1; omega) hy6 (by have hq0 : M 413 8 = v4 := e4; have hq1 : M 413 6 = v5 := e5; have hq2 : M 413 7 = v6 := e6; omega) (fun M16 hC_M16 hf_M16 w16_0 w16_1 w16_2 => ?_)) (by omega))
        have ht_M16 : FR W_par T M16 := FR.t ht_M hf_M16 (kw_sub rfl)
        obtain ⟨v19, e19⟩ : ∃ z_, M16 413 0 = z_ := ⟨_, rfl⟩
        have b19 : (-2147483648) ≤ v19 ∧ v19 ≤ 2147483647 := by rw [← e19]; exact (CI.r hC_M16 (show kd 413 = 44 from rfl) (by decide) 0)
        obtain ⟨v20, e20⟩ : ∃ z_, M16 413 1 = z_ := ⟨_, rfl⟩
        have b20 : (-2147483648) ≤ v20 ∧ v20 ≤ 2147483647 := by rw [← e20]; exact (CI.r hC_M16 (show kd 413 = 44 from rfl) (by decide) 1)
        obtain ⟨v21, e21⟩ : ∃ z_, M16 413 8 = z_ := ⟨_, rfl⟩
        have b21 : 0 ≤ v21 ∧ v21 ≤ 1600 := by rw [← e21]; exact (CI.r hC_M16 (show kd 413 = 44 from rfl) (by decide) 8)
        obtain ⟨v22, e22⟩ : ∃ z_, M16 413 6 = z_ := ⟨_, rfl⟩
        have b22 : (-2147483648) ≤ v22 ∧ v22 ≤ 2147483647 := by rw [← e22]; exact (CI.r hC_M16 (show kd 413 = 44 from rfl) (by decide) 6)
        obtain ⟨v23, e23⟩ : ∃ z_, M16 413 7 = z_ := ⟨_, rfl⟩
        have b23 : 0 ≤ v23 ∧ v23 ≤ 1600 := by rw [← e23]; exact (CI.r hC_M16 (show kd 413 = 44 from rfl) (by decide) 7)
        have hq5 := CZ.exp hqx hC_M hf_M16 e3 e17 e6 e5 e4 e18 w16_0 w16_1 (fun z y => absurd z.2 y)
        have wf16 := exF w16_0
        clear w16_0 w16_1
        clear hy4
        exact jr.vreturn rfl rfl (q _ hC_M16 ht_M16  (MP.fr hy2 hC_M hf_M16 rfl) (by have hq0 : M16 413 8 = v21 := e21; have hq1 : M16 413 6 = v22 := e22; have hq2 : M16 413 7 = v23 := e23; omega) (CBP.mk hq5 (by omega) (fun z => ⟨z.1.1, z.2⟩)))
      · refine jr.aload_n rfl rfl ?_
        refine jr.bipush rfl (by decide) ?_
        refine jr_v rfl rfl (Or.inl rfl) rfl rfl (by decide) rfl ⟨rfl, Nat.le_of_ble_eq_true rfl, Nat.le_of_ble_eq_true rfl⟩ rfl (jc.deep (c_Parser_isSign_z hC_M (by omega) (fun r24 z24 w24_0 => ?_)) (by omega))
        refine jr.if_ne rfl rfl (by omega) (fun h30 => ?_) (fun h30 => ?_)
        · refine jr.aload_n rfl rfl ?_
          refine jr.bipush rfl (by decide) ?_
          obtain ⟨v26, e26⟩ : ∃ z_, M 413 1 = z_ := ⟨_, rfl⟩
          have b26 : (-2147483648) ≤ v26 ∧ v26 ≤ 2147483647 := by rw [← e26]; exact (CI.r hC_M (show kd 413 = 44 from rfl) (by decide) 1)
          obtain ⟨v27, e27⟩ : ∃ z_, M 413 11 = z_ := ⟨_, rfl⟩
          have b27 : 0 ≤ v27 ∧ v27 ≤ 255 := by rw [← e27]; exact (CI.r hC_M (show kd 413 = 44 from rfl) (by decide) 11)
          obtain ⟨t0, k0, ak0, hu0, hq0⟩ := hy5
          have hqx : CZ f N xs M t0 k0 nm ak0 ee fz (zr f N xs (1, t0, k0, x + 1, 0, bh, BB :: sg, nm, ak0) ∧ (zso f N t0 = 3 ∧ f t0 = 125)) := by first | (have hx := h30; exact hq0.tk.imp (fun z => ⟨z.1, by have y2 := z.2.2.2.2.1; omega, by have y2 := z.2.2.2.2.1; have y := z.2.2.2.2.2.2.2 (by omega); omega⟩)) | (have hx := h21; exact CZ.flt (by omega) (hq0.yf (by omega))) | exact hq0.t0.tk.imp (fun z => absurd z.2.1.2 (by have y0 := z.1.2; omega))
          refine jr_v rfl rfl (Or.inl rfl) rfl rfl (by decide) rfl ⟨rfl, Nat.le_of_ble_eq_true rfl, Nat.le_of_ble_eq_true rfl⟩ rfl (jc.deep (c_Parser_expect_z hC_M (FR.rfl _ M) (by omega) e3 e26 e6 e5 e4 e27 (by have hq0 : M 413 3 = v1 := e1; omega) hy6 (by have hq0 : M 413 8 = v4 := e4; have hq1 : M 413 6 = v5 := e5; have hq2 : M 413 7 = v6 := e6; omega) (fun M25 hC_M25 hf_M25 w25_0 w25_1 w25_2 => ?_)) (by omega))
          have ht_M25 : FR W_par T M25 := FR.t ht_M hf_M25 (kw_sub rfl)
          obtain ⟨v28, e28⟩ : ∃ z_, M25 413 0 = z_ := ⟨_, rfl⟩
          have b28 : (-2147483648) ≤ v28 ∧ v28 ≤ 2147483647 := by rw [← e28]; exact (CI.r hC_M25 (show kd 413 = 44 from rfl) (by decide) 0)
          obtain ⟨v29, e29⟩ : ∃ z_, M25 413 1 = z_ := ⟨_, rfl⟩
          have b29 : (-2147483648) ≤ v29 ∧ v29 ≤ 2147483647 := by rw [← e29]; exact (CI.r hC_M25 (show kd 413 = 44 from rfl) (by decide) 1)
          obtain ⟨v30, e30⟩ : ∃ z_, M25 413 8 = z_ := ⟨_, rfl⟩
          have b30 : 0 ≤ v30 ∧ v30 ≤ 1600 := by rw [← e30]; exact (CI.r hC_M25 (show kd 413 = 44 from rfl) (by decide) 8)
          obtain ⟨v31, e31⟩ : ∃ z_, M25 413 6 = z_ := ⟨_, rfl⟩
          have b31 : (-2147483648) ≤ v31 ∧ v31 ≤ 2147483647 := by rw [← e31]; exact (CI.r hC_M25 (show kd 413 = 44 from rfl) (by decide) 6)
          obtain ⟨v32, e32⟩ : ∃ z_, M25 413 7 = z_ := ⟨_, rfl⟩
          have b32 : 0 ≤ v32 ∧ v32 ≤ 1600 := by rw [← e32]; exact (CI.r hC_M25 (show kd 413 = 44 from rfl) (by decide) 7)
          have hq5 := CZ.exp hqx hC_M hf_M25 e3 e26 e6 e5 e4 e27 w25_0 w25_1 (fun z y => absurd z.2 y)
          have wf25 := exF w25_0
          clear w25_0 w25_1
          clear hy4
          exact jr.vreturn rfl rfl (q _ hC_M25 ht_M25  (MP.fr hy2 hC_M hf_M25 rfl) (by have hq0 : M25 413 8 = v30 := e30; have hq1 : M25 413 6 = v31 := e31; have hq2 : M25 413 7 = v32 := e32; omega) (CBP.mk hq5 (by omega) (fun z => ⟨z.1.1, z.2⟩)))
        · refine jr.aload_n rfl rfl ?_
          refine jr.iload_n rfl rfl ?_
          refine jr.iconst rfl ?_
          refine jr.iadd rfl ?_
          refine jr.iload_n rfl rfl ?_
          have hx11 : x ≤ 11 := by omega
          have htt : 0 ≤ tt := by omega
          clear hy1 hy9
          obtain ⟨t0, k0, ak0, hu0, hq0⟩ := hy5
          have hq1 := hq0.tk.imp (fun z => (⟨z.1, fun q => by have y := z.2.2.2.2.2.2.2 q.1; have y2 := z.2.2.2.2.1; omega⟩ : _ ∧ ¬ (zso f N t0 = 3 ∧ f t0 = 125)))
          refine jr_v rfl rfl (Or.inl rfl) rfl rfl (by decide) rfl ⟨rfl, Nat.le_of_ble_eq_true rfl, Nat.le_of_ble_eq_true rfl⟩ rfl (jc.deep (ihP.2.2.2.2.2.2 hC_M (FR.rfl _ M) (by omega) (by omega) (by have hq0 : M 413 3 = v1 := e1; omega) hy2 (by omega) hy6 (by have hq0 : M 413 8 = v4 := e4; have hq1 : M 413 6 = v5 := e5; have hq2 : M 413 7 = v6 := e6; omega) hq1 (by omega) (by omega) (by omega) (by simp) (by have hq0 : M 413 0 = v3 := e3; omega) (fun M33 hC_M33 hf_M33 w33_0 w33_1 w33_2 => ?_)) (by omega))
          have ht_M33 : FR W_par T M33 := FR.t ht_M hf_M33 (kw_sub rfl)
          obtain ⟨v34, e34⟩ : ∃ z_, M33 413 8 = z_ := ⟨_, rfl⟩
          have b34 : 0 ≤ v34 ∧ v34 ≤ 1600 := by rw [← e34]; exact (CI.r hC_M33 (show kd 413 = 44 from rfl) (by decide) 8)
          obtain ⟨v35, e35⟩ : ∃ z_, M33 413 6 = z_ := ⟨_, rfl⟩
          have b35 : (-2147483648) ≤ v35 ∧ v35 ≤ 2147483647 := by rw [← e35]; exact (CI.r hC_M33 (show kd 413 = 44 from rfl) (by decide) 6)
          obtain ⟨v36, e36⟩ : ∃ z_, M33 413 7 = z_ := ⟨_, rfl⟩
          have b36 : 0 ≤ v36 ∧ v36 ≤ 1600 := by rw [← e36]; exact (CI.r hC_M33 (show kd 413 = 44 from rfl) (by decide) 7)
          refine jr.iinc rfl rfl (by decide) rfl ?_
          refine jr.goto rfl rfl ?_
          have e37 : M33 413 3 = v1 := (hf_M33.g (show kd 413 = 44 from rfl) rfl).trans e1
          obtain ⟨v38, e38⟩ : ∃ z_, M33 413 0 = z_ := ⟨_, rfl⟩
          have b38 : (-2147483648) ≤ v38 ∧ v38 ≤ 2147483647 := by rw [← e38]; exact (CI.r hC_M33 (show kd 413 = 44 from rfl) (by decide) 0)
          refine jr.pick [1, 2, 0, 3] rfl rfl ?_
          exact ih (nM - 1) (by omega) M33 (i + 1) hC_M33 ht_M33 (by omega) (by omega) (by omega) (by have hq0 : M33 413 3 = v1 := e37; omega) (by have hq0 : M33 413 0 = v38 := e38; omega) w33_0 (by omega) (by have hq0 : M33 413 8 = v34 := e34; have hq1 : M33 413 6 = v35 := e35; have hq2 : M33 413 7 = v36 := e36; omega) (by obtain ⟨t2, k2, ak2, hu2, hq2⟩ := w33_2; exact ⟨t2, k2, ak2, by omega, hq2⟩) (TXc.fr hy6 hf_M33 rfl) (by omega) (by omega) (Or.inr (by omega)) (by omega)
theorem c_Parser_block_z {A : Nat → Option (Nat × (Nat → Int32))} [HA A] {n : Nat} (ihP : PXz A n) : PXz_block A (n + 1) := by
  intro Q G f N xs tt kk bh ee sg nm ak fz BB Z0 T M hC_M ht_M x h_x y h_y  p0 p1 p2 p3 p4 p5 p6 p7 p8 p9 p10 q
  refine jc_of (m := xm_198) rfl (Nat.le_of_ble_eq_true rfl) rfl ?_
  obtain ⟨v1, e1⟩ : ∃ z_, M 413 3 = z_ := ⟨_, rfl⟩
  have b1 : 1 ≤ v1 ∧ v1 ≤ 419 := by rw [← e1]; exact (CI.r hC_M (show kd 413 = 44 from rfl) (by decide) 3)
  have b2 : 1 ≤ v1 ∧ v1 ≤ 1 := by rw [← e1]; exact p0
  obtain ⟨v3, e3⟩ : ∃ z_, M 413 8 = z_ := ⟨_, rfl⟩
  have b3 : 0 ≤ v3 ∧ v3 ≤ 1600 := by rw [← e3]; exact (CI.r hC_M (show kd 413 = 44 from rfl) (by decide) 8)
  obtain ⟨v4, e4⟩ : ∃ z_, M 413 6 = z_ := ⟨_, rfl⟩
  have b4 : (-2147483648) ≤ v4 ∧ v4 ≤ 2147483647 := by rw [← e4]; exact (CI.r hC_M (show kd 413 = 44 from rfl) (by decide) 6)
  obtain ⟨v5, e5⟩ : ∃ z_, M 413 7 = z_ := ⟨_, rfl⟩
  have b5 : 0 ≤ v5 ∧ v5 ≤ 1600 := by rw [← e5]; exact (CI.r hC_M (show kd 413 = 44 from rfl) (by decide) 7)
  refine jr.aload_n rfl rfl ?_
  refine jr.bipush rfl (by decide) ?_
  refine jr.iload_n rfl rfl ?_
  obtain ⟨v7, e7⟩ : ∃ z_, M 413 0 = z_ := ⟨_, rfl⟩
  have b7 : (-2147483648) ≤ v7 ∧ v7 ≤ 2147483647 := by rw [← e7]; exact (CI.r hC_M (show kd 413 = 44 from rfl) (by decide) 0)
  obtain ⟨v8, e8⟩ : ∃ z_, M 413 1 = z_ := ⟨_, rfl⟩
  have b8 : (-2147483648) ≤ v8 ∧ v8 ≤ 2147483647 := by rw [← e8]; exact (CI.r hC_M (show kd 413 = 44 from rfl) (by decide) 1)
  obtain ⟨v9, e9⟩ : ∃ z_, M 413 11 = z_ := ⟨_, rfl⟩
  have b9 : 0 ≤ v9 ∧ v9 ≤ 255 := by rw [← e9]; exact (CI.r hC_M (show kd 413 = 44 from rfl) (by decide) 11)
  refine jr_v rfl rfl (Or.inl rfl) rfl rfl (by decide) rfl ⟨rfl, Nat.le_of_ble_eq_true rfl, Nat.le_of_ble_eq_true rfl⟩ rfl (jc.deep (c_Parser_open_z hC_M (FR.rfl _ M) (by omega) (by omega) e7 e8 e5 e4 e3 e9 (by have hq0 : M 413 3 = v1 := e1; omega) p3 (by have hq0 : M 413 8 = v3 := e3; have hq1 : M 413 6 = v4 := e4; have hq2 : M 413 7 = v5 := e5; omega) (fun M6 hC_M6 hf_M6 w6_0 w6_1 w6_2 w6_3 => ?_)) (by omega))
  have ht_M6 : FR W_par T M6 := FR.t ht_M hf_M6 (kw_sub rfl)
  obtain ⟨v10, e10⟩ : ∃ z_, M6 413 0 = z_ := ⟨_, rfl⟩
  have b10 : (-2147483648) ≤ v10 ∧ v10 ≤ 2147483647 := by rw [← e10]; exact (CI.r hC_M6 (show kd 413 = 44 from rfl) (by decide) 0)
  obtain ⟨v11, e11⟩ : ∃ z_, M6 413 1 = z_ := ⟨_, rfl⟩
  have b11 : (-2147483648) ≤ v11 ∧ v11 ≤ 2147483647 := by rw [← e11]; exact (CI.r hC_M6 (show kd 413 = 44 from rfl) (by decide) 1)
  obtain ⟨v12, e12⟩ : ∃ z_, M6 413 8 = z_ := ⟨_, rfl⟩
  have b12 : 0 ≤ v12 ∧ v12 ≤ 1600 := by rw [← e12]; exact (CI.r hC_M6 (show kd 413 = 44 from rfl) (by decide) 8)
  obtain ⟨v13, e13⟩ : ∃ z_, M6 413 6 = z_ := ⟨_, rfl⟩
  have b13 : (-2147483648) ≤ v13 ∧ v13 ≤ 2147483647 := by rw [← e13]; exact (CI.r hC_M6 (show kd 413 = 44 from rfl) (by decide) 6)
  obtain ⟨v14, e14⟩ : ∃ z_, M6 413 7 = z_ := ⟨_, rfl⟩
  have b14 : 0 ≤ v14 ∧ v14 ≤ 1600 := by rw [← e14]; exact (CI.r hC_M6 (show kd 413 = 44 from rfl) (by decide) 7)
  have hq1 := CZ.opn p5 hC_M hf_M6 e7 e8 e5 e4 e3 e9 w6_0 w6_2 (fun z y => p10 z y) (fun z h3 h4 hd => p9 z ⟨h3, h4⟩ hd)
  have wf6 := opF w6_0
  clear w6_0 w6_2
  clear p4
  refine jr.iconst rfl ?_
  refine jr.istore_n rfl (by decide) rfl ?_
  have e15 : M6 413 3 = v1 := (hf_M6.g (show kd 413 = 44 from rfl) rfl).trans e1
  refine jr.pick [2, 3, 0, 1] rfl rfl ?_
  exact c_Parser_block_z_L9 (kk := kk) (ak := ak) (Z0 := Z0) ihP  q 1601 M6 0 hC_M6 ht_M6 (by omega) (by omega) (by omega) (by have hq0 : M6 413 3 = v1 := e15; omega) (by have hq0 : M6 413 0 = v10 := e10; omega) (MP.fr p1 hC_M hf_M6 rfl) (by omega) (by have hq0 : M6 413 8 = v12 := e12; have hq1 : M6 413 6 = v13 := e13; have hq2 : M6 413 7 = v14 := e14; omega) (CDL.mk hq1 (fun z => ⟨p8 z.1 ⟨z.2.1, z.2.2.1⟩ z.2.2.2, by have g1 := znx_gt f (zso_lt (f := f) (N := N) (t := tt) (by have y := z.2.1; omega)); omega⟩)) (TXc.fr p3 hf_M6 rfl) (by omega) (by omega) (by by_cases h0 : M 413 0 = 0; (exact Or.inr (CZ.z p5 h0).1.1.2.1.1); (exact Or.inl (by have hq0 : M6 413 0 = v10 := e10; omega))) (by omega)
theorem c_Parser_choice_z {A : Nat → Option (Nat × (Nat → Int32))} [HA A] {n : Nat} (ihP : PXz A n) : PXz_choice A (n + 1) := by
  intro Q G f N xs tt kk dd bh ee sg nm ak fz T M hC_M ht_M x h_x y h_y  p0 p1 p2 p3 p4 p5 p6 p7 p8 q
  have h_ee : 0 ≤ ee - 2 := by omega
  refine jc_of (m := xm_200) rfl (Nat.le_of_ble_eq_true rfl) rfl ?_
  obtain ⟨v1, e1⟩ : ∃ z_, M 413 3 = z_ := ⟨_, rfl⟩
  have b1 : 1 ≤ v1 ∧ v1 ≤ 419 := by rw [← e1]; exact (CI.r hC_M (show kd 413 = 44 from rfl) (by decide) 3)
  have b2 : 1 ≤ v1 ∧ v1 ≤ 1 := by rw [← e1]; exact p0
  obtain ⟨v3, e3⟩ : ∃ z_, M 413 8 = z_ := ⟨_, rfl⟩
  have b3 : 0 ≤ v3 ∧ v3 ≤ 1600 := by rw [← e3]; exact (CI.r hC_M (show kd 413 = 44 from rfl) (by decide) 8)
  obtain ⟨v4, e4⟩ : ∃ z_, M 413 6 = z_ := ⟨_, rfl⟩
  have b4 : (-2147483648) ≤ v4 ∧ v4 ≤ 2147483647 := by rw [← e4]; exact (CI.r hC_M (show kd 413 = 44 from rfl) (by decide) 6)
  obtain ⟨v5, e5⟩ : ∃ z_, M 413 7 = z_ := ⟨_, rfl⟩
  have b5 : 0 ≤ v5 ∧ v5 ≤ 1600 := by rw [← e5]; exact (CI.r hC_M (show kd 413 = 44 from rfl) (by decide) 7)
  refine jr.aload_n rfl rfl ?_
  refine jr.iconst rfl ?_
  refine jr.iload_n rfl rfl ?_
  obtain ⟨v7, e7⟩ : ∃ z_, M 413 0 = z_ := ⟨_, rfl⟩
  have b7 : (-2147483648) ≤ v7 ∧ v7 ≤ 2147483647 := by rw [← e7]; exact (CI.r hC_M (show kd 413 = 44 from rfl) (by decide) 0)
  refine jr_v rfl rfl (Or.inl rfl) rfl rfl (by decide) rfl ⟨rfl, Nat.le_of_ble_eq_true rfl, Nat.le_of_ble_eq_true rfl⟩ rfl (jc.deep (ihP.2.2.1 hC_M (FR.rfl _ M) (by omega) (by omega) e7 (by have hq0 : M 413 3 = v1 := e1; omega) (by have hq0 : M 413 0 = v7 := e7; omega) p1 (by omega) p3 (by have hq0 : M 413 8 = v3 := e3; have hq1 : M 413 6 = v4 := e4; have hq2 : M 413 7 = v5 := e5; omega) p5 (by omega) (by omega) (fun _ => rfl) ⟨_, _, _, _, _, rfl, by decide⟩ (fun M6 hC_M6 hf_M6 w6_0 w6_1 w6_2 w6_3 => ?_)) (by omega))
  have ht_M6 : FR W_par T M6 := FR.t ht_M hf_M6 (kw_sub rfl)
  obtain ⟨v8, e8⟩ : ∃ z_, M6 413 0 = z_ := ⟨_, rfl⟩
  have b8 : (-2147483648) ≤ v8 ∧ v8 ≤ 2147483647 := by rw [← e8]; exact (CI.r hC_M6 (show kd 413 = 44 from rfl) (by decide) 0)
  obtain ⟨v9, e9⟩ : ∃ z_, M6 413 8 = z_ := ⟨_, rfl⟩
  have b9 : 0 ≤ v9 ∧ v9 ≤ 1600 := by rw [← e9]; exact (CI.r hC_M6 (show kd 413 = 44 from rfl) (by decide) 8)
  obtain ⟨v10, e10⟩ : ∃ z_, M6 413 6 = z_ := ⟨_, rfl⟩
  have b10 : (-2147483648) ≤ v10 ∧ v10 ≤ 2147483647 := by rw [← e10]; exact (CI.r hC_M6 (show kd 413 = 44 from rfl) (by decide) 6)
  obtain ⟨v11, e11⟩ : ∃ z_, M6 413 7 = z_ := ⟨_, rfl⟩
  have b11 : 0 ≤ v11 ∧ v11 ≤ 1600 := by rw [← e11]; exact (CI.r hC_M6 (show kd 413 = 44 from rfl) (by decide) 7)
  obtain ⟨t1, k1, c1, hu1, hq1⟩ := w6_3
  clear p4
  refine jr.aload_n rfl rfl ?_
  obtain ⟨v12, e12⟩ : ∃ z_, M 413 2 = z_ := ⟨_, rfl⟩
  have b12 : 0 ≤ v12 ∧ v12 ≤ 597 := by rw [← e12]; exact (CI.r hC_M (show kd 413 = 44 from rfl) (by decide) 2)
  have e13 : M6 413 2 = v12 := (hf_M6.g (show kd 413 = 44 from rfl) rfl).trans e12
  have k14 : kd (v12).toNat = 47 := ((congrArg (fun z : Int => kd z.toNat) (show M6 413 2 = v12 from e13)).symm.trans (CI.x hC_M6 (show kd 413 = 44 from rfl) 2 rfl (by decide)))
  refine jr.getf (i := 2) (x := v12) (v := .ref (v12.toNat)) rfl rfl (by decide) rfl (by decide) rfl rfl e13 rfl ?_
  refine jr.iconst rfl ?_
  refine jr.iconst rfl ?_
  obtain ⟨v16, e16⟩ : ∃ z_, M6 ((v12.toNat)) 2 = z_ := ⟨_, rfl⟩
  have b16 : 0 ≤ v16 ∧ v16 ≤ 932 := by rw [← e16]; exact (CI.r hC_M6 k14 (by decide) 2)
  refine jr_v rfl rfl (Or.inl rfl) rfl rfl (Nat.lt_trans (kx_47 k14).1 (by decide)) (kx_47 k14).2 ⟨rfl, Nat.le_of_ble_eq_true rfl, Nat.le_of_ble_eq_true rfl⟩ rfl (jc.deep (c_Program_emit_z hC_M6 (FR.rfl _ M6) k14 (by omega) (by omega) e16 rfl (by have hq0 : M6 413 2 = v12 := e13; omega) w6_0 (fun r15 M15 hC_M15 hf_M15 z15 w15_0 w15_1 w15_2 => ?_)) (by omega))
  have ht_M15 : FR W_par T M15 := FR.t ht_M6 hf_M15 (kw_sub rfl)
  have hq2 := CZ.emn (p := (v12.toNat)) hq1 hC_M6 hf_M15 (e13.trans (by omega)) e16 w15_2 (by omega) (by omega)
  clear w15_2
  refine jr.istore_n rfl (by decide) rfl ?_
  refine jr.aload_n rfl rfl ?_
  refine jr.iload_n rfl rfl ?_
  refine jr.iload_n rfl rfl ?_
  have e18 : M6 413 3 = v1 := (hf_M6.g (show kd 413 = 44 from rfl) rfl).trans e1
  have e19 : M15 413 3 = v1 := (hf_M15.g (show kd 413 = 44 from rfl) rfl).trans e18
  have e20 : M15 413 8 = v9 := (hf_M15.g (show kd 413 = 44 from rfl) rfl).trans e9
  have e21 : M15 413 6 = v10 := (hf_M15.g (show kd 413 = 44 from rfl) rfl).trans e10
  have e22 : M15 413 7 = v11 := (hf_M15.g (show kd 413 = 44 from rfl) rfl).trans e11
  refine jr_v rfl rfl (Or.inl rfl) rfl rfl (by decide) rfl ⟨rfl, Nat.le_of_ble_eq_true rfl, Nat.le_of_ble_eq_true rfl⟩ rfl (jc.deep (ihP.2.2.2.2.1 hC_M15 (FR.rfl _ M15) (by omega) (by omega) (by have hq0 : M15 413 3 = v1 := e19; omega) w15_0 (by omega) (TXc.fr (TXc.fr p3 hf_M6 rfl) hf_M15 rfl) (by have hq0 : M15 413 8 = v9 := e20; have hq1 : M15 413 6 = v10 := e21; have hq2 : M15 413 7 = v11 := e22; omega) hq2 (by omega) (by omega) (fun z g hd => by have y := zr.ifb z.1.1 (zrk_b g) g (by omega); rw [show dd + 1 = x + 1 by omega] at y; exact y) (fun z g hd => zr.ifd z.1.1 (zrk_b g) g (by omega)) (fun z g => zr.iffR z.1.1 z.1.2.1 g) (fun M17 hC_M17 hf_M17 w17_0 w17_1 w17_2 => ?_)) (by omega))
  have ht_M17 : FR W_par T M17 := FR.t ht_M15 hf_M17 (kw_sub rfl)
  obtain ⟨v23, e23⟩ : ∃ z_, M17 413 8 = z_ := ⟨_, rfl⟩
  have b23 : 0 ≤ v23 ∧ v23 ≤ 1600 := by rw [← e23]; exact (CI.r hC_M17 (show kd 413 = 44 from rfl) (by decide) 8)
  obtain ⟨v24, e24⟩ : ∃ z_, M17 413 6 = z_ := ⟨_, rfl⟩
  have b24 : (-2147483648) ≤ v24 ∧ v24 ≤ 2147483647 := by rw [← e24]; exact (CI.r hC_M17 (show kd 413 = 44 from rfl) (by decide) 6)
  obtain ⟨v25, e25⟩ : ∃ z_, M17 413 7 = z_ := ⟨_, rfl⟩
  have b25 : 0 ≤ v25 ∧ v25 ≤ 1600 := by rw [← e25]; exact (CI.r hC_M17 (show kd 413 = 44 from rfl) (by decide) 7)
  obtain ⟨t2, k2, ak2, hu2, hq3⟩ := w17_2
  clear w6_2
  refine jr.aload_n rfl rfl ?_
  obtain ⟨v26, e26⟩ : ∃ z_, M17 413 0 = z_ := ⟨_, rfl⟩
  have b26 : (-2147483648) ≤ v26 ∧ v26 ≤ 2147483647 := by rw [← e26]; exact (CI.r hC_M17 (show kd 413 = 44 from rfl) (by decide) 0)
  refine jr.getf (i := 0) (x := v26) (v := .int (Int32.ofInt (v26))) rfl rfl (by decide) rfl (by decide) rfl rfl e26 rfl ?_
  refine jr.if_ne rfl rfl (by omega) (fun h26 => ?_) (fun h26 => ?_)
  · refine jr.aload_n rfl rfl ?_
    have e27 : M15 413 2 = v12 := (hf_M15.g (show kd 413 = 44 from rfl) rfl).trans e13
    have e28 : M17 413 2 = v12 := (hf_M17.g (show kd 413 = 44 from rfl) rfl).trans e27
    have k29 : kd (v12).toNat = 47 := ((congrArg (fun z : Int => kd z.toNat) (show M17 413 2 = v12 from e28)).symm.trans (CI.x hC_M17 (show kd 413 = 44 from rfl) 2 rfl (by decide)))
    refine jr.getf (i := 2) (x := v12) (v := .ref (v12.toNat)) rfl rfl (by decide) rfl (by decide) rfl rfl e28 rfl ?_
    refine jr.iload_n rfl rfl ?_
    obtain ⟨v31, e31⟩ : ∃ z_, M17 ((v12.toNat)) 2 = z_ := ⟨_, rfl⟩
    have b31 : 0 ≤ v31 ∧ v31 ≤ 932 := by rw [← e31]; exact (CI.r hC_M17 k29 (by decide) 2)
    refine jr_v rfl rfl (Or.inl rfl) rfl rfl (Nat.lt_trans (kx_47 k29).1 (by decide)) (kx_47 k29).2 ⟨rfl, Nat.le_of_ble_eq_true rfl, Nat.le_of_ble_eq_true rfl⟩ rfl (jc.deep (c_Program_land_z hC_M17 (FR.rfl _ M17) k29 (by omega) e31 rfl (by have hq0 : M17 413 2 = v12 := e28; omega) w17_0 (fun M30 hC_M30 hf_M30 w30_0 w30_1 => ?_)) (by omega))
    have ht_M30 : FR W_par T M30 := FR.t ht_M17 hf_M30 (kw_sub rfl)
    have hq3b := hq3.t0.tk.imp (fun z => (⟨z.1.1, fun q => by have y0 := z.1.2; have y2 := z.2.2.2.2.1; have y := z.2.2.2.2.2.1 q.1; have y3 := zcv_2.mpr q.2; omega⟩ : _ ∧ ¬ (zso f N (znx f N t2) = 1 ∧ zwd f N (znx f N t2) = 3)))
    have hq4 := CZ.lnd2 (p := (v12.toNat)) hq3b hC_M17 hf_M30 (e28.trans (by omega)) w30_1 List.mem_cons_self w15_1 (by decide)
    have e32 : M30 413 8 = v23 := (hf_M30.g (show kd 413 = 44 from rfl) rfl).trans e23
    have e33 : M30 413 6 = v24 := (hf_M30.g (show kd 413 = 44 from rfl) rfl).trans e24
    have e34 : M30 413 7 = v25 := (hf_M30.g (show kd 413 = 44 from rfl) rfl).trans e25
    exact jr.vreturn rfl rfl (q _ hC_M30 ht_M30  w30_0 (by have hq0 : M30 413 8 = v23 := e32; have hq1 : M30 413 6 = v24 := e33; have hq2 : M30 413 7 = v25 := e34; omega) (CDP.mk ((hq4.wk (fun _ h => List.mem_cons_of_mem _ h)).le h_ee (by omega)) (fun z => ⟨by have y := zr.bl2 z.1.1 z.1.2 z.2; rw [show x + 1 - 1 = dd by omega] at y; exact y, by have g1 := znx_ge f N t2; omega⟩)))
  · refine jr.aload_n rfl rfl ?_
    refine jr.iconst rfl ?_
    refine jr_v rfl rfl (Or.inl rfl) rfl rfl (by decide) rfl ⟨rfl, Nat.le_of_ble_eq_true rfl, Nat.le_of_ble_eq_true rfl⟩ rfl (jc.deep (c_Parser_isWord_z hC_M17 (by omega) (fun r35 z35 w35_0 => ?_)) (by omega))
    refine jr.if_eq rfl rfl (by omega) (fun h34 => ?_) (fun h34 => ?_)
    · refine jr.aload_n rfl rfl ?_
      have e36 : M15 413 2 = v12 := (hf_M15.g (show kd 413 = 44 from rfl) rfl).trans e13
      have e37 : M17 413 2 = v12 := (hf_M17.g (show kd 413 = 44 from rfl) rfl).trans e36
      have k38 : kd (v12).toNat = 47 := ((congrArg (fun z : Int => kd z.toNat) (show M17 413 2 = v12 from e37)).symm.trans (CI.x hC_M17 (show kd 413 = 44 from rfl) 2 rfl (by decide)))
      refine jr.getf (i := 2) (x := v12) (v := .ref (v12.toNat)) rfl rfl (by decide) rfl (by decide) rfl rfl e37 rfl ?_
      refine jr.iload_n rfl rfl ?_
      obtain ⟨v40, e40⟩ : ∃ z_, M17 ((v12.toNat)) 2 = z_ := ⟨_, rfl⟩
      have b40 : 0 ≤ v40 ∧ v40 ≤ 932 := by rw [← e40]; exact (CI.r hC_M17 k38 (by decide) 2)
      refine jr_v rfl rfl (Or.inl rfl) rfl rfl (Nat.lt_trans (kx_47 k38).1 (by decide)) (kx_47 k38).2 ⟨rfl, Nat.le_of_ble_eq_true rfl, Nat.le_of_ble_eq_true rfl⟩ rfl (jc.deep (c_Program_land_z hC_M17 (FR.rfl _ M17) k38 (by omega) e40 rfl (by have hq0 : M17 413 2 = v12 := e37; omega) w17_0 (fun M39 hC_M39 hf_M39 w39_0 w39_1 => ?_)) (by omega))
      have ht_M39 : FR W_par T M39 := FR.t ht_M17 hf_M39 (kw_sub rfl)
      have hq3b := hq3.t0.tk.imp (fun z => (⟨z.1.1, fun q => by have y0 := z.1.2; have y2 := z.2.2.2.2.1; have y := z.2.2.2.2.2.1 q.1; have y3 := zcv_2.mpr q.2; omega⟩ : _ ∧ ¬ (zso f N (znx f N t2) = 1 ∧ zwd f N (znx f N t2) = 3)))
      have hq4 := CZ.lnd2 (p := (v12.toNat)) hq3b hC_M17 hf_M39 (e37.trans (by omega)) w39_1 List.mem_cons_self w15_1 (by decide)
      have e41 : M39 413 8 = v23 := (hf_M39.g (show kd 413 = 44 from rfl) rfl).trans e23
      have e42 : M39 413 6 = v24 := (hf_M39.g (show kd 413 = 44 from rfl) rfl).trans e24
      have e43 : M39 413 7 = v25 := (hf_M39.g (show kd 413 = 44 from rfl) rfl).trans e25
      exact jr.vreturn rfl rfl (q _ hC_M39 ht_M39  w39_0 (by have hq0 : M39 413 8 = v23 := e41; have hq1 : M39 413 6 = v24 := e42; have hq2 : M39 413 7 = v25 := e43; omega) (CDP.mk ((hq4.wk (fun _ h => List.mem_cons_of_mem _ h)).le h_ee (by omega)) (fun z => ⟨by have y := zr.bl2 z.1.1 z.1.2 z.2; rw [show x + 1 - 1 = dd by omega] at y; exact y, by have g1 := znx_ge f N t2; omega⟩)))
    · refine jr.aload_n rfl rfl ?_
      have e44 : M15 413 2 = v12 := (hf_M15.g (show kd 413 = 44 from rfl) rfl).trans e13
      have e45 : M17 413 2 = v12 := (hf_M17.g (show kd 413 = 44 from rfl) rfl).trans e44
      have k46 : kd (v12).toNat = 47 := ((congrArg (fun z : Int => kd z.toNat) (show M17 413 2 = v12 from e45)).symm.trans (CI.x hC_M17 (show kd 413 = 44 from rfl) 2 rfl (by decide)))
      refine jr.getf (i := 2) (x := v12) (v := .ref (v12.toNat)) rfl rfl (by decide) rfl (by decide) rfl rfl e45 rfl ?_
      refine jr.bipush rfl (by decide) ?_
      refine jr.iconst rfl ?_
      obtain ⟨v48, e48⟩ : ∃ z_, M17 ((v12.toNat)) 2 = z_ := ⟨_, rfl⟩
      have b48 : 0 ≤ v48 ∧ v48 ≤ 932 := by rw [← e48]; exact (CI.r hC_M17 k46 (by decide) 2)
      refine jr_v rfl rfl (Or.inl rfl) rfl rfl (Nat.lt_trans (kx_47 k46).1 (by decide)) (kx_47 k46).2 ⟨rfl, Nat.le_of_ble_eq_true rfl, Nat.le_of_ble_eq_true rfl⟩ rfl (jc.deep (c_Program_emit_z hC_M17 (FR.rfl _ M17) k46 (by omega) (by omega) e48 rfl (by have hq0 : M17 413 2 = v12 := e45; omega) w17_0 (fun r47 M47 hC_M47 hf_M47 z47 w47_0 w47_1 w47_2 => ?_)) (by omega))
      have ht_M47 : FR W_par T M47 := FR.t ht_M17 hf_M47 (kw_sub rfl)
      have hq4 := hq3.tk.imp (fun z => (⟨z.1, by have y2 := z.2.2.2.2.1; omega, by have y2 := z.2.2.2.2.1; have y := z.2.2.2.2.2.1 (by omega); exact zcv_2.mp (by omega)⟩ : _ ∧ zso f N (znx f N t2) = 1 ∧ zwd f N (znx f N t2) = 3))
      have hq5 := CZ.emn (p := (v12.toNat)) hq4 hC_M17 hf_M47 (e45.trans (by omega)) e48 w47_2 (by omega) (by omega)
      clear w47_2
      refine jr.istore rfl (by decide) rfl ?_
      refine jr.aload_n rfl rfl ?_
      have e49 : M47 413 2 = v12 := (hf_M47.g (show kd 413 = 44 from rfl) rfl).trans e45
      have k50 : kd (v12).toNat = 47 := ((congrArg (fun z : Int => kd z.toNat) (show M47 413 2 = v12 from e49)).symm.trans (CI.x hC_M47 (show kd 413 = 44 from rfl) 2 rfl (by decide)))
      refine jr.getf (i := 2) (x := v12) (v := .ref (v12.toNat)) rfl rfl (by decide) rfl (by decide) rfl rfl e49 rfl ?_
      refine jr.iload_n rfl rfl ?_
      obtain ⟨v52, e52⟩ : ∃ z_, M47 ((v12.toNat)) 2 = z_ := ⟨_, rfl⟩
      have b52 : 0 ≤ v52 ∧ v52 ≤ 932 := by rw [← e52]; exact (CI.r hC_M47 k50 (by decide) 2)
      refine jr_v rfl rfl (Or.inl rfl) rfl rfl (Nat.lt_trans (kx_47 k50).1 (by decide)) (kx_47 k50).2 ⟨rfl, Nat.le_of_ble_eq_true rfl, Nat.le_of_ble_eq_true rfl⟩ rfl (jc.deep (c_Program_land_z hC_M47 (FR.rfl _ M47) k50 (by omega) e52 rfl (by have hq0 : M47 413 2 = v12 := e49; omega) w47_0 (fun M51 hC_M51 hf_M51 w51_0 w51_1 => ?_)) (by omega))
      have ht_M51 : FR W_par T M51 := FR.t ht_M47 hf_M51 (kw_sub rfl)
      have hq6 := CZ.lnd2 (p := (v12.toNat)) hq5 hC_M47 hf_M51 (e49.trans (by omega)) w51_1 (List.mem_cons_of_mem _ List.mem_cons_self) w15_1 (by decide)
      refine jr.aload_n rfl rfl ?_
      have e54 : M47 413 0 = v26 := (hf_M47.g (show kd 413 = 44 from rfl) rfl).trans e26
      have e55 : M51 413 0 = v26 := (hf_M51.g (show kd 413 = 44 from rfl) rfl).trans e54
      have e56 : M47 413 8 = v23 := (hf_M47.g (show kd 413 = 44 from rfl) rfl).trans e23
      have e57 : M51 413 8 = v23 := (hf_M51.g (show kd 413 = 44 from rfl) rfl).trans e56
      have e58 : M17 413 3 = v1 := (hf_M17.g (show kd 413 = 44 from rfl) rfl).trans e19
      have e59 : M47 413 3 = v1 := (hf_M47.g (show kd 413 = 44 from rfl) rfl).trans e58
      have e60 : M51 413 3 = v1 := (hf_M51.g (show kd 413 = 44 from rfl) rfl).trans e59
      have e61 : M47 413 6 = v24 := (hf_M47.g (show kd 413 = 44 from rfl) rfl).trans e24
      have e62 : M51 413 6 = v24 := (hf_M51.g (show kd 413 = 44 from rfl) rfl).trans e61
      have e63 : M47 413 7 = v25 := (hf_M47.g (show kd 413 = 44 from rfl) rfl).trans e25
      have e64 : M51 413 7 = v25 := (hf_M51.g (show kd 413 = 44 from rfl) rfl).trans e63
      refine jr_v rfl rfl (Or.inl rfl) rfl rfl (by decide) rfl ⟨rfl, Nat.le_of_ble_eq_true rfl, Nat.le_of_ble_eq_true rfl⟩ rfl (jc.deep (c_Parser_advance_z hC_M51 (FR.rfl _ M51)  e55 e57 (by have hq0 : M51 413 3 = v1 := e60; omega) (TXc.fr (TXc.fr (TXc.fr (TXc.fr (TXc.fr p3 hf_M6 rfl) hf_M15 rfl) hf_M17 rfl) hf_M47 rfl) hf_M51 rfl) (by have hq0 : M51 413 8 = v23 := e57; have hq1 : M51 413 6 = v24 := e62; have hq2 : M51 413 7 = v25 := e64; omega) (fun M53 hC_M53 hf_M53 w53_0 w53_1 => ?_)) (by omega))
      have ht_M53 : FR W_par T M53 := FR.t ht_M51 hf_M53 (kw_sub rfl)
      obtain ⟨v65, e65⟩ : ∃ z_, M53 413 8 = z_ := ⟨_, rfl⟩
      have b65 : 0 ≤ v65 ∧ v65 ≤ 1600 := by rw [← e65]; exact (CI.r hC_M53 (show kd 413 = 44 from rfl) (by decide) 8)
      obtain ⟨v66, e66⟩ : ∃ z_, M53 413 6 = z_ := ⟨_, rfl⟩
      have b66 : (-2147483648) ≤ v66 ∧ v66 ≤ 2147483647 := by rw [← e66]; exact (CI.r hC_M53 (show kd 413 = 44 from rfl) (by decide) 6)
      obtain ⟨v67, e67⟩ : ∃ z_, M53 413 7 = z_ := ⟨_, rfl⟩
      have b67 : 0 ≤ v67 ∧ v67 ≤ 1600 := by rw [← e67]; exact (CI.r hC_M53 (show kd 413 = 44 from rfl) (by decide) 7)
      have hq7 := CZ.adv hq6 hC_M51 hf_M53 e55 e57 w53_0
      clear w53_0
      clear w17_1
      refine jr.aload_n rfl rfl ?_
      refine jr.iload_n rfl rfl ?_
      refine jr.iload_n rfl rfl ?_
      have e69 : M53 413 3 = v1 := (hf_M53.g (show kd 413 = 44 from rfl) rfl).trans e60
      refine jr_v rfl rfl (Or.inl rfl) rfl rfl (by decide) rfl ⟨rfl, Nat.le_of_ble_eq_true rfl, Nat.le_of_ble_eq_true rfl⟩ rfl (jc.deep (ihP.2.2.2.2.1 hC_M53 (FR.rfl _ M53) (by omega) (by omega) (by have hq0 : M53 413 3 = v1 := e69; omega) (MP.fr w51_0 hC_M51 hf_M53 rfl) (by omega) (TXc.fr (TXc.fr (TXc.fr (TXc.fr (TXc.fr (TXc.fr p3 hf_M6 rfl) hf_M15 rfl) hf_M17 rfl) hf_M47 rfl) hf_M51 rfl) hf_M53 rfl) (by have hq0 : M53 413 8 = v65 := e65; have hq1 : M53 413 6 = v66 := e66; have hq2 : M53 413 7 = v67 := e67; omega) hq7 (by omega) (by omega) (fun z g hd => by have y := zr.bel z.1.1.1 z.1.1.2 z.1.2 g (by omega); rw [show x + 1 - 1 + 1 = x + 1 by omega] at y; exact y) (fun z g hd => zr.beld z.1.1.1 z.1.1.2 z.1.2 g (by omega)) (fun z g => zr.belf z.1.1.1 z.1.1.2 z.1.2 g) (fun M68 hC_M68 hf_M68 w68_0 w68_1 w68_2 => ?_)) (by omega))
      have ht_M68 : FR W_par T M68 := FR.t ht_M53 hf_M68 (kw_sub rfl)
      obtain ⟨v70, e70⟩ : ∃ z_, M68 413 8 = z_ := ⟨_, rfl⟩
      have b70 : 0 ≤ v70 ∧ v70 ≤ 1600 := by rw [← e70]; exact (CI.r hC_M68 (show kd 413 = 44 from rfl) (by decide) 8)
      obtain ⟨v71, e71⟩ : ∃ z_, M68 413 6 = z_ := ⟨_, rfl⟩
      have b71 : (-2147483648) ≤ v71 ∧ v71 ≤ 2147483647 := by rw [← e71]; exact (CI.r hC_M68 (show kd 413 = 44 from rfl) (by decide) 6)
      obtain ⟨v72, e72⟩ : ∃ z_, M68 413 7 = z_ := ⟨_, rfl⟩
      have b72 : 0 ≤ v72 ∧ v72 ≤ 1600 := by rw [← e72]; exact (CI.r hC_M68 (show kd 413 = 44 from rfl) (by decide) 7)
      obtain ⟨t3, k3, ak3, hu3, hq8⟩ := w68_2
      refine jr.aload_n rfl rfl ?_
      have e73 : M51 413 2 = v12 := (hf_M51.g (show kd 413 = 44 from rfl) rfl).trans e49
      have e74 : M53 413 2 = v12 := (hf_M53.g (show kd 413 = 44 from rfl) rfl).trans e73
      have e75 : M68 413 2 = v12 := (hf_M68.g (show kd 413 = 44 from rfl) rfl).trans e74
      have k76 : kd (v12).toNat = 47 := ((congrArg (fun z : Int => kd z.toNat) (show M68 413 2 = v12 from e75)).symm.trans (CI.x hC_M68 (show kd 413 = 44 from rfl) 2 rfl (by decide)))
      refine jr.getf (i := 2) (x := v12) (v := .ref (v12.toNat)) rfl rfl (by decide) rfl (by decide) rfl rfl e75 rfl ?_
      refine jr.iload rfl rfl ?_
      obtain ⟨v78, e78⟩ : ∃ z_, M68 ((v12.toNat)) 2 = z_ := ⟨_, rfl⟩
      have b78 : 0 ≤ v78 ∧ v78 ≤ 932 := by rw [← e78]; exact (CI.r hC_M68 k76 (by decide) 2)
      refine jr_v rfl rfl (Or.inl rfl) rfl rfl (Nat.lt_trans (kx_47 k76).1 (by decide)) (kx_47 k76).2 ⟨rfl, Nat.le_of_ble_eq_true rfl, Nat.le_of_ble_eq_true rfl⟩ rfl (jc.deep (c_Program_land_z hC_M68 (FR.rfl _ M68) k76 (by omega) e78 rfl (by have hq0 : M68 413 2 = v12 := e75; omega) w68_0 (fun M77 hC_M77 hf_M77 w77_0 w77_1 => ?_)) (by omega))
      have ht_M77 : FR W_par T M77 := FR.t ht_M68 hf_M77 (kw_sub rfl)
      have hq9 := CZ.lnd2 (p := (v12.toNat)) hq8 hC_M68 hf_M77 (e75.trans (by omega)) w77_1 List.mem_cons_self w47_1 (by decide)
      refine jr.goto rfl rfl ?_
      have e79 : M77 413 8 = v70 := (hf_M77.g (show kd 413 = 44 from rfl) rfl).trans e70
      have e80 : M77 413 6 = v71 := (hf_M77.g (show kd 413 = 44 from rfl) rfl).trans e71
      have e81 : M77 413 7 = v72 := (hf_M77.g (show kd 413 = 44 from rfl) rfl).trans e72
      exact jr.vreturn rfl rfl (q _ hC_M77 ht_M77  w77_0 (by have hq0 : M77 413 8 = v70 := e79; have hq1 : M77 413 6 = v71 := e80; have hq2 : M77 413 7 = v72 := e81; omega) (CDP.mk ((hq9.wk (fun _ h => List.mem_cons_of_mem _ (List.mem_cons_of_mem _ h))).le h_ee (by omega)) (fun z => ⟨by have y := zr.bl3 z.1 z.2; rw [show x + 1 - 1 = dd by omega] at y; exact y, by have g1 := znx_ge f N t3; have g2 := znx_ge f N t2; have g3 := znx_ge f N (znx f N t2); omega⟩)))
