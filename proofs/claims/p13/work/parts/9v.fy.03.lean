section
theorem r_export_L142_x {A : Nat → Option (Nat × (Nat → Int32))} {Q : Option Value → jm → Prop} {M0 : jm} (q : ∀ (r : Int) (M' : jm), RI M' → RH M' → RF M' → 0 ≤ r ∧ r ≤ 1600 → (M' 599 = (exL (u6x M0) (B6x M0) (M0 599) 24).1 ∧ M' 598 1 = (exL (u6x M0) (B6x M0) (M0 599) 24).2 ∧ r = M' 598 1) → (∀ (a : Nat) (i : Int), a ≠ 598 → a ≠ 599 → M' a i = M0 a i) → (∀ (i : Int), i ≠ 1 → M' 598 i = M0 598 i) → Q (some (.int (Int32.ofInt r))) M') (nO : Nat) (ko : ∀ (M : jm) (f : Int), RI M → RH M → RF M → (∀ (a : Nat) (i : Int), a ≠ 598 → a ≠ 599 → M a i = M0 a i) → (∀ (i : Int), i ≠ 1 → M 598 i = M0 598 i) → 0 ≤ f ∧ f ≤ 24 → 0 ≤ M 598 1 ∧ M 598 1 ≤ 1152 → M 598 1 ≤ 48 * f → (M 599 = (exL (u6x M0) (B6x M0) (M0 599) f.toNat).1 ∧ M 598 1 = (exL (u6x M0) (B6x M0) (M0 599) f.toNat).2) → 24 - f ≤ nO → jr A 2 xm_326 7 [(1, .int (Int32.ofInt (f))), (0, .ref (598))] [] M Q) : ∀ (M : jm) (b : Int) (a : Int) (t : Int) (f : Int), RI M → RH M → RF M → (∀ (a : Nat) (i : Int), a ≠ 598 → a ≠ 599 → M a i = M0 a i) → (∀ (i : Int), i ≠ 1 → M 598 i = M0 598 i) → 0 ≤ b ∧ b ≤ 47 → 0 ≤ a ∧ a ≤ 46 → 0 ≤ t ∧ t ≤ 1104 → 0 ≤ f ∧ f ≤ 23 → 24 - (f + 1) ≤ nO → a = 2 * f → b = 2 * f + 1 → t ≤ 48 * f → M 598 1 = t → M 599 = ly0 (exL (u6x M0) (B6x M0) (M0 599) f.toNat).1 t (M0 629 f) (M0 638 f + flg6 M0 f) → t = (exL (u6x M0) (B6x M0) (M0 599) f.toNat).2 ∧ u6x M0 f ≠ 0 → jr A 2 xm_326 142 [(4, .int (Int32.ofInt (b))), (3, .int (Int32.ofInt (a))), (2, .int (Int32.ofInt (t))), (1, .int (Int32.ofInt (f))), (0, .ref (598))] [] M Q := by
    intro M b a t f hI_M hH_M hS_M hF_M hG_M h_b h_a h_t h_f hy0 hy1 hy2 hy3 hy4 hy5 hy6
    refine jr.aload_n rfl rfl ?_
    refine jr.iload_n rfl rfl ?_
    refine jr.iconst rfl ?_
    refine jr.iadd rfl ?_
    refine jr.aload_n rfl rfl ?_
    refine jr.getf (i := 43) (v := .ref 631) rfl rfl (by decide) rfl (by decide) rfl rfl rfl rfl ?_
    refine jr.iload_n rfl rfl ?_
    obtain ⟨v1, e1⟩ : ∃ z, M 631 a = z := ⟨_, rfl⟩
    have b1 : 0 ≤ v1 ∧ v1 ≤ 65535 := by rw [← e1]; exact (by have q := hI_M 631 a (by decide); rw [xri_row rfl rfl] at q; exact q)
    refine jr.iald (i := a) (x := v1) rfl (by decide) rfl (by decide) (by omega) (by omega) e1 ?_
    refine jr_v rfl rfl (Or.inl rfl) rfl rfl (by decide) rfl ⟨rfl, Nat.le_of_ble_eq_true rfl, Nat.le_of_ble_eq_true rfl⟩ rfl (jc.deep (r_tapeTwo_x hI_M hH_M hS_M  (by omega) (by omega)  (fun M2 hI_M2 hH_M2 hS_M2  w2_0 w2_1 => ?_)) (by decide))
    refine jr.aload_n rfl rfl ?_
    refine jr.iload_n rfl rfl ?_
    refine jr.iconst rfl ?_
    refine jr.iadd rfl ?_
    refine jr.aload_n rfl rfl ?_
    refine jr.getf (i := 43) (v := .ref 631) rfl rfl (by decide) rfl (by decide) rfl rfl rfl rfl ?_
    refine jr.iload rfl rfl ?_
    obtain ⟨v3, e3⟩ : ∃ z, M 631 b = z := ⟨_, rfl⟩
    have b3 : 0 ≤ v3 ∧ v3 ≤ 65535 := by rw [← e3]; exact (by have q := hI_M 631 b (by decide); rw [xri_row rfl rfl] at q; exact q)
    have e4 : M2 631 b = v3 := ((w2_1 631 b (by decide)).trans e3)
    refine jr.iald (i := b) (x := v3) rfl (by decide) rfl (by decide) (by omega) (by omega) e4 ?_
    refine jr_v rfl rfl (Or.inl rfl) rfl rfl (by decide) rfl ⟨rfl, Nat.le_of_ble_eq_true rfl, Nat.le_of_ble_eq_true rfl⟩ rfl (jc.deep (r_tapeTwo_x hI_M2 hH_M2 hS_M2  (by omega) (by omega)  (fun M5 hI_M5 hH_M5 hS_M5  w5_0 w5_1 => ?_)) (by decide))
    refine jr.aload_n rfl rfl ?_
    refine jr.iload_n rfl rfl ?_
    refine jr.bipush rfl (by decide) ?_
    refine jr.iadd rfl ?_
    refine jr.aload_n rfl rfl ?_
    refine jr.getf (i := 47) (v := .ref 635) rfl rfl (by decide) rfl (by decide) rfl rfl rfl rfl ?_
    refine jr.iload_n rfl rfl ?_
    obtain ⟨v6, e6⟩ : ∃ z, M 635 a = z := ⟨_, rfl⟩
    have b6 : 0 ≤ v6 ∧ v6 ≤ 65535 := by rw [← e6]; exact (by have q := hI_M 635 a (by decide); rw [xri_row rfl rfl] at q; exact q)
    have e7 : M2 635 a = v6 := ((w2_1 635 a (by decide)).trans e6)
    have e8 : M5 635 a = v6 := ((w5_1 635 a (by decide)).trans e7)
    refine jr.iald (i := a) (x := v6) rfl (by decide) rfl (by decide) (by omega) (by omega) e8 ?_
    refine jr_v rfl rfl (Or.inl rfl) rfl rfl (by decide) rfl ⟨rfl, Nat.le_of_ble_eq_true rfl, Nat.le_of_ble_eq_true rfl⟩ rfl (jc.deep (r_tapeTwo_x hI_M5 hH_M5 hS_M5  (by omega) (by omega)  (fun M9 hI_M9 hH_M9 hS_M9  w9_0 w9_1 => ?_)) (by decide))
    refine jr.aload_n rfl rfl ?_
    refine jr.iload_n rfl rfl ?_
    refine jr.bipush rfl (by decide) ?_
    refine jr.iadd rfl ?_
    refine jr.aload_n rfl rfl ?_
    refine jr.getf (i := 47) (v := .ref 635) rfl rfl (by decide) rfl (by decide) rfl rfl rfl rfl ?_
    refine jr.iload rfl rfl ?_
    obtain ⟨v10, e10⟩ : ∃ z, M 635 b = z := ⟨_, rfl⟩
    have b10 : 0 ≤ v10 ∧ v10 ≤ 65535 := by rw [← e10]; exact (by have q := hI_M 635 b (by decide); rw [xri_row rfl rfl] at q; exact q)
    have e11 : M2 635 b = v10 := ((w2_1 635 b (by decide)).trans e10)
    have e12 : M5 635 b = v10 := ((w5_1 635 b (by decide)).trans e11)
    have e13 : M9 635 b = v10 := ((w9_1 635 b (by decide)).trans e12)
    refine jr.iald (i := b) (x := v10) rfl (by decide) rfl (by decide) (by omega) (by omega) e13 ?_
    refine jr_v rfl rfl (Or.inl rfl) rfl rfl (by decide) rfl ⟨rfl, Nat.le_of_ble_eq_true rfl, Nat.le_of_ble_eq_true rfl⟩ rfl (jc.deep (r_tapeTwo_x hI_M9 hH_M9 hS_M9  (by omega) (by omega)  (fun M14 hI_M14 hH_M14 hS_M14  w14_0 w14_1 => ?_)) (by decide))
    refine jr.aload_n rfl rfl ?_
    refine jr.iload_n rfl rfl ?_
    refine jr.bipush rfl (by decide) ?_
    refine jr.iadd rfl ?_
    refine jr.aload_n rfl rfl ?_
    refine jr.getf (i := 42) (v := .ref 630) rfl rfl (by decide) rfl (by decide) rfl rfl rfl rfl ?_
    refine jr.iload_n rfl rfl ?_
    obtain ⟨v15, e15⟩ : ∃ z, M 630 a = z := ⟨_, rfl⟩
    have b15 : (-9223372036854775808) ≤ v15 ∧ v15 ≤ 9223372036854775807 := by rw [← e15]; exact (by have q := hI_M 630 a (by decide); rw [xri_row rfl rfl] at q; exact q)
    have e16 : M2 630 a = v15 := ((w2_1 630 a (by decide)).trans e15)
    have e17 : M5 630 a = v15 := ((w5_1 630 a (by decide)).trans e16)
    have e18 : M9 630 a = v15 := ((w9_1 630 a (by decide)).trans e17)
    have e19 : M14 630 a = v15 := ((w14_1 630 a (by decide)).trans e18)
    refine jr.lald (i := a) (x := v15) rfl (by decide) rfl (by decide) (by omega) (by omega) e19 ?_
    refine jr.bipush rfl (by decide) ?_
    refine jr.lshr rfl ?_
    have b20 : jl_shr v15 32 = v15 / 4294967296 := jl_shr_ex 32 (by decide) (by omega) (by omega)
    generalize jl_shr v15 32 = v20 at b20 ⊢
    refine jr_v rfl rfl (Or.inl rfl) rfl rfl (by decide) rfl ⟨rfl, Nat.le_of_ble_eq_true rfl, Nat.le_of_ble_eq_true rfl⟩ rfl (jc.deep (r_tapeFour_x hI_M14 hH_M14 hS_M14  (by omega) (by omega)  (fun M21 hI_M21 hH_M21 hS_M21  w21_0 w21_1 => ?_)) (by decide))
    refine jr.aload_n rfl rfl ?_
    refine jr.iload_n rfl rfl ?_
    refine jr.bipush rfl (by decide) ?_
    refine jr.iadd rfl ?_
    refine jr.aload_n rfl rfl ?_
    refine jr.getf (i := 42) (v := .ref 630) rfl rfl (by decide) rfl (by decide) rfl rfl rfl rfl ?_
    refine jr.iload_n rfl rfl ?_
    have e22 : M21 630 a = v15 := ((w21_1 630 a (by decide)).trans e19)
    refine jr.lald (i := a) (x := v15) rfl (by decide) rfl (by decide) (by omega) (by omega) e22 ?_
    refine jr_v rfl rfl (Or.inl rfl) rfl rfl (by decide) rfl ⟨rfl, Nat.le_of_ble_eq_true rfl, Nat.le_of_ble_eq_true rfl⟩ rfl (jc.deep (r_tapeFour_x hI_M21 hH_M21 hS_M21  (by omega) (by omega)  (fun M23 hI_M23 hH_M23 hS_M23  w23_0 w23_1 => ?_)) (by decide))
    refine jr.aload_n rfl rfl ?_
    refine jr.iload_n rfl rfl ?_
    refine jr.bipush rfl (by decide) ?_
    refine jr.iadd rfl ?_
    refine jr.aload_n rfl rfl ?_
    refine jr.getf (i := 42) (v := .ref 630) rfl rfl (by decide) rfl (by decide) rfl rfl rfl rfl ?_
    refine jr.iload rfl rfl ?_
    obtain ⟨v24, e24⟩ : ∃ z, M 630 b = z := ⟨_, rfl⟩
    have b24 : (-9223372036854775808) ≤ v24 ∧ v24 ≤ 9223372036854775807 := by rw [← e24]; exact (by have q := hI_M 630 b (by decide); rw [xri_row rfl rfl] at q; exact q)
    have e25 : M2 630 b = v24 := ((w2_1 630 b (by decide)).trans e24)
    have e26 : M5 630 b = v24 := ((w5_1 630 b (by decide)).trans e25)
    have e27 : M9 630 b = v24 := ((w9_1 630 b (by decide)).trans e26)
    have e28 : M14 630 b = v24 := ((w14_1 630 b (by decide)).trans e27)
    have e29 : M21 630 b = v24 := ((w21_1 630 b (by decide)).trans e28)
    have e30 : M23 630 b = v24 := ((w23_1 630 b (by decide)).trans e29)
    refine jr.lald (i := b) (x := v24) rfl (by decide) rfl (by decide) (by omega) (by omega) e30 ?_
    refine jr.bipush rfl (by decide) ?_
    refine jr.lshr rfl ?_
    have b31 : jl_shr v24 32 = v24 / 4294967296 := jl_shr_ex 32 (by decide) (by omega) (by omega)
    generalize jl_shr v24 32 = v31 at b31 ⊢
    refine jr_v rfl rfl (Or.inl rfl) rfl rfl (by decide) rfl ⟨rfl, Nat.le_of_ble_eq_true rfl, Nat.le_of_ble_eq_true rfl⟩ rfl (jc.deep (r_tapeFour_x hI_M23 hH_M23 hS_M23  (by omega) (by omega)  (fun M32 hI_M32 hH_M32 hS_M32  w32_0 w32_1 => ?_)) (by decide))
    refine jr.aload_n rfl rfl ?_
    refine jr.iload_n rfl rfl ?_
    refine jr.bipush rfl (by decide) ?_
    refine jr.iadd rfl ?_
    refine jr.aload_n rfl rfl ?_
    refine jr.getf (i := 42) (v := .ref 630) rfl rfl (by decide) rfl (by decide) rfl rfl rfl rfl ?_
    refine jr.iload rfl rfl ?_
    have e33 : M32 630 b = v24 := ((w32_1 630 b (by decide)).trans e30)
    refine jr.lald (i := b) (x := v24) rfl (by decide) rfl (by decide) (by omega) (by omega) e33 ?_
    refine jr_v rfl rfl (Or.inl rfl) rfl rfl (by decide) rfl ⟨rfl, Nat.le_of_ble_eq_true rfl, Nat.le_of_ble_eq_true rfl⟩ rfl (jc.deep (r_tapeFour_x hI_M32 hH_M32 hS_M32  (by omega) (by omega)  (fun M34 hI_M34 hH_M34 hS_M34  w34_0 w34_1 => ?_)) (by decide))
    refine jr.aload_n rfl rfl ?_
    refine jr.iload_n rfl rfl ?_
    refine jr.bipush rfl (by decide) ?_
    refine jr.iadd rfl ?_
    refine jr.aload_n rfl rfl ?_
    refine jr.getf (i := 44) (v := .ref 632) rfl rfl (by decide) rfl (by decide) rfl rfl rfl rfl ?_
    refine jr.iload_n rfl rfl ?_
    obtain ⟨v35, e35⟩ : ∃ z, M 632 a = z := ⟨_, rfl⟩
    have b35 : 0 ≤ v35 ∧ v35 ≤ 1 := by rw [← e35]; exact (by have q := hI_M 632 a (by decide); rw [xri_row rfl rfl] at q; exact q)
    have e36 : M2 632 a = v35 := ((w2_1 632 a (by decide)).trans e35)
    have e37 : M5 632 a = v35 := ((w5_1 632 a (by decide)).trans e36)
    have e38 : M9 632 a = v35 := ((w9_1 632 a (by decide)).trans e37)
    have e39 : M14 632 a = v35 := ((w14_1 632 a (by decide)).trans e38)
    have e40 : M21 632 a = v35 := ((w21_1 632 a (by decide)).trans e39)
    have e41 : M23 632 a = v35 := ((w23_1 632 a (by decide)).trans e40)
    have e42 : M32 632 a = v35 := ((w32_1 632 a (by decide)).trans e41)
    have e43 : M34 632 a = v35 := ((w34_1 632 a (by decide)).trans e42)
    refine jr.zald (i := a) (x := v35) rfl (by decide) rfl (by decide) (by omega) (by omega) e43 ?_
    refine jr.if_eq rfl rfl (by omega) (fun h273 => ?_) (fun h273 => ?_)
    · refine jr.lconst (x := 0) rfl (by decide) ?_
      obtain ⟨v44, e44⟩ : ∃ z, M 598 1 = z := ⟨_, rfl⟩
      have b44 : 0 ≤ v44 ∧ v44 ≤ 1600 := by rw [← e44]; exact hI_M 598 1 (by decide)
      have e45 : M2 598 1 = v44 := ((w2_1 598 1 (by decide)).trans e44)
      have e46 : M5 598 1 = v44 := ((w5_1 598 1 (by decide)).trans e45)
      have e47 : M9 598 1 = v44 := ((w9_1 598 1 (by decide)).trans e46)
      have e48 : M14 598 1 = v44 := ((w14_1 598 1 (by decide)).trans e47)
      have e49 : M21 598 1 = v44 := ((w21_1 598 1 (by decide)).trans e48)
      have e50 : M23 598 1 = v44 := ((w23_1 598 1 (by decide)).trans e49)
      have e51 : M32 598 1 = v44 := ((w32_1 598 1 (by decide)).trans e50)
      have e52 : M34 598 1 = v44 := ((w34_1 598 1 (by decide)).trans e51)
      refine jr.pick (ls := [_, _, _, _, _]) [0, 1, 2, 3, 4] rfl rfl ?_
      exact r_export_L287_x q nO ko M34 b a t f (t + 26) 0 hI_M34 hH_M34 hS_M34  (fun a i f598 f599 => ((w34_1 a i f599).trans ((w32_1 a i f599).trans ((w23_1 a i f599).trans ((w21_1 a i f599).trans ((w14_1 a i f599).trans ((w9_1 a i f599).trans ((w5_1 a i f599).trans ((w2_1 a i f599).trans (hF_M a i f598 f599)))))))))) (fun i g1 => ((w34_1 598 i (by decide)).trans ((w32_1 598 i (by decide)).trans ((w23_1 598 i (by decide)).trans ((w21_1 598 i (by decide)).trans ((w14_1 598 i (by decide)).trans ((w9_1 598 i (by decide)).trans ((w5_1 598 i (by decide)).trans ((w2_1 598 i (by decide)).trans (hG_M i g1)))))))))) (by omega) (by omega) (by omega) (by omega) (by omega) (by omega) (by omega) (by omega) (by omega) (by omega) ((e52).trans (by omega)) (by omega) hy6 (by unfold ry1; rw [w34_0, w32_0, w23_0, w21_0, w14_0, w9_0, w5_0, w2_0, hy5, (show M0 631 (2 * f) = v1 from (by rw [← hy1]; exact (hF_M 631 a (by decide) (by decide)).symm.trans e1)), (show M0 631 (2 * f + 1) = v3 from (by rw [← hy2]; exact (hF_M 631 b (by decide) (by decide)).symm.trans e3)), (show M0 635 (2 * f) = v6 from (by rw [← hy1]; exact (hF_M 635 a (by decide) (by decide)).symm.trans e6)), (show M0 635 (2 * f + 1) = v10 from (by rw [← hy2]; exact (hF_M 635 b (by decide) (by decide)).symm.trans e10)), (show M0 630 (2 * f) = v15 from (by rw [← hy1]; exact (hF_M 630 a (by decide) (by decide)).symm.trans e15)), (show M0 630 (2 * f + 1) = v24 from (by rw [← hy2]; exact (hF_M 630 b (by decide) (by decide)).symm.trans e24)), b20, b31]) (by unfold l6x; rw [(show M0 632 (2 * f) = v35 from (by rw [← hy1]; exact (hF_M 632 a (by decide) (by decide)).symm.trans e35))]; first | (rw [if_pos (by omega)]) | (rw [if_neg (by omega)]))
    · have sx273 : (1 : Int) ≤ v35 := by omega
      clear h273
      refine jr.aload_n rfl rfl ?_
      refine jr.getf (i := 45) (v := .ref 633) rfl rfl (by decide) rfl (by decide) rfl rfl rfl rfl ?_
      refine jr.iload_n rfl rfl ?_
      obtain ⟨v53, e53⟩ : ∃ z, M 633 a = z := ⟨_, rfl⟩
      have b53 : (-2147483648) ≤ v53 ∧ v53 ≤ 2147483647 := by rw [← e53]; exact (by have q := hI_M 633 a (by decide); rw [xri_row rfl rfl] at q; exact q)
      have e54 : M2 633 a = v53 := ((w2_1 633 a (by decide)).trans e53)
      have e55 : M5 633 a = v53 := ((w5_1 633 a (by decide)).trans e54)
      have e56 : M9 633 a = v53 := ((w9_1 633 a (by decide)).trans e55)
      have e57 : M14 633 a = v53 := ((w14_1 633 a (by decide)).trans e56)
      have e58 : M21 633 a = v53 := ((w21_1 633 a (by decide)).trans e57)
      have e59 : M23 633 a = v53 := ((w23_1 633 a (by decide)).trans e58)
      have e60 : M32 633 a = v53 := ((w32_1 633 a (by decide)).trans e59)
      have e61 : M34 633 a = v53 := ((w34_1 633 a (by decide)).trans e60)
      refine jr.iald (i := a) (x := v53) rfl (by decide) rfl (by decide) (by omega) (by omega) e61 ?_
      refine jr.i2l rfl (by omega) ?_
      refine jr.goto rfl rfl ?_
      obtain ⟨v62, e62⟩ : ∃ z, M 598 1 = z := ⟨_, rfl⟩
      have b62 : 0 ≤ v62 ∧ v62 ≤ 1600 := by rw [← e62]; exact hI_M 598 1 (by decide)
      have e63 : M2 598 1 = v62 := ((w2_1 598 1 (by decide)).trans e62)
      have e64 : M5 598 1 = v62 := ((w5_1 598 1 (by decide)).trans e63)
      have e65 : M9 598 1 = v62 := ((w9_1 598 1 (by decide)).trans e64)
      have e66 : M14 598 1 = v62 := ((w14_1 598 1 (by decide)).trans e65)
      have e67 : M21 598 1 = v62 := ((w21_1 598 1 (by decide)).trans e66)
      have e68 : M23 598 1 = v62 := ((w23_1 598 1 (by decide)).trans e67)
      have e69 : M32 598 1 = v62 := ((w32_1 598 1 (by decide)).trans e68)
      have e70 : M34 598 1 = v62 := ((w34_1 598 1 (by decide)).trans e69)
      refine jr.pick (ls := [_, _, _, _, _]) [0, 1, 2, 3, 4] rfl rfl ?_
      exact r_export_L287_x q nO ko M34 b a t f (t + 26) v53 hI_M34 hH_M34 hS_M34  (fun a i f598 f599 => ((w34_1 a i f599).trans ((w32_1 a i f599).trans ((w23_1 a i f599).trans ((w21_1 a i f599).trans ((w14_1 a i f599).trans ((w9_1 a i f599).trans ((w5_1 a i f599).trans ((w2_1 a i f599).trans (hF_M a i f598 f599)))))))))) (fun i g1 => ((w34_1 598 i (by decide)).trans ((w32_1 598 i (by decide)).trans ((w23_1 598 i (by decide)).trans ((w21_1 598 i (by decide)).trans ((w14_1 598 i (by decide)).trans ((w9_1 598 i (by decide)).trans ((w5_1 598 i (by decide)).trans ((w2_1 598 i (by decide)).trans (hG_M i g1)))))))))) (by omega) (by omega) (by omega) (by omega) (by omega) (by omega) (by omega) (by omega) (by omega) (by omega) ((e70).trans (by omega)) (by omega) hy6 (by unfold ry1; rw [w34_0, w32_0, w23_0, w21_0, w14_0, w9_0, w5_0, w2_0, hy5, (show M0 631 (2 * f) = v1 from (by rw [← hy1]; exact (hF_M 631 a (by decide) (by decide)).symm.trans e1)), (show M0 631 (2 * f + 1) = v3 from (by rw [← hy2]; exact (hF_M 631 b (by decide) (by decide)).symm.trans e3)), (show M0 635 (2 * f) = v6 from (by rw [← hy1]; exact (hF_M 635 a (by decide) (by decide)).symm.trans e6)), (show M0 635 (2 * f + 1) = v10 from (by rw [← hy2]; exact (hF_M 635 b (by decide) (by decide)).symm.trans e10)), (show M0 630 (2 * f) = v15 from (by rw [← hy1]; exact (hF_M 630 a (by decide) (by decide)).symm.trans e15)), (show M0 630 (2 * f + 1) = v24 from (by rw [← hy2]; exact (hF_M 630 b (by decide) (by decide)).symm.trans e24)), b20, b31]) (by unfold l6x; rw [(show M0 632 (2 * f) = v35 from (by rw [← hy1]; exact (hF_M 632 a (by decide) (by decide)).symm.trans e35)), (show M0 633 (2 * f) = v53 from (by rw [← hy1]; exact (hF_M 633 a (by decide) (by decide)).symm.trans e53))]; first | (rw [if_pos (by omega)]) | (rw [if_neg (by omega)]))
end
