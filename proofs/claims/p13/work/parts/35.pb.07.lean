theorem r_takeOperand_L195 {A : Nat → Option (Nat × (Nat → Int32))} {Q : Option Value → jm → Prop} {b kk : Int} {M0 : jm} (q : ∀ (r : Int) (M' : jm), RI M' → RH M' → RF M' → 0 ≤ r ∧ r ≤ 1 → (BS M' ∨ (GS M' b r kk ∧ TK M' < TK M0)) → TK M' ≤ TK M0 → M' 598 73 ≤ M' 598 72 → (M' 598 80 ≠ 0 ∨ TK M' < TK M0) → CP M0 M' → M0 598 89 ≤ M' 598 89 → (∀ (a : Nat) (i : Int), a ≠ 598 → a ≠ 659 → a ≠ 660 → a ≠ 664 → a ≠ 666 → a ≠ 667 → M' a i = M0 a i) → (∀ (i : Int), i ≠ 73 → i ≠ 74 → i ≠ 75 → i ≠ 76 → i ≠ 77 → i ≠ 78 → i ≠ 79 → i ≠ 80 → i ≠ 81 → i ≠ 89 → i ≠ 90 → i ≠ 100 → i ≠ 102 → M' 598 i = M0 598 i) → Q (some (.int (Int32.ofInt r))) M') : ∀ (M : jm) , RI M → RH M → RF M → (∀ (a : Nat) (i : Int), a ≠ 598 → a ≠ 659 → a ≠ 660 → a ≠ 664 → a ≠ 666 → a ≠ 667 → M a i = M0 a i) → (∀ (i : Int), i ≠ 73 → i ≠ 74 → i ≠ 75 → i ≠ 76 → i ≠ 77 → i ≠ 78 → i ≠ 79 → i ≠ 80 → i ≠ 81 → i ≠ 89 → i ≠ 90 → i ≠ 100 → i ≠ 102 → M 598 i = M0 598 i) → GS M b 0 kk → TK M = TK M0 → CP M0 M → M 598 89 = M0 598 89 → M 598 74 = 1 → 25 ≤ M 598 76 ∧ M 598 76 ≤ 30 → jr A 5 xm_360 195 [(0, .ref (598))] [] M Q := by
    intro M  hI_M hH_M hS_M hF_M hG_M  hy0 hy1 hy2 hy3 hy4 hy5
    have p0 := hy0
    have hCP := hy2
    obtain ⟨gs1, gs2, gs3, gs4, gs5, gs6⟩ := id hy0
    have hE := gs2
    have sl := ES.sgle gs2
    have bb := ES.bb gs2
    have kb := ES.kz gs2
    have b107 : (0 : Int) ≤ M 598 107 ∧ M 598 107 ≤ 16 := hI_M 598 107 (by decide)
    have b73 : (0 : Int) ≤ M 598 73 ∧ M 598 73 ≤ 1600 := hI_M 598 73 (by decide)
    have b88 : (0 : Int) ≤ M 598 88 ∧ M 598 88 ≤ 16 := hI_M 598 88 (by decide)
    have b100 : (0 : Int) ≤ M 598 100 ∧ M 598 100 ≤ 13 := hI_M 598 100 (by decide)
    refine jr.aload_n rfl rfl ?_
    obtain ⟨v1, e1⟩ : ∃ z, M 598 76 = z := ⟨_, rfl⟩
    have b1 : (-1) ≤ v1 ∧ v1 ≤ 68 := by rw [← e1]; exact hI_M 598 76 (by decide)
    refine jr.getf (i := 76) (x := v1) (v := .int (Int32.ofInt (v1))) rfl rfl (by decide) rfl (by decide) rfl rfl e1 rfl ?_
    refine jr.istore_n (ls' := [_, _]) rfl (by decide) rfl ?_
    refine jr.aload_n rfl rfl ?_
    obtain ⟨v3, e3⟩ : ∃ z, M 598 89 = z := ⟨_, rfl⟩
    have b3 : 0 ≤ v3 ∧ v3 ≤ 301 := by rw [← e3]; exact hI_M 598 89 (by decide)
    obtain ⟨v4, e4⟩ : ∃ z, M 598 73 = z := ⟨_, rfl⟩
    have b4 : 0 ≤ v4 ∧ v4 ≤ 1600 := by rw [← e4]; exact hI_M 598 73 (by decide)
    obtain ⟨v7, e7⟩ : ∃ z, M 598 100 = z := ⟨_, rfl⟩
    have b7 : 0 ≤ v7 ∧ v7 ≤ 13 := by rw [← e7]; exact hI_M 598 100 (by decide)
    refine jr_v rfl rfl (Or.inl rfl) rfl rfl (by decide) rfl ⟨rfl, Nat.le_of_ble_eq_true rfl, Nat.le_of_ble_eq_true rfl⟩ rfl (jc.deep (r_node hI_M hH_M hS_M   (by rw [e3]; omega) (fun M2 hI_M2 hH_M2 hS_M2  w2_0 w2_1 w2_2 w2_3 w2_4 w2_5 => ?_)) (by decide))
    have tk2 : TK M2 = TK M := TK.fr (w2_5 73 (by decide) (by decide) (by decide)) (w2_5 74 (by decide) (by decide) (by decide))
    have y5 : M 598 73 = v4 := e4
    have y6 : M 598 89 = v3 := e3
    have y8 : M 598 100 = v7 := e7
    have x2_73 := w2_5 73 (by decide) (by decide) (by decide)
    have x2_100 := w2_5 100 (by decide) (by decide) (by decide)
    have hE := ES.fr2 hE w2_4 (w2_5 88 (by decide) (by decide) (by decide)) (w2_5 90 (by decide) (by decide) (by decide)) (w2_5 101 (by decide) (by decide) (by decide)) (w2_5 102 (by decide) (by decide) (by decide)) (w2_5 107 (by decide) (by decide) (by decide)) (k' := kk + 4) (d' := 0) (z' := 0) (by omega) (by omega) (by omega) (by omega)
    refine jr.aload_n rfl rfl ?_
    refine jr_v rfl rfl (Or.inl rfl) rfl rfl (by decide) rfl ⟨rfl, Nat.le_of_ble_eq_true rfl, Nat.le_of_ble_eq_true rfl⟩ rfl (jc.deep (c_good hI_M2  (fun t205_0 => ?_) (fun f205_0 => ?_)) (by decide))
    · have w2_1r := Classical.byContradiction (fun z => w2_1 z t205_0)
      have w2_2r := w2_2 t205_0
      clear w2_1 w2_2 w2_3
      refine jr.if_eq rfl rfl (by omega) (fun h => absurd h (by decide)) (fun _ => ?_)
      refine jr.aload_n rfl rfl ?_
      have e10 : M2 598 73 = v4 := ((w2_5 73 (by decide) (by decide) (by decide)).trans e4)
      obtain ⟨v11, e11⟩ : ∃ z, M 598 72 = z := ⟨_, rfl⟩
      have b11 : 0 ≤ v11 ∧ v11 ≤ 1600 := by rw [← e11]; exact hI_M 598 72 (by decide)
      have e12 : M2 598 72 = v11 := ((w2_5 72 (by decide) (by decide) (by decide)).trans e11)
      obtain ⟨v14, e14⟩ : ∃ z, M2 598 89 = z := ⟨_, rfl⟩
      have b14 : 0 ≤ v14 ∧ v14 ≤ 301 := by rw [← e14]; exact hI_M2 598 89 (by decide)
      have e16 : M2 598 100 = v7 := ((w2_5 100 (by decide) (by decide) (by decide)).trans e7)
      refine jr_v rfl rfl (Or.inl rfl) rfl rfl (by decide) rfl ⟨rfl, Nat.le_of_ble_eq_true rfl, Nat.le_of_ble_eq_true rfl⟩ rfl (jc.deep (r_next hI_M2 hH_M2 hS_M2   (by rw [e10, e12]; omega) (fun M9 hI_M9 hH_M9 hS_M9  w9_0 w9_1 w9_2 w9_3 w9_4 w9_5 w9_6 => ?_)) (by decide))
      have y13 : M2 598 73 = v4 := e10
      have y15 : M2 598 89 = v14 := e14
      have y17 : M2 598 100 = v7 := e16
      have x9_89 := w9_6 89 (by decide) (by decide) (by decide) (by decide) (by decide) (by decide) (by decide)
      have x9_100 := w9_6 100 (by decide) (by decide) (by decide) (by decide) (by decide) (by decide) (by decide)
      have hE := ES.fr2 hE w9_5 (w9_6 88 (by decide) (by decide) (by decide) (by decide) (by decide) (by decide) (by decide)) (w9_6 90 (by decide) (by decide) (by decide) (by decide) (by decide) (by decide) (by decide)) (w9_6 101 (by decide) (by decide) (by decide) (by decide) (by decide) (by decide) (by decide)) (w9_6 102 (by decide) (by decide) (by decide) (by decide) (by decide) (by decide) (by decide)) (w9_6 107 (by decide) (by decide) (by decide) (by decide) (by decide) (by decide) (by decide)) (k' := kk + 4) (d' := 0) (z' := 0) (by omega) (by omega) (by omega) (by omega)
      refine jr.aload_n rfl rfl ?_
      refine jr.bipush rfl (by decide) ?_
      refine jr.iload_n rfl rfl ?_
      obtain ⟨v18, e18⟩ : ∃ z, M 598 102 = z := ⟨_, rfl⟩
      have b18 : 0 ≤ v18 ∧ v18 ≤ 400 := by rw [← e18]; exact hI_M 598 102 (by decide)
      have e19 : M2 598 102 = v18 := ((w2_5 102 (by decide) (by decide) (by decide)).trans e18)
      have e20 : M9 598 102 = v18 := ((w9_6 102 (by decide) (by decide) (by decide) (by decide) (by decide) (by decide) (by decide)).trans e19)
      refine jr_v rfl rfl (Or.inl rfl) rfl rfl (by decide) rfl ⟨rfl, Nat.le_of_ble_eq_true rfl, Nat.le_of_ble_eq_true rfl⟩ rfl (jc.deep (r_push e20 (by omega) (by omega) (by omega) ?_) (by decide))
      have hE := ES.deep hE e20 40 v1 1 (kk + 2) (by omega) (by omega) (by omega)
      refine jr.aload_n rfl rfl ?_
      refine jr.bipush rfl (by decide) ?_
      obtain ⟨v22, e22⟩ : ∃ z, M9 598 73 = z := ⟨_, rfl⟩
      have b22 : 0 ≤ v22 ∧ v22 ≤ 1600 := by rw [← e22]; exact hI_M9 598 73 (by decide)
      have e23 : M9 598 72 = v11 := ((w9_6 72 (by decide) (by decide) (by decide) (by decide) (by decide) (by decide) (by decide)).trans e12)
      obtain ⟨v24, e24⟩ : ∃ z, M2 598 80 = z := ⟨_, rfl⟩
      have b24 : 0 ≤ v24 ∧ v24 ≤ 7 := by rw [← e24]; exact hI_M2 598 80 (by decide)
      have e25 : M9 598 80 = v24 := ((w9_6 80 (by decide) (by decide) (by decide) (by decide) (by decide) (by decide) (by decide)).trans e24)
      have e26 : M9 598 100 = v7 := ((w9_6 100 (by decide) (by decide) (by decide) (by decide) (by decide) (by decide) (by decide)).trans e16)
      obtain ⟨v28, e28⟩ : ∃ z, M9 598 74 = z := ⟨_, rfl⟩
      have b28 : 0 ≤ v28 ∧ v28 ≤ 4 := by rw [← e28]; exact hI_M9 598 74 (by decide)
      obtain ⟨v30, e30⟩ : ∃ z, M9 598 79 = z := ⟨_, rfl⟩
      have b30 : 0 ≤ v30 ∧ v30 ≤ 255 := by rw [← e30]; exact hI_M9 598 79 (by decide)
      refine jr_v rfl rfl (Or.inl rfl) rfl rfl (by decide) rfl ⟨rfl, Nat.le_of_ble_eq_true rfl, Nat.le_of_ble_eq_true rfl⟩ rfl (jc.deep (r_wantDeeper (RI.u (RI.u (RI.u (RI.u hI_M9 (a := 664) (i := v18) (by rw [xri_row rfl rfl]; show (0 : Int) ≤ _ ∧ _ ≤ (255 : Int); omega)) (a := 666) (i := v18) (by rw [xri_row rfl rfl]; show (-1 : Int) ≤ _ ∧ _ ≤ (68 : Int); omega)) (a := 667) (i := v18) (by rw [xri_row rfl rfl]; show (0 : Int) ≤ _ ∧ _ ≤ (4 : Int); omega)) (a := 598) (i := 102) (show (0 : Int) ≤ _ ∧ _ ≤ (400 : Int) from by omega)) (RH.o (RH.o (RH.o (RH.o hH_M9 (by decide) (by decide) (by decide)) (by decide) (by decide) (by decide)) (by decide) (by decide) (by decide)) (by decide) (by decide) (by decide)) (RF.o (RF.o (RF.o (RF.o hS_M9 (by decide) (by decide)) (by decide) (by decide)) (by decide) (by decide)) (by decide) (by decide))  (by omega) (by rw [((ju_i _ _ (by decide)).trans ((ju_c _ _ (by decide)).trans ((ju_c _ _ (by decide)).trans ((ju_c _ _ (by decide)).trans e22)))), ((ju_i _ _ (by decide)).trans ((ju_c _ _ (by decide)).trans ((ju_c _ _ (by decide)).trans ((ju_c _ _ (by decide)).trans e23))))]; omega) (by rw [((ju_i _ _ (by decide)).trans ((ju_c _ _ (by decide)).trans ((ju_c _ _ (by decide)).trans ((ju_c _ _ (by decide)).trans e25)))), ((ju_i _ _ (by decide)).trans ((ju_c _ _ (by decide)).trans ((ju_c _ _ (by decide)).trans ((ju_c _ _ (by decide)).trans e26))))]; intro q; omega) (fun M21 hI_M21 hH_M21 hS_M21  w21_0 w21_1 w21_2 w21_3 w21_4 w21_5 w21_6 w21_7 w21_8 w21_9 w21_10 => ?_)) (by decide))
      have y27 : (ju (ju (ju (ju M9 664 v18 40) 666 v18 v1) 667 v18 1) 598 102 (v18 + 1)) 598 73 = v22 := ((ju_i _ _ (by decide)).trans ((ju_c _ _ (by decide)).trans ((ju_c _ _ (by decide)).trans ((ju_c _ _ (by decide)).trans e22))))
      have y29 : (ju (ju (ju (ju M9 664 v18 40) 666 v18 v1) 667 v18 1) 598 102 (v18 + 1)) 598 74 = v28 := ((ju_i _ _ (by decide)).trans ((ju_c _ _ (by decide)).trans ((ju_c _ _ (by decide)).trans ((ju_c _ _ (by decide)).trans e28))))
      have y31 : (ju (ju (ju (ju M9 664 v18 40) 666 v18 v1) 667 v18 1) 598 102 (v18 + 1)) 598 79 = v30 := ((ju_i _ _ (by decide)).trans ((ju_c _ _ (by decide)).trans ((ju_c _ _ (by decide)).trans ((ju_c _ _ (by decide)).trans e30))))
      have y32 : (ju (ju (ju (ju M9 664 v18 40) 666 v18 v1) 667 v18 1) 598 102 (v18 + 1)) 598 80 = v24 := ((ju_i _ _ (by decide)).trans ((ju_c _ _ (by decide)).trans ((ju_c _ _ (by decide)).trans ((ju_c _ _ (by decide)).trans e25))))
      have y33 : (ju (ju (ju (ju M9 664 v18 40) 666 v18 v1) 667 v18 1) 598 102 (v18 + 1)) 598 100 = v7 := ((ju_i _ _ (by decide)).trans ((ju_c _ _ (by decide)).trans ((ju_c _ _ (by decide)).trans ((ju_c _ _ (by decide)).trans e26))))
      have tb21 : TK (ju (ju (ju (ju M9 664 v18 40) 666 v18 v1) 667 v18 1) 598 102 (v18 + 1)) = TK M9 := ((TK.o (Or.inr ⟨by decide, by decide⟩)).trans ((TK.o (Or.inl (by decide))).trans ((TK.o (Or.inl (by decide))).trans ((TK.o (Or.inl (by decide))).trans rfl))))
      refine jr.iconst rfl ?_
      have e34 : M21 598 72 = v11 := ((w21_10 72 (by decide) (by decide) (by decide) (by decide) (by decide) (by decide) (by decide) (by decide) (by decide) (by decide)).trans ((ju_i _ _ (by decide)).trans ((ju_c _ _ (by decide)).trans ((ju_c _ _ (by decide)).trans ((ju_c _ _ (by decide)).trans e23)))))
      have y35 : M21 598 72 = v11 := e34
      obtain ⟨v36, e36⟩ : ∃ z, M21 598 73 = z := ⟨_, rfl⟩
      have b36 : 0 ≤ v36 ∧ v36 ≤ 1600 := by rw [← e36]; exact hI_M21 598 73 (by decide)
      have y37 : M21 598 73 = v36 := e36
      obtain ⟨v38, e38⟩ : ∃ z, M21 598 74 = z := ⟨_, rfl⟩
      have b38 : 0 ≤ v38 ∧ v38 ≤ 4 := by rw [← e38]; exact hI_M21 598 74 (by decide)
      have y39 : M21 598 74 = v38 := e38
      obtain ⟨v40, e40⟩ : ∃ z, M21 598 79 = z := ⟨_, rfl⟩
      have b40 : 0 ≤ v40 ∧ v40 ≤ 255 := by rw [← e40]; exact hI_M21 598 79 (by decide)
      have y41 : M21 598 79 = v40 := e40
      obtain ⟨v42, e42⟩ : ∃ z, M21 598 80 = z := ⟨_, rfl⟩
      have b42 : 0 ≤ v42 ∧ v42 ≤ 7 := by rw [← e42]; exact hI_M21 598 80 (by decide)
      have y43 : M21 598 80 = v42 := e42
      have e44 : M9 598 89 = v14 := ((w9_6 89 (by decide) (by decide) (by decide) (by decide) (by decide) (by decide) (by decide)).trans e14)
      have e45 : M21 598 89 = v14 := ((w21_10 89 (by decide) (by decide) (by decide) (by decide) (by decide) (by decide) (by decide) (by decide) (by decide) (by decide)).trans ((ju_i _ _ (by decide)).trans ((ju_c _ _ (by decide)).trans ((ju_c _ _ (by decide)).trans ((ju_c _ _ (by decide)).trans e44)))))
      have y46 : M21 598 89 = v14 := e45
      obtain ⟨v47, e47⟩ : ∃ z, M 598 90 = z := ⟨_, rfl⟩
      have b47 : 0 ≤ v47 ∧ v47 ≤ 2200 := by rw [← e47]; exact hI_M 598 90 (by decide)
      have e48 : M2 598 90 = v47 := ((w2_5 90 (by decide) (by decide) (by decide)).trans e47)
      have e49 : M9 598 90 = v47 := ((w9_6 90 (by decide) (by decide) (by decide) (by decide) (by decide) (by decide) (by decide)).trans e48)
      have e50 : M21 598 90 = v47 := ((w21_10 90 (by decide) (by decide) (by decide) (by decide) (by decide) (by decide) (by decide) (by decide) (by decide) (by decide)).trans ((ju_i _ _ (by decide)).trans ((ju_c _ _ (by decide)).trans ((ju_c _ _ (by decide)).trans ((ju_c _ _ (by decide)).trans e49)))))
      have y51 : M21 598 90 = v47 := e50
      obtain ⟨v52, e52⟩ : ∃ z, M21 598 100 = z := ⟨_, rfl⟩
      have b52 : 0 ≤ v52 ∧ v52 ≤ 13 := by rw [← e52]; exact hI_M21 598 100 (by decide)
      have y53 : M21 598 100 = v52 := e52
      obtain ⟨v54, e54⟩ : ∃ z, M 598 107 = z := ⟨_, rfl⟩
      have b54 : 0 ≤ v54 ∧ v54 ≤ 16 := by rw [← e54]; exact hI_M 598 107 (by decide)
      have e55 : M2 598 107 = v54 := ((w2_5 107 (by decide) (by decide) (by decide)).trans e54)
      have e56 : M9 598 107 = v54 := ((w9_6 107 (by decide) (by decide) (by decide) (by decide) (by decide) (by decide) (by decide)).trans e55)
      have e57 : M21 598 107 = v54 := ((w21_10 107 (by decide) (by decide) (by decide) (by decide) (by decide) (by decide) (by decide) (by decide) (by decide) (by decide)).trans ((ju_i _ _ (by decide)).trans ((ju_c _ _ (by decide)).trans ((ju_c _ _ (by decide)).trans ((ju_c _ _ (by decide)).trans e56)))))
      have y58 : M21 598 107 = v54 := e57
      have e60 : M9 598 89 = v14 := ((w9_6 89 (by decide) (by decide) (by decide) (by decide) (by decide) (by decide) (by decide)).trans e14)
      exact jr.ireturn rfl rfl rfl (q _ _ hI_M21 hH_M21 hS_M21  (by omega) (by by_cases hf : v42 = 0; (first | (have y59 : (ju (ju (ju (ju M9 664 v18 40) 666 v18 v1) 667 v18 1) 598 102 (v18 + 1)) 598 73 = v22 := ((ju_i _ _ (by decide)).trans ((ju_c _ _ (by decide)).trans ((ju_c _ _ (by decide)).trans ((ju_c _ _ (by decide)).trans e22)))); have y61 : (ju (ju (ju (ju M9 664 v18 40) 666 v18 v1) 667 v18 1) 598 102 (v18 + 1)) 598 89 = v14 := ((ju_i _ _ (by decide)).trans ((ju_c _ _ (by decide)).trans ((ju_c _ _ (by decide)).trans ((ju_c _ _ (by decide)).trans e60)))); have y62 : (ju (ju (ju (ju M9 664 v18 40) 666 v18 v1) 667 v18 1) 598 102 (v18 + 1)) 598 100 = v7 := ((ju_i _ _ (by decide)).trans ((ju_c _ _ (by decide)).trans ((ju_c _ _ (by decide)).trans ((ju_c _ _ (by decide)).trans e26)))); have x21_89 := w21_10 89 (by decide) (by decide) (by decide) (by decide) (by decide) (by decide) (by decide) (by decide) (by decide) (by decide); have hE := ES.fr2 hE w21_9 (w21_10 88 (by decide) (by decide) (by decide) (by decide) (by decide) (by decide) (by decide) (by decide) (by decide) (by decide)) (w21_10 90 (by decide) (by decide) (by decide) (by decide) (by decide) (by decide) (by decide) (by decide) (by decide) (by decide)) (w21_10 101 (by decide) (by decide) (by decide) (by decide) (by decide) (by decide) (by decide) (by decide) (by decide) (by decide)) (w21_10 102 (by decide) (by decide) (by decide) (by decide) (by decide) (by decide) (by decide) (by decide) (by decide) (by decide)) (w21_10 107 (by decide) (by decide) (by decide) (by decide) (by decide) (by decide) (by decide) (by decide) (by decide) (by decide)) (k' := kk + 2) (d' := 0) (z' := 0) (by omega) (by omega) (by omega) (by omega); exact Or.inr ⟨⟨by omega, ES.adj hE (k' := kk) (z' := 0) (by omega) (by omega) (by omega), by omega, by omega, by omega, by omega⟩, by omega⟩) | (exfalso; omega)); (exact Or.inl ⟨by omega, by omega⟩)) (by omega) (by omega) (by omega) (CP.f (CP.o (CP.o (CP.o (CP.o (CP.f (CP.f hCP (fun i => w2_4 659 i (by decide)) (w2_5 90 (by decide) (by decide) (by decide))) (fun i => w9_5 659 i (by decide)) (w9_6 90 (by decide) (by decide) (by decide) (by decide) (by decide) (by decide) (by decide))) (by decide) (Or.inl (by decide))) (by decide) (Or.inl (by decide))) (by decide) (Or.inl (by decide))) (by decide) (Or.inr (by decide))) (fun i => w21_9 659 i (by decide)) (w21_10 90 (by decide) (by decide) (by decide) (by decide) (by decide) (by decide) (by decide) (by decide) (by decide) (by decide))) (by omega) (fun a i f598 f659 f660 f664 f666 f667 => ((w21_9 a i f598).trans ((ju_c _ _ f598).trans ((ju_c _ _ f667).trans ((ju_c _ _ f666).trans ((ju_c _ _ f664).trans ((w9_5 a i f598).trans ((w2_4 a i f598).trans (hF_M a i f598 f659 f660 f664 f666 f667))))))))) (fun i g73 g74 g75 g76 g77 g78 g79 g80 g81 g89 g90 g100 g102 => ((w21_10 i g73 g74 g75 g76 g77 g78 g79 g80 g81 g100).trans ((ju_i _ _ g102).trans ((ju_c _ _ (by decide)).trans ((ju_c _ _ (by decide)).trans ((ju_c _ _ (by decide)).trans ((w9_6 i g73 g74 g75 g76 g77 g78 g79).trans ((w2_5 i g80 g81 g89).trans (hG_M i g73 g74 g75 g76 g77 g78 g79 g80 g81 g89 g90 g100 g102))))))))))
    · refine jr.if_eq rfl rfl (by omega) (fun _ => ?_) (fun h => absurd (by decide) h)
      refine jr.aload_n rfl rfl ?_
      refine jr.bipush rfl (by decide) ?_
      refine jr.iload_n rfl rfl ?_
      obtain ⟨v63, e63⟩ : ∃ z, M 598 102 = z := ⟨_, rfl⟩
      have b63 : 0 ≤ v63 ∧ v63 ≤ 400 := by rw [← e63]; exact hI_M 598 102 (by decide)
      have e64 : M2 598 102 = v63 := ((w2_5 102 (by decide) (by decide) (by decide)).trans e63)
      refine jr_v rfl rfl (Or.inl rfl) rfl rfl (by decide) rfl ⟨rfl, Nat.le_of_ble_eq_true rfl, Nat.le_of_ble_eq_true rfl⟩ rfl (jc.deep (r_push e64 (by omega) (by omega) (by omega) ?_) (by decide))
      have hE := ES.deep hE e64 40 v1 1 (kk + 2) (by omega) (by omega) (by omega)
      refine jr.aload_n rfl rfl ?_
      refine jr.bipush rfl (by decide) ?_
      have e66 : M2 598 73 = v4 := ((w2_5 73 (by decide) (by decide) (by decide)).trans e4)
      obtain ⟨v67, e67⟩ : ∃ z, M 598 72 = z := ⟨_, rfl⟩
      have b67 : 0 ≤ v67 ∧ v67 ≤ 1600 := by rw [← e67]; exact hI_M 598 72 (by decide)
      have e68 : M2 598 72 = v67 := ((w2_5 72 (by decide) (by decide) (by decide)).trans e67)
      obtain ⟨v69, e69⟩ : ∃ z, M2 598 80 = z := ⟨_, rfl⟩
      have b69 : 0 ≤ v69 ∧ v69 ≤ 7 := by rw [← e69]; exact hI_M2 598 80 (by decide)
      have e70 : M2 598 100 = v7 := ((w2_5 100 (by decide) (by decide) (by decide)).trans e7)
      obtain ⟨v72, e72⟩ : ∃ z, M 598 74 = z := ⟨_, rfl⟩
      have b72 : 0 ≤ v72 ∧ v72 ≤ 4 := by rw [← e72]; exact hI_M 598 74 (by decide)
      have e73 : M2 598 74 = v72 := ((w2_5 74 (by decide) (by decide) (by decide)).trans e72)
      obtain ⟨v75, e75⟩ : ∃ z, M 598 79 = z := ⟨_, rfl⟩
      have b75 : 0 ≤ v75 ∧ v75 ≤ 255 := by rw [← e75]; exact hI_M 598 79 (by decide)
      have e76 : M2 598 79 = v75 := ((w2_5 79 (by decide) (by decide) (by decide)).trans e75)
      refine jr_v rfl rfl (Or.inl rfl) rfl rfl (by decide) rfl ⟨rfl, Nat.le_of_ble_eq_true rfl, Nat.le_of_ble_eq_true rfl⟩ rfl (jc.deep (r_wantDeeper (RI.u (RI.u (RI.u (RI.u hI_M2 (a := 664) (i := v63) (by rw [xri_row rfl rfl]; show (0 : Int) ≤ _ ∧ _ ≤ (255 : Int); omega)) (a := 666) (i := v63) (by rw [xri_row rfl rfl]; show (-1 : Int) ≤ _ ∧ _ ≤ (68 : Int); omega)) (a := 667) (i := v63) (by rw [xri_row rfl rfl]; show (0 : Int) ≤ _ ∧ _ ≤ (4 : Int); omega)) (a := 598) (i := 102) (show (0 : Int) ≤ _ ∧ _ ≤ (400 : Int) from by omega)) (RH.o (RH.o (RH.o (RH.o hH_M2 (by decide) (by decide) (by decide)) (by decide) (by decide) (by decide)) (by decide) (by decide) (by decide)) (by decide) (by decide) (by decide)) (RF.o (RF.o (RF.o (RF.o hS_M2 (by decide) (by decide)) (by decide) (by decide)) (by decide) (by decide)) (by decide) (by decide))  (by omega) (by rw [((ju_i _ _ (by decide)).trans ((ju_c _ _ (by decide)).trans ((ju_c _ _ (by decide)).trans ((ju_c _ _ (by decide)).trans e66)))), ((ju_i _ _ (by decide)).trans ((ju_c _ _ (by decide)).trans ((ju_c _ _ (by decide)).trans ((ju_c _ _ (by decide)).trans e68))))]; omega) (by rw [((ju_i _ _ (by decide)).trans ((ju_c _ _ (by decide)).trans ((ju_c _ _ (by decide)).trans ((ju_c _ _ (by decide)).trans e69)))), ((ju_i _ _ (by decide)).trans ((ju_c _ _ (by decide)).trans ((ju_c _ _ (by decide)).trans ((ju_c _ _ (by decide)).trans e70))))]; intro q; omega) (fun M65 hI_M65 hH_M65 hS_M65  w65_0 w65_1 w65_2 w65_3 w65_4 w65_5 w65_6 w65_7 w65_8 w65_9 w65_10 => ?_)) (by decide))
      have y71 : (ju (ju (ju (ju M2 664 v63 40) 666 v63 v1) 667 v63 1) 598 102 (v63 + 1)) 598 73 = v4 := ((ju_i _ _ (by decide)).trans ((ju_c _ _ (by decide)).trans ((ju_c _ _ (by decide)).trans ((ju_c _ _ (by decide)).trans e66))))
      have y74 : (ju (ju (ju (ju M2 664 v63 40) 666 v63 v1) 667 v63 1) 598 102 (v63 + 1)) 598 74 = v72 := ((ju_i _ _ (by decide)).trans ((ju_c _ _ (by decide)).trans ((ju_c _ _ (by decide)).trans ((ju_c _ _ (by decide)).trans e73))))
      have y77 : (ju (ju (ju (ju M2 664 v63 40) 666 v63 v1) 667 v63 1) 598 102 (v63 + 1)) 598 79 = v75 := ((ju_i _ _ (by decide)).trans ((ju_c _ _ (by decide)).trans ((ju_c _ _ (by decide)).trans ((ju_c _ _ (by decide)).trans e76))))
      have y78 : (ju (ju (ju (ju M2 664 v63 40) 666 v63 v1) 667 v63 1) 598 102 (v63 + 1)) 598 80 = v69 := ((ju_i _ _ (by decide)).trans ((ju_c _ _ (by decide)).trans ((ju_c _ _ (by decide)).trans ((ju_c _ _ (by decide)).trans e69))))
      have y79 : (ju (ju (ju (ju M2 664 v63 40) 666 v63 v1) 667 v63 1) 598 102 (v63 + 1)) 598 100 = v7 := ((ju_i _ _ (by decide)).trans ((ju_c _ _ (by decide)).trans ((ju_c _ _ (by decide)).trans ((ju_c _ _ (by decide)).trans e70))))
      have tb65 : TK (ju (ju (ju (ju M2 664 v63 40) 666 v63 v1) 667 v63 1) 598 102 (v63 + 1)) = TK M2 := ((TK.o (Or.inr ⟨by decide, by decide⟩)).trans ((TK.o (Or.inl (by decide))).trans ((TK.o (Or.inl (by decide))).trans ((TK.o (Or.inl (by decide))).trans rfl))))
      refine jr.iconst rfl ?_
      have e80 : M65 598 72 = v67 := ((w65_10 72 (by decide) (by decide) (by decide) (by decide) (by decide) (by decide) (by decide) (by decide) (by decide) (by decide)).trans ((ju_i _ _ (by decide)).trans ((ju_c _ _ (by decide)).trans ((ju_c _ _ (by decide)).trans ((ju_c _ _ (by decide)).trans e68)))))
      have y81 : M65 598 72 = v67 := e80
      obtain ⟨v82, e82⟩ : ∃ z, M65 598 73 = z := ⟨_, rfl⟩
      have b82 : 0 ≤ v82 ∧ v82 ≤ 1600 := by rw [← e82]; exact hI_M65 598 73 (by decide)
      have y83 : M65 598 73 = v82 := e82
      obtain ⟨v84, e84⟩ : ∃ z, M65 598 74 = z := ⟨_, rfl⟩
      have b84 : 0 ≤ v84 ∧ v84 ≤ 4 := by rw [← e84]; exact hI_M65 598 74 (by decide)
      have y85 : M65 598 74 = v84 := e84
      obtain ⟨v86, e86⟩ : ∃ z, M65 598 79 = z := ⟨_, rfl⟩
      have b86 : 0 ≤ v86 ∧ v86 ≤ 255 := by rw [← e86]; exact hI_M65 598 79 (by decide)
      have y87 : M65 598 79 = v86 := e86
      obtain ⟨v88, e88⟩ : ∃ z, M65 598 80 = z := ⟨_, rfl⟩
      have b88 : 0 ≤ v88 ∧ v88 ≤ 7 := by rw [← e88]; exact hI_M65 598 80 (by decide)
      have y89 : M65 598 80 = v88 := e88
      obtain ⟨v90, e90⟩ : ∃ z, M2 598 89 = z := ⟨_, rfl⟩
      have b90 : 0 ≤ v90 ∧ v90 ≤ 301 := by rw [← e90]; exact hI_M2 598 89 (by decide)
      have e91 : M65 598 89 = v90 := ((w65_10 89 (by decide) (by decide) (by decide) (by decide) (by decide) (by decide) (by decide) (by decide) (by decide) (by decide)).trans ((ju_i _ _ (by decide)).trans ((ju_c _ _ (by decide)).trans ((ju_c _ _ (by decide)).trans ((ju_c _ _ (by decide)).trans e90)))))
      have y92 : M65 598 89 = v90 := e91
      obtain ⟨v93, e93⟩ : ∃ z, M 598 90 = z := ⟨_, rfl⟩
      have b93 : 0 ≤ v93 ∧ v93 ≤ 2200 := by rw [← e93]; exact hI_M 598 90 (by decide)
      have e94 : M2 598 90 = v93 := ((w2_5 90 (by decide) (by decide) (by decide)).trans e93)
      have e95 : M65 598 90 = v93 := ((w65_10 90 (by decide) (by decide) (by decide) (by decide) (by decide) (by decide) (by decide) (by decide) (by decide) (by decide)).trans ((ju_i _ _ (by decide)).trans ((ju_c _ _ (by decide)).trans ((ju_c _ _ (by decide)).trans ((ju_c _ _ (by decide)).trans e94)))))
      have y96 : M65 598 90 = v93 := e95
      obtain ⟨v97, e97⟩ : ∃ z, M65 598 100 = z := ⟨_, rfl⟩
      have b97 : 0 ≤ v97 ∧ v97 ≤ 13 := by rw [← e97]; exact hI_M65 598 100 (by decide)
      have y98 : M65 598 100 = v97 := e97
      obtain ⟨v99, e99⟩ : ∃ z, M 598 107 = z := ⟨_, rfl⟩
      have b99 : 0 ≤ v99 ∧ v99 ≤ 16 := by rw [← e99]; exact hI_M 598 107 (by decide)
      have e100 : M2 598 107 = v99 := ((w2_5 107 (by decide) (by decide) (by decide)).trans e99)
      have e101 : M65 598 107 = v99 := ((w65_10 107 (by decide) (by decide) (by decide) (by decide) (by decide) (by decide) (by decide) (by decide) (by decide) (by decide)).trans ((ju_i _ _ (by decide)).trans ((ju_c _ _ (by decide)).trans ((ju_c _ _ (by decide)).trans ((ju_c _ _ (by decide)).trans e100)))))
      have y102 : M65 598 107 = v99 := e101
      obtain ⟨v104, e104⟩ : ∃ z, M2 598 89 = z := ⟨_, rfl⟩
      have b104 : 0 ≤ v104 ∧ v104 ≤ 301 := by rw [← e104]; exact hI_M2 598 89 (by decide)
      exact jr.ireturn rfl rfl rfl (q _ _ hI_M65 hH_M65 hS_M65  (by omega) (by by_cases hf : v88 = 0; (first | (have y103 : (ju (ju (ju (ju M2 664 v63 40) 666 v63 v1) 667 v63 1) 598 102 (v63 + 1)) 598 73 = v4 := ((ju_i _ _ (by decide)).trans ((ju_c _ _ (by decide)).trans ((ju_c _ _ (by decide)).trans ((ju_c _ _ (by decide)).trans e66)))); have y105 : (ju (ju (ju (ju M2 664 v63 40) 666 v63 v1) 667 v63 1) 598 102 (v63 + 1)) 598 89 = v104 := ((ju_i _ _ (by decide)).trans ((ju_c _ _ (by decide)).trans ((ju_c _ _ (by decide)).trans ((ju_c _ _ (by decide)).trans e104)))); have y106 : (ju (ju (ju (ju M2 664 v63 40) 666 v63 v1) 667 v63 1) 598 102 (v63 + 1)) 598 100 = v7 := ((ju_i _ _ (by decide)).trans ((ju_c _ _ (by decide)).trans ((ju_c _ _ (by decide)).trans ((ju_c _ _ (by decide)).trans e70)))); have x65_89 := w65_10 89 (by decide) (by decide) (by decide) (by decide) (by decide) (by decide) (by decide) (by decide) (by decide) (by decide); have hE := ES.fr2 hE w65_9 (w65_10 88 (by decide) (by decide) (by decide) (by decide) (by decide) (by decide) (by decide) (by decide) (by decide) (by decide)) (w65_10 90 (by decide) (by decide) (by decide) (by decide) (by decide) (by decide) (by decide) (by decide) (by decide) (by decide)) (w65_10 101 (by decide) (by decide) (by decide) (by decide) (by decide) (by decide) (by decide) (by decide) (by decide) (by decide)) (w65_10 102 (by decide) (by decide) (by decide) (by decide) (by decide) (by decide) (by decide) (by decide) (by decide) (by decide)) (w65_10 107 (by decide) (by decide) (by decide) (by decide) (by decide) (by decide) (by decide) (by decide) (by decide) (by decide)) (k' := kk + 2) (d' := 0) (z' := 0) (by omega) (by omega) (by omega) (by omega); exact Or.inr ⟨⟨by omega, ES.adj hE (k' := kk) (z' := 0) (by omega) (by omega) (by omega), by omega, by omega, by omega, by omega⟩, by omega⟩) | (exfalso; omega)); (exact Or.inl ⟨by omega, by omega⟩)) (by omega) (by omega) (by omega) (CP.f (CP.o (CP.o (CP.o (CP.o (CP.f hCP (fun i => w2_4 659 i (by decide)) (w2_5 90 (by decide) (by decide) (by decide))) (by decide) (Or.inl (by decide))) (by decide) (Or.inl (by decide))) (by decide) (Or.inl (by decide))) (by decide) (Or.inr (by decide))) (fun i => w65_9 659 i (by decide)) (w65_10 90 (by decide) (by decide) (by decide) (by decide) (by decide) (by decide) (by decide) (by decide) (by decide) (by decide))) (by omega) (fun a i f598 f659 f660 f664 f666 f667 => ((w65_9 a i f598).trans ((ju_c _ _ f598).trans ((ju_c _ _ f667).trans ((ju_c _ _ f666).trans ((ju_c _ _ f664).trans ((w2_4 a i f598).trans (hF_M a i f598 f659 f660 f664 f666 f667)))))))) (fun i g73 g74 g75 g76 g77 g78 g79 g80 g81 g89 g90 g100 g102 => ((w65_10 i g73 g74 g75 g76 g77 g78 g79 g80 g81 g100).trans ((ju_i _ _ g102).trans ((ju_c _ _ (by decide)).trans ((ju_c _ _ (by decide)).trans ((ju_c _ _ (by decide)).trans ((w2_5 i g80 g81 g89).trans (hG_M i g73 g74 g75 g76 g77 g78 g79 g80 g81 g89 g90 g100 g102)))))))))
