theorem r_takeOperand_L65 {A : Nat → Option (Nat × (Nat → Int32))} {Q : Option Value → jm → Prop} {b kk : Int} {M0 : jm} (q : ∀ (r : Int) (M' : jm), RI M' → RH M' → RF M' → 0 ≤ r ∧ r ≤ 1 → (BS M' ∨ (GS M' b r kk ∧ TK M' < TK M0)) → TK M' ≤ TK M0 → M' 598 73 ≤ M' 598 72 → (M' 598 80 ≠ 0 ∨ TK M' < TK M0) → CP M0 M' → M0 598 89 ≤ M' 598 89 → (∀ (a : Nat) (i : Int), a ≠ 598 → a ≠ 659 → a ≠ 660 → a ≠ 664 → a ≠ 666 → a ≠ 667 → M' a i = M0 a i) → (∀ (i : Int), i ≠ 73 → i ≠ 74 → i ≠ 75 → i ≠ 76 → i ≠ 77 → i ≠ 78 → i ≠ 79 → i ≠ 80 → i ≠ 81 → i ≠ 89 → i ≠ 90 → i ≠ 100 → i ≠ 102 → M' 598 i = M0 598 i) → Q (some (.int (Int32.ofInt r))) M') : ∀ (M : jm) , RI M → RH M → RF M → (∀ (a : Nat) (i : Int), a ≠ 598 → a ≠ 659 → a ≠ 660 → a ≠ 664 → a ≠ 666 → a ≠ 667 → M a i = M0 a i) → (∀ (i : Int), i ≠ 73 → i ≠ 74 → i ≠ 75 → i ≠ 76 → i ≠ 77 → i ≠ 78 → i ≠ 79 → i ≠ 80 → i ≠ 81 → i ≠ 89 → i ≠ 90 → i ≠ 100 → i ≠ 102 → M 598 i = M0 598 i) → GS M b 0 kk → TK M = TK M0 → CP M0 M → M 598 89 = M0 598 89 → M 598 74 = 3 → jr A 5 xm_360 65 [(0, .ref (598))] [] M Q := by
    intro M  hI_M hH_M hS_M hF_M hG_M  hy0 hy1 hy2 hy3 hy4
    have p0 := hy0
    have hCP := hy2
    obtain ⟨gs1, gs2, gs3, gs4, gs5, gs6⟩ := id hy0
    have hE := gs2
    have sl := ES.sgle gs2
    have bb := ES.bb gs2
    have kb := ES.kz gs2
    have b107 : (0 : Int) ≤ M 598 107 ∧ M 598 107 ≤ 16 := hI_M 598 107 (by decide)
    have b73 : (0 : Int) ≤ M 598 73 ∧ M 598 73 ≤ 1600 := hI_M 598 73 (by decide)
    have b88 : (0 : Int) ≤ M 598 88 ∧ M 598 88 ≤ 16 := hI_M 598 88 (by decide)
    have b100 : (0 : Int) ≤ M 598 100 ∧ M 598 100 ≤ 13 := hI_M 598 100 (by decide)
    refine jr.aload_n rfl rfl ?_
    refine jr.bipush rfl (by decide) ?_
    refine jr.iconst rfl ?_
    obtain ⟨v1, e1⟩ : ∃ z, M 598 102 = z := ⟨_, rfl⟩
    have b1 : 0 ≤ v1 ∧ v1 ≤ 400 := by rw [← e1]; exact hI_M 598 102 (by decide)
    refine jr_v rfl rfl (Or.inl rfl) rfl rfl (by decide) rfl ⟨rfl, Nat.le_of_ble_eq_true rfl, Nat.le_of_ble_eq_true rfl⟩ rfl (jc.deep (r_push e1 (by omega) (by omega) (by omega) ?_) (by decide))
    have hE := ES.deep hE e1 40 (-1) 0 kk (by omega) (by omega) (by omega)
    refine jr.aload_n rfl rfl ?_
    obtain ⟨v3, e3⟩ : ∃ z, M 598 73 = z := ⟨_, rfl⟩
    have b3 : 0 ≤ v3 ∧ v3 ≤ 1600 := by rw [← e3]; exact hI_M 598 73 (by decide)
    obtain ⟨v4, e4⟩ : ∃ z, M 598 72 = z := ⟨_, rfl⟩
    have b4 : 0 ≤ v4 ∧ v4 ≤ 1600 := by rw [← e4]; exact hI_M 598 72 (by decide)
    obtain ⟨v5, e5⟩ : ∃ z, M 598 100 = z := ⟨_, rfl⟩
    have b5 : 0 ≤ v5 ∧ v5 ≤ 13 := by rw [← e5]; exact hI_M 598 100 (by decide)
    obtain ⟨v7, e7⟩ : ∃ z, M 598 89 = z := ⟨_, rfl⟩
    have b7 : 0 ≤ v7 ∧ v7 ≤ 301 := by rw [← e7]; exact hI_M 598 89 (by decide)
    obtain ⟨v11, e11⟩ : ∃ z, M 598 74 = z := ⟨_, rfl⟩
    have b11 : 0 ≤ v11 ∧ v11 ≤ 4 := by rw [← e11]; exact hI_M 598 74 (by decide)
    obtain ⟨v13, e13⟩ : ∃ z, M 598 79 = z := ⟨_, rfl⟩
    have b13 : 0 ≤ v13 ∧ v13 ≤ 255 := by rw [← e13]; exact hI_M 598 79 (by decide)
    obtain ⟨v15, e15⟩ : ∃ z, M 598 80 = z := ⟨_, rfl⟩
    have b15 : 0 ≤ v15 ∧ v15 ≤ 7 := by rw [← e15]; exact hI_M 598 80 (by decide)
    refine jr_v rfl rfl (Or.inl rfl) rfl rfl (by decide) rfl ⟨rfl, Nat.le_of_ble_eq_true rfl, Nat.le_of_ble_eq_true rfl⟩ rfl (jc.deep (r_deeper (RI.u (RI.u (RI.u (RI.u hI_M (a := 664) (i := v1) (by rw [xri_row rfl rfl]; show (0 : Int) ≤ _ ∧ _ ≤ (255 : Int); omega)) (a := 666) (i := v1) (by rw [xri_row rfl rfl]; show (-1 : Int) ≤ _ ∧ _ ≤ (68 : Int); omega)) (a := 667) (i := v1) (by rw [xri_row rfl rfl]; show (0 : Int) ≤ _ ∧ _ ≤ (4 : Int); omega)) (a := 598) (i := 102) (show (0 : Int) ≤ _ ∧ _ ≤ (400 : Int) from by omega)) (RH.o (RH.o (RH.o (RH.o hH_M (by decide) (by decide) (by decide)) (by decide) (by decide) (by decide)) (by decide) (by decide) (by decide)) (by decide) (by decide) (by decide)) (RF.o (RF.o (RF.o (RF.o hS_M (by decide) (by decide)) (by decide) (by decide)) (by decide) (by decide)) (by decide) (by decide))   (by rw [((ju_i _ _ (by decide)).trans ((ju_c _ _ (by decide)).trans ((ju_c _ _ (by decide)).trans ((ju_c _ _ (by decide)).trans e3)))), ((ju_i _ _ (by decide)).trans ((ju_c _ _ (by decide)).trans ((ju_c _ _ (by decide)).trans ((ju_c _ _ (by decide)).trans e4))))]; omega) (by rw [((ju_i _ _ (by decide)).trans ((ju_c _ _ (by decide)).trans ((ju_c _ _ (by decide)).trans ((ju_c _ _ (by decide)).trans e5))))]; omega) (fun M2 hI_M2 hH_M2 hS_M2  w2_0 w2_1 w2_2 w2_3 w2_4 w2_5 w2_6 w2_7 w2_8 w2_9 => ?_)) (by decide))
    have y10 : (ju (ju (ju (ju M 664 v1 40) 666 v1 (-1)) 667 v1 1) 598 102 (v1 + 1)) 598 73 = v3 := ((ju_i _ _ (by decide)).trans ((ju_c _ _ (by decide)).trans ((ju_c _ _ (by decide)).trans ((ju_c _ _ (by decide)).trans e3))))
    have y12 : (ju (ju (ju (ju M 664 v1 40) 666 v1 (-1)) 667 v1 1) 598 102 (v1 + 1)) 598 74 = v11 := ((ju_i _ _ (by decide)).trans ((ju_c _ _ (by decide)).trans ((ju_c _ _ (by decide)).trans ((ju_c _ _ (by decide)).trans e11))))
    have y14 : (ju (ju (ju (ju M 664 v1 40) 666 v1 (-1)) 667 v1 1) 598 102 (v1 + 1)) 598 79 = v13 := ((ju_i _ _ (by decide)).trans ((ju_c _ _ (by decide)).trans ((ju_c _ _ (by decide)).trans ((ju_c _ _ (by decide)).trans e13))))
    have y16 : (ju (ju (ju (ju M 664 v1 40) 666 v1 (-1)) 667 v1 1) 598 102 (v1 + 1)) 598 80 = v15 := ((ju_i _ _ (by decide)).trans ((ju_c _ _ (by decide)).trans ((ju_c _ _ (by decide)).trans ((ju_c _ _ (by decide)).trans e15))))
    have y17 : (ju (ju (ju (ju M 664 v1 40) 666 v1 (-1)) 667 v1 1) 598 102 (v1 + 1)) 598 100 = v5 := ((ju_i _ _ (by decide)).trans ((ju_c _ _ (by decide)).trans ((ju_c _ _ (by decide)).trans ((ju_c _ _ (by decide)).trans e5))))
    have tb2 : TK (ju (ju (ju (ju M 664 v1 40) 666 v1 (-1)) 667 v1 1) 598 102 (v1 + 1)) = TK M := ((TK.o (Or.inr ⟨by decide, by decide⟩)).trans ((TK.o (Or.inl (by decide))).trans ((TK.o (Or.inl (by decide))).trans ((TK.o (Or.inl (by decide))).trans rfl))))
    have y6 : (ju (ju (ju (ju M 664 v1 40) 666 v1 (-1)) 667 v1 1) 598 102 (v1 + 1)) 598 73 = v3 := ((ju_i _ _ (by decide)).trans ((ju_c _ _ (by decide)).trans ((ju_c _ _ (by decide)).trans ((ju_c _ _ (by decide)).trans e3))))
    have y8 : (ju (ju (ju (ju M 664 v1 40) 666 v1 (-1)) 667 v1 1) 598 102 (v1 + 1)) 598 89 = v7 := ((ju_i _ _ (by decide)).trans ((ju_c _ _ (by decide)).trans ((ju_c _ _ (by decide)).trans ((ju_c _ _ (by decide)).trans e7))))
    have y9 : (ju (ju (ju (ju M 664 v1 40) 666 v1 (-1)) 667 v1 1) 598 102 (v1 + 1)) 598 100 = v5 := ((ju_i _ _ (by decide)).trans ((ju_c _ _ (by decide)).trans ((ju_c _ _ (by decide)).trans ((ju_c _ _ (by decide)).trans e5))))
    have x2_89 := w2_9 89 (by decide) (by decide) (by decide) (by decide) (by decide) (by decide) (by decide) (by decide) (by decide) (by decide)
    have hE := ES.fr2 hE w2_8 (w2_9 88 (by decide) (by decide) (by decide) (by decide) (by decide) (by decide) (by decide) (by decide) (by decide) (by decide)) (w2_9 90 (by decide) (by decide) (by decide) (by decide) (by decide) (by decide) (by decide) (by decide) (by decide) (by decide)) (w2_9 101 (by decide) (by decide) (by decide) (by decide) (by decide) (by decide) (by decide) (by decide) (by decide) (by decide)) (w2_9 102 (by decide) (by decide) (by decide) (by decide) (by decide) (by decide) (by decide) (by decide) (by decide) (by decide)) (w2_9 107 (by decide) (by decide) (by decide) (by decide) (by decide) (by decide) (by decide) (by decide) (by decide) (by decide)) (k' := kk) (d' := 0) (z' := 0) (by omega) (by omega) (by omega) (by omega)
    refine jr.iconst rfl ?_
    have e18 : M2 598 72 = v4 := ((w2_9 72 (by decide) (by decide) (by decide) (by decide) (by decide) (by decide) (by decide) (by decide) (by decide) (by decide)).trans ((ju_i _ _ (by decide)).trans ((ju_c _ _ (by decide)).trans ((ju_c _ _ (by decide)).trans ((ju_c _ _ (by decide)).trans e4)))))
    have y19 : M2 598 72 = v4 := e18
    obtain ⟨v20, e20⟩ : ∃ z, M2 598 73 = z := ⟨_, rfl⟩
    have b20 : 0 ≤ v20 ∧ v20 ≤ 1600 := by rw [← e20]; exact hI_M2 598 73 (by decide)
    have y21 : M2 598 73 = v20 := e20
    obtain ⟨v22, e22⟩ : ∃ z, M2 598 74 = z := ⟨_, rfl⟩
    have b22 : 0 ≤ v22 ∧ v22 ≤ 4 := by rw [← e22]; exact hI_M2 598 74 (by decide)
    have y23 : M2 598 74 = v22 := e22
    obtain ⟨v24, e24⟩ : ∃ z, M2 598 79 = z := ⟨_, rfl⟩
    have b24 : 0 ≤ v24 ∧ v24 ≤ 255 := by rw [← e24]; exact hI_M2 598 79 (by decide)
    have y25 : M2 598 79 = v24 := e24
    obtain ⟨v26, e26⟩ : ∃ z, M2 598 80 = z := ⟨_, rfl⟩
    have b26 : 0 ≤ v26 ∧ v26 ≤ 7 := by rw [← e26]; exact hI_M2 598 80 (by decide)
    have y27 : M2 598 80 = v26 := e26
    have e28 : M2 598 89 = v7 := ((w2_9 89 (by decide) (by decide) (by decide) (by decide) (by decide) (by decide) (by decide) (by decide) (by decide) (by decide)).trans ((ju_i _ _ (by decide)).trans ((ju_c _ _ (by decide)).trans ((ju_c _ _ (by decide)).trans ((ju_c _ _ (by decide)).trans e7)))))
    have y29 : M2 598 89 = v7 := e28
    obtain ⟨v30, e30⟩ : ∃ z, M 598 90 = z := ⟨_, rfl⟩
    have b30 : 0 ≤ v30 ∧ v30 ≤ 2200 := by rw [← e30]; exact hI_M 598 90 (by decide)
    have e31 : M2 598 90 = v30 := ((w2_9 90 (by decide) (by decide) (by decide) (by decide) (by decide) (by decide) (by decide) (by decide) (by decide) (by decide)).trans ((ju_i _ _ (by decide)).trans ((ju_c _ _ (by decide)).trans ((ju_c _ _ (by decide)).trans ((ju_c _ _ (by decide)).trans e30)))))
    have y32 : M2 598 90 = v30 := e31
    obtain ⟨v33, e33⟩ : ∃ z, M2 598 100 = z := ⟨_, rfl⟩
    have b33 : 0 ≤ v33 ∧ v33 ≤ 13 := by rw [← e33]; exact hI_M2 598 100 (by decide)
    have y34 : M2 598 100 = v33 := e33
    obtain ⟨v35, e35⟩ : ∃ z, M 598 107 = z := ⟨_, rfl⟩
    have b35 : 0 ≤ v35 ∧ v35 ≤ 16 := by rw [← e35]; exact hI_M 598 107 (by decide)
    have e36 : M2 598 107 = v35 := ((w2_9 107 (by decide) (by decide) (by decide) (by decide) (by decide) (by decide) (by decide) (by decide) (by decide) (by decide)).trans ((ju_i _ _ (by decide)).trans ((ju_c _ _ (by decide)).trans ((ju_c _ _ (by decide)).trans ((ju_c _ _ (by decide)).trans e35)))))
    have y37 : M2 598 107 = v35 := e36
    exact jr.ireturn rfl rfl rfl (q _ _ hI_M2 hH_M2 hS_M2  (by omega) (by by_cases hf : v26 = 0; (first | (exact Or.inr ⟨⟨by omega, ES.adj hE (k' := kk) (z' := 0) (by omega) (by omega) (by omega), by omega, by omega, by omega, by omega⟩, by omega⟩) | (exfalso; omega)); (exact Or.inl ⟨by omega, by omega⟩)) (by omega) (by omega) (by omega) (CP.f (CP.o (CP.o (CP.o (CP.o hCP (by decide) (Or.inl (by decide))) (by decide) (Or.inl (by decide))) (by decide) (Or.inl (by decide))) (by decide) (Or.inr (by decide))) (fun i => w2_8 659 i (by decide)) (w2_9 90 (by decide) (by decide) (by decide) (by decide) (by decide) (by decide) (by decide) (by decide) (by decide) (by decide))) (by omega) (fun a i f598 f659 f660 f664 f666 f667 => ((w2_8 a i f598).trans ((ju_c _ _ f598).trans ((ju_c _ _ f667).trans ((ju_c _ _ f666).trans ((ju_c _ _ f664).trans (hF_M a i f598 f659 f660 f664 f666 f667))))))) (fun i g73 g74 g75 g76 g77 g78 g79 g80 g81 g89 g90 g100 g102 => ((w2_9 i g73 g74 g75 g76 g77 g78 g79 g80 g81 g100).trans ((ju_i _ _ g102).trans ((ju_c _ _ (by decide)).trans ((ju_c _ _ (by decide)).trans ((ju_c _ _ (by decide)).trans (hG_M i g73 g74 g75 g76 g77 g78 g79 g80 g81 g89 g90 g100 g102))))))))
