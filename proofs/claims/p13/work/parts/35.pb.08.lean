theorem r_takeOperand_L146 {A : Nat → Option (Nat × (Nat → Int32))} {Q : Option Value → jm → Prop} {b kk : Int} {M0 : jm} (q : ∀ (r : Int) (M' : jm), RI M' → RH M' → RF M' → 0 ≤ r ∧ r ≤ 1 → (BS M' ∨ (GS M' b r kk ∧ TK M' < TK M0)) → TK M' ≤ TK M0 → M' 598 73 ≤ M' 598 72 → (M' 598 80 ≠ 0 ∨ TK M' < TK M0) → CP M0 M' → M0 598 89 ≤ M' 598 89 → (∀ (a : Nat) (i : Int), a ≠ 598 → a ≠ 659 → a ≠ 660 → a ≠ 664 → a ≠ 666 → a ≠ 667 → M' a i = M0 a i) → (∀ (i : Int), i ≠ 73 → i ≠ 74 → i ≠ 75 → i ≠ 76 → i ≠ 77 → i ≠ 78 → i ≠ 79 → i ≠ 80 → i ≠ 81 → i ≠ 89 → i ≠ 90 → i ≠ 100 → i ≠ 102 → M' 598 i = M0 598 i) → Q (some (.int (Int32.ofInt r))) M') : ∀ (M : jm) , RI M → RH M → RF M → (∀ (a : Nat) (i : Int), a ≠ 598 → a ≠ 659 → a ≠ 660 → a ≠ 664 → a ≠ 666 → a ≠ 667 → M a i = M0 a i) → (∀ (i : Int), i ≠ 73 → i ≠ 74 → i ≠ 75 → i ≠ 76 → i ≠ 77 → i ≠ 78 → i ≠ 79 → i ≠ 80 → i ≠ 81 → i ≠ 89 → i ≠ 90 → i ≠ 100 → i ≠ 102 → M 598 i = M0 598 i) → GS M b 0 kk → TK M = TK M0 → CP M0 M → M 598 89 = M0 598 89 → M 598 74 = 1 → (M 598 76 = 10 ∨ (19 ≤ M 598 76 ∧ M 598 76 ≤ 23)) → jr A 5 xm_360 146 [(0, .ref (598))] [] M Q := by
    intro M  hI_M hH_M hS_M hF_M hG_M  hy0 hy1 hy2 hy3 hy4 hy5
    have p0 := hy0
    have hCP := hy2
    obtain ⟨gs1, gs2, gs3, gs4, gs5, gs6⟩ := id hy0
    have hE := gs2
    have sl := ES.sgle gs2
    have bb := ES.bb gs2
    have kb := ES.kz gs2
    have b107 : (0 : Int) ≤ M 598 107 ∧ M 598 107 ≤ 16 := hI_M 598 107 (by decide)
    have b73 : (0 : Int) ≤ M 598 73 ∧ M 598 73 ≤ 1600 := hI_M 598 73 (by decide)
    have b88 : (0 : Int) ≤ M 598 88 ∧ M 598 88 ≤ 16 := hI_M 598 88 (by decide)
    have b100 : (0 : Int) ≤ M 598 100 ∧ M 598 100 ≤ 13 := hI_M 598 100 (by decide)
    refine jr.aload_n rfl rfl ?_
    obtain ⟨v2, e2⟩ : ∃ z, M 598 89 = z := ⟨_, rfl⟩
    have b2 : 0 ≤ v2 ∧ v2 ≤ 301 := by rw [← e2]; exact hI_M 598 89 (by decide)
    obtain ⟨v3, e3⟩ : ∃ z, M 598 73 = z := ⟨_, rfl⟩
    have b3 : 0 ≤ v3 ∧ v3 ≤ 1600 := by rw [← e3]; exact hI_M 598 73 (by decide)
    obtain ⟨v6, e6⟩ : ∃ z, M 598 100 = z := ⟨_, rfl⟩
    have b6 : 0 ≤ v6 ∧ v6 ≤ 13 := by rw [← e6]; exact hI_M 598 100 (by decide)
    refine jr_v rfl rfl (Or.inl rfl) rfl rfl (by decide) rfl ⟨rfl, Nat.le_of_ble_eq_true rfl, Nat.le_of_ble_eq_true rfl⟩ rfl (jc.deep (r_node hI_M hH_M hS_M   (by rw [e2]; omega) (fun M1 hI_M1 hH_M1 hS_M1  w1_0 w1_1 w1_2 w1_3 w1_4 w1_5 => ?_)) (by decide))
    have tk1 : TK M1 = TK M := TK.fr (w1_5 73 (by decide) (by decide) (by decide)) (w1_5 74 (by decide) (by decide) (by decide))
    have y4 : M 598 73 = v3 := e3
    have y5 : M 598 89 = v2 := e2
    have y7 : M 598 100 = v6 := e6
    have x1_73 := w1_5 73 (by decide) (by decide) (by decide)
    have x1_100 := w1_5 100 (by decide) (by decide) (by decide)
    have hE := ES.fr2 hE w1_4 (w1_5 88 (by decide) (by decide) (by decide)) (w1_5 90 (by decide) (by decide) (by decide)) (w1_5 101 (by decide) (by decide) (by decide)) (w1_5 102 (by decide) (by decide) (by decide)) (w1_5 107 (by decide) (by decide) (by decide)) (k' := kk + 4) (d' := 0) (z' := 0) (by omega) (by omega) (by omega) (by omega)
    refine jr.aload_n rfl rfl ?_
    refine jr.sipush rfl (by decide) ?_
    refine jr.aload_n rfl rfl ?_
    obtain ⟨v8, e8⟩ : ∃ z, M 598 76 = z := ⟨_, rfl⟩
    have b8 : (-1) ≤ v8 ∧ v8 ≤ 68 := by rw [← e8]; exact hI_M 598 76 (by decide)
    have e9 : M1 598 76 = v8 := ((w1_5 76 (by decide) (by decide) (by decide)).trans e8)
    refine jr.getf (i := 76) (x := v8) (v := .int (Int32.ofInt (v8))) rfl rfl (by decide) rfl (by decide) rfl rfl e9 rfl ?_
    refine jr.iadd rfl ?_
    refine jr.lconst (x := 0) rfl (by decide) ?_
    obtain ⟨v10, e10⟩ : ∃ z, M 598 90 = z := ⟨_, rfl⟩
    have b10 : 0 ≤ v10 ∧ v10 ≤ 2200 := by rw [← e10]; exact hI_M 598 90 (by decide)
    have e11 : M1 598 90 = v10 := ((w1_5 90 (by decide) (by decide) (by decide)).trans e10)
    have e12 : M1 598 100 = v6 := ((w1_5 100 (by decide) (by decide) (by decide)).trans e6)
    obtain ⟨v14, e14⟩ : ∃ z, M 598 107 = z := ⟨_, rfl⟩
    have b14 : 0 ≤ v14 ∧ v14 ≤ 16 := by rw [← e14]; exact hI_M 598 107 (by decide)
    have e15 : M1 598 107 = v14 := ((w1_5 107 (by decide) (by decide) (by decide)).trans e14)
    refine jr_v rfl rfl (Or.inl rfl) rfl rfl (by decide) rfl ⟨rfl, Nat.le_of_ble_eq_true rfl, Nat.le_of_ble_eq_true rfl⟩ rfl (jc.deep (r_emit e11 (by omega) (by omega) (by omega) ?_) (by decide))
    have y13 : M1 598 100 = v6 := e12
    have y16 : M1 598 107 = v14 := e15
    have hE := ES.emitO hE e11 (340 + v8) 0 (kk + 2) (Or.inr (Or.inr (Or.inr (by omega)))) (by omega) (by omega) (by omega)
    refine jr.aload_n rfl rfl ?_
    have e18 : M1 598 73 = v3 := ((w1_5 73 (by decide) (by decide) (by decide)).trans e3)
    obtain ⟨v19, e19⟩ : ∃ z, M 598 72 = z := ⟨_, rfl⟩
    have b19 : 0 ≤ v19 ∧ v19 ≤ 1600 := by rw [← e19]; exact hI_M 598 72 (by decide)
    have e20 : M1 598 72 = v19 := ((w1_5 72 (by decide) (by decide) (by decide)).trans e19)
    obtain ⟨v22, e22⟩ : ∃ z, M1 598 89 = z := ⟨_, rfl⟩
    have b22 : 0 ≤ v22 ∧ v22 ≤ 301 := by rw [← e22]; exact hI_M1 598 89 (by decide)
    obtain ⟨v26, e26⟩ : ∃ z, M 598 74 = z := ⟨_, rfl⟩
    have b26 : 0 ≤ v26 ∧ v26 ≤ 4 := by rw [← e26]; exact hI_M 598 74 (by decide)
    have e27 : M1 598 74 = v26 := ((w1_5 74 (by decide) (by decide) (by decide)).trans e26)
    refine jr_v rfl rfl (Or.inl rfl) rfl rfl (by decide) rfl ⟨rfl, Nat.le_of_ble_eq_true rfl, Nat.le_of_ble_eq_true rfl⟩ rfl (jc.deep (r_next (RI.u (RI.u (RI.u hI_M1 (a := 659) (i := v10) (by rw [xri_row rfl rfl]; show (0 : Int) ≤ _ ∧ _ ≤ (1000 : Int); omega)) (a := 660) (i := v10) (by rw [xri_row rfl rfl]; show (-9223372036854775808 : Int) ≤ _ ∧ _ ≤ (9223372036854775807 : Int); omega)) (a := 598) (i := 90) (show (0 : Int) ≤ _ ∧ _ ≤ (2200 : Int) from by omega)) (RH.o (RH.o (RH.o hH_M1 (by decide) (by decide) (by decide)) (by decide) (by decide) (by decide)) (by decide) (by decide) (by decide)) (RF.o (RF.o (RF.o hS_M1 (by decide) (by decide)) (by decide) (by decide)) (by decide) (by decide))   (by rw [((ju_i _ _ (by decide)).trans ((ju_c _ _ (by decide)).trans ((ju_c _ _ (by decide)).trans e18))), ((ju_i _ _ (by decide)).trans ((ju_c _ _ (by decide)).trans ((ju_c _ _ (by decide)).trans e20)))]; omega) (fun M17 hI_M17 hH_M17 hS_M17  w17_0 w17_1 w17_2 w17_3 w17_4 w17_5 w17_6 => ?_)) (by decide))
    have y25 : (ju (ju (ju M1 659 v10 (340 + v8)) 660 v10 0) 598 90 (v10 + 1)) 598 73 = v3 := ((ju_i _ _ (by decide)).trans ((ju_c _ _ (by decide)).trans ((ju_c _ _ (by decide)).trans e18)))
    have y28 : (ju (ju (ju M1 659 v10 (340 + v8)) 660 v10 0) 598 90 (v10 + 1)) 598 74 = v26 := ((ju_i _ _ (by decide)).trans ((ju_c _ _ (by decide)).trans ((ju_c _ _ (by decide)).trans e27)))
    have tb17 : TK (ju (ju (ju M1 659 v10 (340 + v8)) 660 v10 0) 598 90 (v10 + 1)) = TK M1 := ((TK.o (Or.inr ⟨by decide, by decide⟩)).trans ((TK.o (Or.inl (by decide))).trans ((TK.o (Or.inl (by decide))).trans rfl)))
    have y21 : (ju (ju (ju M1 659 v10 (340 + v8)) 660 v10 0) 598 90 (v10 + 1)) 598 73 = v3 := ((ju_i _ _ (by decide)).trans ((ju_c _ _ (by decide)).trans ((ju_c _ _ (by decide)).trans e18)))
    have y23 : (ju (ju (ju M1 659 v10 (340 + v8)) 660 v10 0) 598 90 (v10 + 1)) 598 89 = v22 := ((ju_i _ _ (by decide)).trans ((ju_c _ _ (by decide)).trans ((ju_c _ _ (by decide)).trans e22)))
    have y24 : (ju (ju (ju M1 659 v10 (340 + v8)) 660 v10 0) 598 90 (v10 + 1)) 598 100 = v6 := ((ju_i _ _ (by decide)).trans ((ju_c _ _ (by decide)).trans ((ju_c _ _ (by decide)).trans e12)))
    have x17_89 := w17_6 89 (by decide) (by decide) (by decide) (by decide) (by decide) (by decide) (by decide)
    have x17_100 := w17_6 100 (by decide) (by decide) (by decide) (by decide) (by decide) (by decide) (by decide)
    have hE := ES.fr2 hE w17_5 (w17_6 88 (by decide) (by decide) (by decide) (by decide) (by decide) (by decide) (by decide)) (w17_6 90 (by decide) (by decide) (by decide) (by decide) (by decide) (by decide) (by decide)) (w17_6 101 (by decide) (by decide) (by decide) (by decide) (by decide) (by decide) (by decide)) (w17_6 102 (by decide) (by decide) (by decide) (by decide) (by decide) (by decide) (by decide)) (w17_6 107 (by decide) (by decide) (by decide) (by decide) (by decide) (by decide) (by decide)) (k' := kk + 2) (d' := 0) (z' := 0) (by omega) (by omega) (by omega) (by omega)
    refine jr.iconst rfl ?_
    have e29 : M17 598 72 = v19 := ((w17_6 72 (by decide) (by decide) (by decide) (by decide) (by decide) (by decide) (by decide)).trans ((ju_i _ _ (by decide)).trans ((ju_c _ _ (by decide)).trans ((ju_c _ _ (by decide)).trans e20))))
    have y30 : M17 598 72 = v19 := e29
    obtain ⟨v31, e31⟩ : ∃ z, M17 598 73 = z := ⟨_, rfl⟩
    have b31 : 0 ≤ v31 ∧ v31 ≤ 1600 := by rw [← e31]; exact hI_M17 598 73 (by decide)
    have y32 : M17 598 73 = v31 := e31
    obtain ⟨v33, e33⟩ : ∃ z, M17 598 74 = z := ⟨_, rfl⟩
    have b33 : 0 ≤ v33 ∧ v33 ≤ 4 := by rw [← e33]; exact hI_M17 598 74 (by decide)
    have y34 : M17 598 74 = v33 := e33
    obtain ⟨v35, e35⟩ : ∃ z, M17 598 79 = z := ⟨_, rfl⟩
    have b35 : 0 ≤ v35 ∧ v35 ≤ 255 := by rw [← e35]; exact hI_M17 598 79 (by decide)
    have y36 : M17 598 79 = v35 := e35
    obtain ⟨v37, e37⟩ : ∃ z, M1 598 80 = z := ⟨_, rfl⟩
    have b37 : 0 ≤ v37 ∧ v37 ≤ 7 := by rw [← e37]; exact hI_M1 598 80 (by decide)
    have e38 : M17 598 80 = v37 := ((w17_6 80 (by decide) (by decide) (by decide) (by decide) (by decide) (by decide) (by decide)).trans ((ju_i _ _ (by decide)).trans ((ju_c _ _ (by decide)).trans ((ju_c _ _ (by decide)).trans e37))))
    have y39 : M17 598 80 = v37 := e38
    have e40 : M17 598 89 = v22 := ((w17_6 89 (by decide) (by decide) (by decide) (by decide) (by decide) (by decide) (by decide)).trans ((ju_i _ _ (by decide)).trans ((ju_c _ _ (by decide)).trans ((ju_c _ _ (by decide)).trans e22))))
    have y41 : M17 598 89 = v22 := e40
    have e42 : M17 598 90 = v10 + 1 := ((w17_6 90 (by decide) (by decide) (by decide) (by decide) (by decide) (by decide) (by decide)).trans (ju_same _ _ _ _))
    have y43 : M17 598 90 = v10 + 1 := e42
    have e44 : M17 598 100 = v6 := ((w17_6 100 (by decide) (by decide) (by decide) (by decide) (by decide) (by decide) (by decide)).trans ((ju_i _ _ (by decide)).trans ((ju_c _ _ (by decide)).trans ((ju_c _ _ (by decide)).trans e12))))
    have y45 : M17 598 100 = v6 := e44
    have e46 : M17 598 107 = v14 := ((w17_6 107 (by decide) (by decide) (by decide) (by decide) (by decide) (by decide) (by decide)).trans ((ju_i _ _ (by decide)).trans ((ju_c _ _ (by decide)).trans ((ju_c _ _ (by decide)).trans e15))))
    have y47 : M17 598 107 = v14 := e46
    exact jr.ireturn rfl rfl rfl (q _ _ hI_M17 hH_M17 hS_M17  (by omega) (by by_cases hf : v37 = 0; (first | (exact Or.inr ⟨⟨by omega, ES.adj hE (k' := kk) (z' := 0) (by omega) (by omega) (by omega), by omega, by omega, by omega, by omega⟩, by omega⟩) | (exfalso; omega)); (exact Or.inl ⟨by omega, by omega⟩)) (by omega) (by omega) (by omega) (CP.f (CP.emit (CP.f hCP (fun i => w1_4 659 i (by decide)) (w1_5 90 (by decide) (by decide) (by decide))) e11) (fun i => w17_5 659 i (by decide)) (w17_6 90 (by decide) (by decide) (by decide) (by decide) (by decide) (by decide) (by decide))) (by omega) (fun a i f598 f659 f660 f664 f666 f667 => ((w17_5 a i f598).trans ((ju_c _ _ f598).trans ((ju_c _ _ f660).trans ((ju_c _ _ f659).trans ((w1_4 a i f598).trans (hF_M a i f598 f659 f660 f664 f666 f667))))))) (fun i g73 g74 g75 g76 g77 g78 g79 g80 g81 g89 g90 g100 g102 => ((w17_6 i g73 g74 g75 g76 g77 g78 g79).trans ((ju_i _ _ g90).trans ((ju_c _ _ (by decide)).trans ((ju_c _ _ (by decide)).trans ((w1_5 i g80 g81 g89).trans (hG_M i g73 g74 g75 g76 g77 g78 g79 g80 g81 g89 g90 g100 g102))))))))
