theorem r_takeOperand_L18 {A : Nat → Option (Nat × (Nat → Int32))} {Q : Option Value → jm → Prop} {b kk : Int} {M0 : jm} (q : ∀ (r : Int) (M' : jm), RI M' → RH M' → RF M' → 0 ≤ r ∧ r ≤ 1 → (BS M' ∨ (GS M' b r kk ∧ TK M' < TK M0)) → TK M' ≤ TK M0 → M' 598 73 ≤ M' 598 72 → (M' 598 80 ≠ 0 ∨ TK M' < TK M0) → CP M0 M' → M0 598 89 ≤ M' 598 89 → (∀ (a : Nat) (i : Int), a ≠ 598 → a ≠ 659 → a ≠ 660 → a ≠ 664 → a ≠ 666 → a ≠ 667 → M' a i = M0 a i) → (∀ (i : Int), i ≠ 73 → i ≠ 74 → i ≠ 75 → i ≠ 76 → i ≠ 77 → i ≠ 78 → i ≠ 79 → i ≠ 80 → i ≠ 81 → i ≠ 89 → i ≠ 90 → i ≠ 100 → i ≠ 102 → M' 598 i = M0 598 i) → Q (some (.int (Int32.ofInt r))) M') : ∀ (M : jm) , RI M → RH M → RF M → (∀ (a : Nat) (i : Int), a ≠ 598 → a ≠ 659 → a ≠ 660 → a ≠ 664 → a ≠ 666 → a ≠ 667 → M a i = M0 a i) → (∀ (i : Int), i ≠ 73 → i ≠ 74 → i ≠ 75 → i ≠ 76 → i ≠ 77 → i ≠ 78 → i ≠ 79 → i ≠ 80 → i ≠ 81 → i ≠ 89 → i ≠ 90 → i ≠ 100 → i ≠ 102 → M 598 i = M0 598 i) → GS M b 0 kk → TK M = TK M0 → CP M0 M → M 598 89 = M0 598 89 → M 598 74 = 3 → jr A 5 xm_360 18 [(0, .ref (598))] [] M Q := by
    intro M  hI_M hH_M hS_M hF_M hG_M  hy0 hy1 hy2 hy3 hy4
    have p0 := hy0
    have hCP := hy2
    obtain ⟨gs1, gs2, gs3, gs4, gs5, gs6⟩ := id hy0
    have hE := gs2
    have sl := ES.sgle gs2
    have bb := ES.bb gs2
    have kb := ES.kz gs2
    have b107 : (0 : Int) ≤ M 598 107 ∧ M 598 107 ≤ 16 := hI_M 598 107 (by decide)
    have b73 : (0 : Int) ≤ M 598 73 ∧ M 598 73 ≤ 1600 := hI_M 598 73 (by decide)
    have b88 : (0 : Int) ≤ M 598 88 ∧ M 598 88 ≤ 16 := hI_M 598 88 (by decide)
    have b100 : (0 : Int) ≤ M 598 100 ∧ M 598 100 ≤ 13 := hI_M 598 100 (by decide)
    refine jr.aload_n rfl rfl ?_
    obtain ⟨v2, e2⟩ : ∃ z, M 598 89 = z := ⟨_, rfl⟩
    have b2 : 0 ≤ v2 ∧ v2 ≤ 301 := by rw [← e2]; exact hI_M 598 89 (by decide)
    obtain ⟨v3, e3⟩ : ∃ z, M 598 73 = z := ⟨_, rfl⟩
    have b3 : 0 ≤ v3 ∧ v3 ≤ 1600 := by rw [← e3]; exact hI_M 598 73 (by decide)
    obtain ⟨v6, e6⟩ : ∃ z, M 598 100 = z := ⟨_, rfl⟩
    have b6 : 0 ≤ v6 ∧ v6 ≤ 13 := by rw [← e6]; exact hI_M 598 100 (by decide)
    refine jr_v rfl rfl (Or.inl rfl) rfl rfl (by decide) rfl ⟨rfl, Nat.le_of_ble_eq_true rfl, Nat.le_of_ble_eq_true rfl⟩ rfl (jc.deep (r_node hI_M hH_M hS_M   (by rw [e2]; omega) (fun M1 hI_M1 hH_M1 hS_M1  w1_0 w1_1 w1_2 w1_3 w1_4 w1_5 => ?_)) (by decide))
    have tk1 : TK M1 = TK M := TK.fr (w1_5 73 (by decide) (by decide) (by decide)) (w1_5 74 (by decide) (by decide) (by decide))
    have y4 : M 598 73 = v3 := e3
    have y5 : M 598 89 = v2 := e2
    have y7 : M 598 100 = v6 := e6
    have x1_73 := w1_5 73 (by decide) (by decide) (by decide)
    have x1_100 := w1_5 100 (by decide) (by decide) (by decide)
    have hE := ES.fr2 hE w1_4 (w1_5 88 (by decide) (by decide) (by decide)) (w1_5 90 (by decide) (by decide) (by decide)) (w1_5 101 (by decide) (by decide) (by decide)) (w1_5 102 (by decide) (by decide) (by decide)) (w1_5 107 (by decide) (by decide) (by decide)) (k' := kk + 4) (d' := 0) (z' := 0) (by omega) (by omega) (by omega) (by omega)
    refine jr.aload_n rfl rfl ?_
    refine jr.aload_n rfl rfl ?_
    refine jr.bipush rfl (by decide) ?_
    refine jr_v rfl rfl (Or.inl rfl) rfl rfl (by decide) rfl ⟨rfl, Nat.le_of_ble_eq_true rfl, Nat.le_of_ble_eq_true rfl⟩ rfl (jc.deep (c_isSign hI_M1 (by omega) (fun t26_0 t26_1 => ?_) (fun f26_0 => ?_)) (by decide))
    · refine jr.if_eq rfl rfl (by omega) (fun h => absurd h (by decide)) (fun _ => ?_)
      refine jr.bipush rfl (by decide) ?_
      refine jr.goto rfl rfl ?_
      refine jr.iconst rfl ?_
      obtain ⟨v8, e8⟩ : ∃ z, M 598 102 = z := ⟨_, rfl⟩
      have b8 : 0 ≤ v8 ∧ v8 ≤ 400 := by rw [← e8]; exact hI_M 598 102 (by decide)
      have e9 : M1 598 102 = v8 := ((w1_5 102 (by decide) (by decide) (by decide)).trans e8)
      refine jr_v rfl rfl (Or.inl rfl) rfl rfl (by decide) rfl ⟨rfl, Nat.le_of_ble_eq_true rfl, Nat.le_of_ble_eq_true rfl⟩ rfl (jc.deep (r_push e9 (by omega) (by omega) (by omega) ?_) (by decide))
      have hE := ES.deep hE e9 10 (-1) 1 (kk + 2) (by omega) (by omega) (by omega)
      refine jr.aload_n rfl rfl ?_
      refine jr_v rfl rfl (Or.inl rfl) rfl rfl (by decide) rfl ⟨rfl, Nat.le_of_ble_eq_true rfl, Nat.le_of_ble_eq_true rfl⟩ rfl (jc.deep (c_good (RI.u (RI.u (RI.u (RI.u hI_M1 (a := 664) (i := v8) (by rw [xri_row rfl rfl]; show (0 : Int) ≤ _ ∧ _ ≤ (255 : Int); omega)) (a := 666) (i := v8) (by rw [xri_row rfl rfl]; show (-1 : Int) ≤ _ ∧ _ ≤ (68 : Int); omega)) (a := 667) (i := v8) (by rw [xri_row rfl rfl]; show (0 : Int) ≤ _ ∧ _ ≤ (4 : Int); omega)) (a := 598) (i := 102) (show (0 : Int) ≤ _ ∧ _ ≤ (400 : Int) from by omega))  (fun t44_0 => ?_) (fun f44_0 => ?_)) (by decide))
      · refine jr.if_eq rfl rfl (by omega) (fun h => absurd h (by decide)) (fun _ => ?_)
        refine jr.aload_n rfl rfl ?_
        have e11 : M1 598 73 = v3 := ((w1_5 73 (by decide) (by decide) (by decide)).trans e3)
        obtain ⟨v12, e12⟩ : ∃ z, M 598 72 = z := ⟨_, rfl⟩
        have b12 : 0 ≤ v12 ∧ v12 ≤ 1600 := by rw [← e12]; exact hI_M 598 72 (by decide)
        have e13 : M1 598 72 = v12 := ((w1_5 72 (by decide) (by decide) (by decide)).trans e12)
        have e14 : M1 598 100 = v6 := ((w1_5 100 (by decide) (by decide) (by decide)).trans e6)
        obtain ⟨v16, e16⟩ : ∃ z, M1 598 89 = z := ⟨_, rfl⟩
        have b16 : 0 ≤ v16 ∧ v16 ≤ 301 := by rw [← e16]; exact hI_M1 598 89 (by decide)
        obtain ⟨v20, e20⟩ : ∃ z, M 598 74 = z := ⟨_, rfl⟩
        have b20 : 0 ≤ v20 ∧ v20 ≤ 4 := by rw [← e20]; exact hI_M 598 74 (by decide)
        have e21 : M1 598 74 = v20 := ((w1_5 74 (by decide) (by decide) (by decide)).trans e20)
        obtain ⟨v23, e23⟩ : ∃ z, M 598 79 = z := ⟨_, rfl⟩
        have b23 : 0 ≤ v23 ∧ v23 ≤ 255 := by rw [← e23]; exact hI_M 598 79 (by decide)
        have e24 : M1 598 79 = v23 := ((w1_5 79 (by decide) (by decide) (by decide)).trans e23)
        obtain ⟨v26, e26⟩ : ∃ z, M1 598 80 = z := ⟨_, rfl⟩
        have b26 : 0 ≤ v26 ∧ v26 ≤ 7 := by rw [← e26]; exact hI_M1 598 80 (by decide)
        refine jr_v rfl rfl (Or.inl rfl) rfl rfl (by decide) rfl ⟨rfl, Nat.le_of_ble_eq_true rfl, Nat.le_of_ble_eq_true rfl⟩ rfl (jc.deep (r_deeper (RI.u (RI.u (RI.u (RI.u hI_M1 (a := 664) (i := v8) (by rw [xri_row rfl rfl]; show (0 : Int) ≤ _ ∧ _ ≤ (255 : Int); omega)) (a := 666) (i := v8) (by rw [xri_row rfl rfl]; show (-1 : Int) ≤ _ ∧ _ ≤ (68 : Int); omega)) (a := 667) (i := v8) (by rw [xri_row rfl rfl]; show (0 : Int) ≤ _ ∧ _ ≤ (4 : Int); omega)) (a := 598) (i := 102) (show (0 : Int) ≤ _ ∧ _ ≤ (400 : Int) from by omega)) (RH.o (RH.o (RH.o (RH.o hH_M1 (by decide) (by decide) (by decide)) (by decide) (by decide) (by decide)) (by decide) (by decide) (by decide)) (by decide) (by decide) (by decide)) (RF.o (RF.o (RF.o (RF.o hS_M1 (by decide) (by decide)) (by decide) (by decide)) (by decide) (by decide)) (by decide) (by decide))   (by rw [((ju_i _ _ (by decide)).trans ((ju_c _ _ (by decide)).trans ((ju_c _ _ (by decide)).trans ((ju_c _ _ (by decide)).trans e11)))), ((ju_i _ _ (by decide)).trans ((ju_c _ _ (by decide)).trans ((ju_c _ _ (by decide)).trans ((ju_c _ _ (by decide)).trans e13))))]; omega) (by rw [((ju_i _ _ (by decide)).trans ((ju_c _ _ (by decide)).trans ((ju_c _ _ (by decide)).trans ((ju_c _ _ (by decide)).trans e14))))]; omega) (fun M10 hI_M10 hH_M10 hS_M10  w10_0 w10_1 w10_2 w10_3 w10_4 w10_5 w10_6 w10_7 w10_8 w10_9 => ?_)) (by decide))
        have y19 : (ju (ju (ju (ju M1 664 v8 10) 666 v8 (-1)) 667 v8 1) 598 102 (v8 + 1)) 598 73 = v3 := ((ju_i _ _ (by decide)).trans ((ju_c _ _ (by decide)).trans ((ju_c _ _ (by decide)).trans ((ju_c _ _ (by decide)).trans e11))))
        have y22 : (ju (ju (ju (ju M1 664 v8 10) 666 v8 (-1)) 667 v8 1) 598 102 (v8 + 1)) 598 74 = v20 := ((ju_i _ _ (by decide)).trans ((ju_c _ _ (by decide)).trans ((ju_c _ _ (by decide)).trans ((ju_c _ _ (by decide)).trans e21))))
        have y25 : (ju (ju (ju (ju M1 664 v8 10) 666 v8 (-1)) 667 v8 1) 598 102 (v8 + 1)) 598 79 = v23 := ((ju_i _ _ (by decide)).trans ((ju_c _ _ (by decide)).trans ((ju_c _ _ (by decide)).trans ((ju_c _ _ (by decide)).trans e24))))
        have y27 : (ju (ju (ju (ju M1 664 v8 10) 666 v8 (-1)) 667 v8 1) 598 102 (v8 + 1)) 598 80 = v26 := ((ju_i _ _ (by decide)).trans ((ju_c _ _ (by decide)).trans ((ju_c _ _ (by decide)).trans ((ju_c _ _ (by decide)).trans e26))))
        have y28 : (ju (ju (ju (ju M1 664 v8 10) 666 v8 (-1)) 667 v8 1) 598 102 (v8 + 1)) 598 100 = v6 := ((ju_i _ _ (by decide)).trans ((ju_c _ _ (by decide)).trans ((ju_c _ _ (by decide)).trans ((ju_c _ _ (by decide)).trans e14))))
        have tb10 : TK (ju (ju (ju (ju M1 664 v8 10) 666 v8 (-1)) 667 v8 1) 598 102 (v8 + 1)) = TK M1 := ((TK.o (Or.inr ⟨by decide, by decide⟩)).trans ((TK.o (Or.inl (by decide))).trans ((TK.o (Or.inl (by decide))).trans ((TK.o (Or.inl (by decide))).trans rfl))))
        have y15 : (ju (ju (ju (ju M1 664 v8 10) 666 v8 (-1)) 667 v8 1) 598 102 (v8 + 1)) 598 73 = v3 := ((ju_i _ _ (by decide)).trans ((ju_c _ _ (by decide)).trans ((ju_c _ _ (by decide)).trans ((ju_c _ _ (by decide)).trans e11))))
        have y17 : (ju (ju (ju (ju M1 664 v8 10) 666 v8 (-1)) 667 v8 1) 598 102 (v8 + 1)) 598 89 = v16 := ((ju_i _ _ (by decide)).trans ((ju_c _ _ (by decide)).trans ((ju_c _ _ (by decide)).trans ((ju_c _ _ (by decide)).trans e16))))
        have y18 : (ju (ju (ju (ju M1 664 v8 10) 666 v8 (-1)) 667 v8 1) 598 102 (v8 + 1)) 598 100 = v6 := ((ju_i _ _ (by decide)).trans ((ju_c _ _ (by decide)).trans ((ju_c _ _ (by decide)).trans ((ju_c _ _ (by decide)).trans e14))))
        have x10_89 := w10_9 89 (by decide) (by decide) (by decide) (by decide) (by decide) (by decide) (by decide) (by decide) (by decide) (by decide)
        have hE := ES.fr2 hE w10_8 (w10_9 88 (by decide) (by decide) (by decide) (by decide) (by decide) (by decide) (by decide) (by decide) (by decide) (by decide)) (w10_9 90 (by decide) (by decide) (by decide) (by decide) (by decide) (by decide) (by decide) (by decide) (by decide) (by decide)) (w10_9 101 (by decide) (by decide) (by decide) (by decide) (by decide) (by decide) (by decide) (by decide) (by decide) (by decide)) (w10_9 102 (by decide) (by decide) (by decide) (by decide) (by decide) (by decide) (by decide) (by decide) (by decide) (by decide)) (w10_9 107 (by decide) (by decide) (by decide) (by decide) (by decide) (by decide) (by decide) (by decide) (by decide) (by decide)) (k' := kk + 2) (d' := 0) (z' := 0) (by omega) (by omega) (by omega) (by omega)
        refine jr.iconst rfl ?_
        have e29 : M10 598 72 = v12 := ((w10_9 72 (by decide) (by decide) (by decide) (by decide) (by decide) (by decide) (by decide) (by decide) (by decide) (by decide)).trans ((ju_i _ _ (by decide)).trans ((ju_c _ _ (by decide)).trans ((ju_c _ _ (by decide)).trans ((ju_c _ _ (by decide)).trans e13)))))
        have y30 : M10 598 72 = v12 := e29
        obtain ⟨v31, e31⟩ : ∃ z, M10 598 73 = z := ⟨_, rfl⟩
        have b31 : 0 ≤ v31 ∧ v31 ≤ 1600 := by rw [← e31]; exact hI_M10 598 73 (by decide)
        have y32 : M10 598 73 = v31 := e31
        obtain ⟨v33, e33⟩ : ∃ z, M10 598 74 = z := ⟨_, rfl⟩
        have b33 : 0 ≤ v33 ∧ v33 ≤ 4 := by rw [← e33]; exact hI_M10 598 74 (by decide)
        have y34 : M10 598 74 = v33 := e33
        obtain ⟨v35, e35⟩ : ∃ z, M10 598 79 = z := ⟨_, rfl⟩
        have b35 : 0 ≤ v35 ∧ v35 ≤ 255 := by rw [← e35]; exact hI_M10 598 79 (by decide)
        have y36 : M10 598 79 = v35 := e35
        obtain ⟨v37, e37⟩ : ∃ z, M10 598 80 = z := ⟨_, rfl⟩
        have b37 : 0 ≤ v37 ∧ v37 ≤ 7 := by rw [← e37]; exact hI_M10 598 80 (by decide)
        have y38 : M10 598 80 = v37 := e37
        have e39 : M10 598 89 = v16 := ((w10_9 89 (by decide) (by decide) (by decide) (by decide) (by decide) (by decide) (by decide) (by decide) (by decide) (by decide)).trans ((ju_i _ _ (by decide)).trans ((ju_c _ _ (by decide)).trans ((ju_c _ _ (by decide)).trans ((ju_c _ _ (by decide)).trans e16)))))
        have y40 : M10 598 89 = v16 := e39
        obtain ⟨v41, e41⟩ : ∃ z, M 598 90 = z := ⟨_, rfl⟩
        have b41 : 0 ≤ v41 ∧ v41 ≤ 2200 := by rw [← e41]; exact hI_M 598 90 (by decide)
        have e42 : M1 598 90 = v41 := ((w1_5 90 (by decide) (by decide) (by decide)).trans e41)
        have e43 : M10 598 90 = v41 := ((w10_9 90 (by decide) (by decide) (by decide) (by decide) (by decide) (by decide) (by decide) (by decide) (by decide) (by decide)).trans ((ju_i _ _ (by decide)).trans ((ju_c _ _ (by decide)).trans ((ju_c _ _ (by decide)).trans ((ju_c _ _ (by decide)).trans e42)))))
        have y44 : M10 598 90 = v41 := e43
        obtain ⟨v45, e45⟩ : ∃ z, M10 598 100 = z := ⟨_, rfl⟩
        have b45 : 0 ≤ v45 ∧ v45 ≤ 13 := by rw [← e45]; exact hI_M10 598 100 (by decide)
        have y46 : M10 598 100 = v45 := e45
        obtain ⟨v47, e47⟩ : ∃ z, M 598 107 = z := ⟨_, rfl⟩
        have b47 : 0 ≤ v47 ∧ v47 ≤ 16 := by rw [← e47]; exact hI_M 598 107 (by decide)
        have e48 : M1 598 107 = v47 := ((w1_5 107 (by decide) (by decide) (by decide)).trans e47)
        have e49 : M10 598 107 = v47 := ((w10_9 107 (by decide) (by decide) (by decide) (by decide) (by decide) (by decide) (by decide) (by decide) (by decide) (by decide)).trans ((ju_i _ _ (by decide)).trans ((ju_c _ _ (by decide)).trans ((ju_c _ _ (by decide)).trans ((ju_c _ _ (by decide)).trans e48)))))
        have y50 : M10 598 107 = v47 := e49
        exact jr.ireturn rfl rfl rfl (q _ _ hI_M10 hH_M10 hS_M10  (by omega) (by by_cases hf : v37 = 0; (first | (exact Or.inr ⟨⟨by omega, ES.adj hE (k' := kk) (z' := 0) (by omega) (by omega) (by omega), by omega, by omega, by omega, by omega⟩, by omega⟩) | (exfalso; omega)); (exact Or.inl ⟨by omega, by omega⟩)) (by omega) (by omega) (by omega) (CP.f (CP.o (CP.o (CP.o (CP.o (CP.f hCP (fun i => w1_4 659 i (by decide)) (w1_5 90 (by decide) (by decide) (by decide))) (by decide) (Or.inl (by decide))) (by decide) (Or.inl (by decide))) (by decide) (Or.inl (by decide))) (by decide) (Or.inr (by decide))) (fun i => w10_8 659 i (by decide)) (w10_9 90 (by decide) (by decide) (by decide) (by decide) (by decide) (by decide) (by decide) (by decide) (by decide) (by decide))) (by omega) (fun a i f598 f659 f660 f664 f666 f667 => ((w10_8 a i f598).trans ((ju_c _ _ f598).trans ((ju_c _ _ f667).trans ((ju_c _ _ f666).trans ((ju_c _ _ f664).trans ((w1_4 a i f598).trans (hF_M a i f598 f659 f660 f664 f666 f667)))))))) (fun i g73 g74 g75 g76 g77 g78 g79 g80 g81 g89 g90 g100 g102 => ((w10_9 i g73 g74 g75 g76 g77 g78 g79 g80 g81 g100).trans ((ju_i _ _ g102).trans ((ju_c _ _ (by decide)).trans ((ju_c _ _ (by decide)).trans ((ju_c _ _ (by decide)).trans ((w1_5 i g80 g81 g89).trans (hG_M i g73 g74 g75 g76 g77 g78 g79 g80 g81 g89 g90 g100 g102)))))))))
      · refine jr.if_eq rfl rfl (by omega) (fun _ => ?_) (fun h => absurd (by decide) h)
        refine jr.iconst rfl ?_
        obtain ⟨v51, e51⟩ : ∃ z, M 598 72 = z := ⟨_, rfl⟩
        have b51 : 0 ≤ v51 ∧ v51 ≤ 1600 := by rw [← e51]; exact hI_M 598 72 (by decide)
        have e52 : M1 598 72 = v51 := ((w1_5 72 (by decide) (by decide) (by decide)).trans e51)
        have y53 : (ju (ju (ju (ju M1 664 v8 10) 666 v8 (-1)) 667 v8 1) 598 102 (v8 + 1)) 598 72 = v51 := ((ju_i _ _ (by decide)).trans ((ju_c _ _ (by decide)).trans ((ju_c _ _ (by decide)).trans ((ju_c _ _ (by decide)).trans e52))))
        have e54 : M1 598 73 = v3 := ((w1_5 73 (by decide) (by decide) (by decide)).trans e3)
        have y55 : (ju (ju (ju (ju M1 664 v8 10) 666 v8 (-1)) 667 v8 1) 598 102 (v8 + 1)) 598 73 = v3 := ((ju_i _ _ (by decide)).trans ((ju_c _ _ (by decide)).trans ((ju_c _ _ (by decide)).trans ((ju_c _ _ (by decide)).trans e54))))
        obtain ⟨v56, e56⟩ : ∃ z, M 598 74 = z := ⟨_, rfl⟩
        have b56 : 0 ≤ v56 ∧ v56 ≤ 4 := by rw [← e56]; exact hI_M 598 74 (by decide)
        have e57 : M1 598 74 = v56 := ((w1_5 74 (by decide) (by decide) (by decide)).trans e56)
        have y58 : (ju (ju (ju (ju M1 664 v8 10) 666 v8 (-1)) 667 v8 1) 598 102 (v8 + 1)) 598 74 = v56 := ((ju_i _ _ (by decide)).trans ((ju_c _ _ (by decide)).trans ((ju_c _ _ (by decide)).trans ((ju_c _ _ (by decide)).trans e57))))
        obtain ⟨v59, e59⟩ : ∃ z, M 598 79 = z := ⟨_, rfl⟩
        have b59 : 0 ≤ v59 ∧ v59 ≤ 255 := by rw [← e59]; exact hI_M 598 79 (by decide)
        have e60 : M1 598 79 = v59 := ((w1_5 79 (by decide) (by decide) (by decide)).trans e59)
        have y61 : (ju (ju (ju (ju M1 664 v8 10) 666 v8 (-1)) 667 v8 1) 598 102 (v8 + 1)) 598 79 = v59 := ((ju_i _ _ (by decide)).trans ((ju_c _ _ (by decide)).trans ((ju_c _ _ (by decide)).trans ((ju_c _ _ (by decide)).trans e60))))
        obtain ⟨v62, e62⟩ : ∃ z, M1 598 80 = z := ⟨_, rfl⟩
        have b62 : 0 ≤ v62 ∧ v62 ≤ 7 := by rw [← e62]; exact hI_M1 598 80 (by decide)
        have y63 : (ju (ju (ju (ju M1 664 v8 10) 666 v8 (-1)) 667 v8 1) 598 102 (v8 + 1)) 598 80 = v62 := ((ju_i _ _ (by decide)).trans ((ju_c _ _ (by decide)).trans ((ju_c _ _ (by decide)).trans ((ju_c _ _ (by decide)).trans e62))))
        obtain ⟨v64, e64⟩ : ∃ z, M1 598 89 = z := ⟨_, rfl⟩
        have b64 : 0 ≤ v64 ∧ v64 ≤ 301 := by rw [← e64]; exact hI_M1 598 89 (by decide)
        have y65 : (ju (ju (ju (ju M1 664 v8 10) 666 v8 (-1)) 667 v8 1) 598 102 (v8 + 1)) 598 89 = v64 := ((ju_i _ _ (by decide)).trans ((ju_c _ _ (by decide)).trans ((ju_c _ _ (by decide)).trans ((ju_c _ _ (by decide)).trans e64))))
        obtain ⟨v66, e66⟩ : ∃ z, M 598 90 = z := ⟨_, rfl⟩
        have b66 : 0 ≤ v66 ∧ v66 ≤ 2200 := by rw [← e66]; exact hI_M 598 90 (by decide)
        have e67 : M1 598 90 = v66 := ((w1_5 90 (by decide) (by decide) (by decide)).trans e66)
        have y68 : (ju (ju (ju (ju M1 664 v8 10) 666 v8 (-1)) 667 v8 1) 598 102 (v8 + 1)) 598 90 = v66 := ((ju_i _ _ (by decide)).trans ((ju_c _ _ (by decide)).trans ((ju_c _ _ (by decide)).trans ((ju_c _ _ (by decide)).trans e67))))
        have e69 : M1 598 100 = v6 := ((w1_5 100 (by decide) (by decide) (by decide)).trans e6)
        have y70 : (ju (ju (ju (ju M1 664 v8 10) 666 v8 (-1)) 667 v8 1) 598 102 (v8 + 1)) 598 100 = v6 := ((ju_i _ _ (by decide)).trans ((ju_c _ _ (by decide)).trans ((ju_c _ _ (by decide)).trans ((ju_c _ _ (by decide)).trans e69))))
        obtain ⟨v71, e71⟩ : ∃ z, M 598 107 = z := ⟨_, rfl⟩
        have b71 : 0 ≤ v71 ∧ v71 ≤ 16 := by rw [← e71]; exact hI_M 598 107 (by decide)
        have e72 : M1 598 107 = v71 := ((w1_5 107 (by decide) (by decide) (by decide)).trans e71)
        have y73 : (ju (ju (ju (ju M1 664 v8 10) 666 v8 (-1)) 667 v8 1) 598 102 (v8 + 1)) 598 107 = v71 := ((ju_i _ _ (by decide)).trans ((ju_c _ _ (by decide)).trans ((ju_c _ _ (by decide)).trans ((ju_c _ _ (by decide)).trans e72))))
        have y74 : TK (ju (ju (ju (ju M1 664 v8 10) 666 v8 (-1)) 667 v8 1) 598 102 (v8 + 1)) = TK M1 := ((TK.o (Or.inr ⟨by decide, by decide⟩)).trans ((TK.o (Or.inl (by decide))).trans ((TK.o (Or.inl (by decide))).trans ((TK.o (Or.inl (by decide))).trans rfl))))
        exact jr.ireturn rfl rfl rfl (q _ _ (RI.u (RI.u (RI.u (RI.u hI_M1 (a := 664) (i := v8) (by rw [xri_row rfl rfl]; show (0 : Int) ≤ _ ∧ _ ≤ (255 : Int); omega)) (a := 666) (i := v8) (by rw [xri_row rfl rfl]; show (-1 : Int) ≤ _ ∧ _ ≤ (68 : Int); omega)) (a := 667) (i := v8) (by rw [xri_row rfl rfl]; show (0 : Int) ≤ _ ∧ _ ≤ (4 : Int); omega)) (a := 598) (i := 102) (show (0 : Int) ≤ _ ∧ _ ≤ (400 : Int) from by omega)) (RH.o (RH.o (RH.o (RH.o hH_M1 (by decide) (by decide) (by decide)) (by decide) (by decide) (by decide)) (by decide) (by decide) (by decide)) (by decide) (by decide) (by decide)) (RF.o (RF.o (RF.o (RF.o hS_M1 (by decide) (by decide)) (by decide) (by decide)) (by decide) (by decide)) (by decide) (by decide))  (by omega) (by by_cases hf : v62 = 0; (first | (exact Or.inr ⟨⟨by omega, ES.adj hE (k' := kk) (z' := 0) (by omega) (by omega) (by omega), by omega, by omega, by omega, by omega⟩, by omega⟩) | (exfalso; omega)); (exact Or.inl ⟨by omega, by omega⟩)) (by omega) (by omega) (by omega) (CP.o (CP.o (CP.o (CP.o (CP.f hCP (fun i => w1_4 659 i (by decide)) (w1_5 90 (by decide) (by decide) (by decide))) (by decide) (Or.inl (by decide))) (by decide) (Or.inl (by decide))) (by decide) (Or.inl (by decide))) (by decide) (Or.inr (by decide))) (by omega) (fun a i f598 f659 f660 f664 f666 f667 => ((ju_c _ _ f598).trans ((ju_c _ _ f667).trans ((ju_c _ _ f666).trans ((ju_c _ _ f664).trans ((w1_4 a i f598).trans (hF_M a i f598 f659 f660 f664 f666 f667))))))) (fun i g73 g74 g75 g76 g77 g78 g79 g80 g81 g89 g90 g100 g102 => ((ju_i _ _ g102).trans ((ju_c _ _ (by decide)).trans ((ju_c _ _ (by decide)).trans ((ju_c _ _ (by decide)).trans ((w1_5 i g80 g81 g89).trans (hG_M i g73 g74 g75 g76 g77 g78 g79 g80 g81 g89 g90 g100 g102))))))))
    · refine jr.if_eq rfl rfl (by omega) (fun _ => ?_) (fun h => absurd (by decide) h)
      refine jr.bipush rfl (by decide) ?_
      refine jr.iconst rfl ?_
      obtain ⟨v75, e75⟩ : ∃ z, M 598 102 = z := ⟨_, rfl⟩
      have b75 : 0 ≤ v75 ∧ v75 ≤ 400 := by rw [← e75]; exact hI_M 598 102 (by decide)
      have e76 : M1 598 102 = v75 := ((w1_5 102 (by decide) (by decide) (by decide)).trans e75)
      refine jr_v rfl rfl (Or.inl rfl) rfl rfl (by decide) rfl ⟨rfl, Nat.le_of_ble_eq_true rfl, Nat.le_of_ble_eq_true rfl⟩ rfl (jc.deep (r_push e76 (by omega) (by omega) (by omega) ?_) (by decide))
      have hE := ES.deep hE e76 11 (-1) 1 (kk + 2) (by omega) (by omega) (by omega)
      refine jr.aload_n rfl rfl ?_
      refine jr_v rfl rfl (Or.inl rfl) rfl rfl (by decide) rfl ⟨rfl, Nat.le_of_ble_eq_true rfl, Nat.le_of_ble_eq_true rfl⟩ rfl (jc.deep (c_good (RI.u (RI.u (RI.u (RI.u hI_M1 (a := 664) (i := v75) (by rw [xri_row rfl rfl]; show (0 : Int) ≤ _ ∧ _ ≤ (255 : Int); omega)) (a := 666) (i := v75) (by rw [xri_row rfl rfl]; show (-1 : Int) ≤ _ ∧ _ ≤ (68 : Int); omega)) (a := 667) (i := v75) (by rw [xri_row rfl rfl]; show (0 : Int) ≤ _ ∧ _ ≤ (4 : Int); omega)) (a := 598) (i := 102) (show (0 : Int) ≤ _ ∧ _ ≤ (400 : Int) from by omega))  (fun t44_0 => ?_) (fun f44_0 => ?_)) (by decide))
      · refine jr.if_eq rfl rfl (by omega) (fun h => absurd h (by decide)) (fun _ => ?_)
        refine jr.aload_n rfl rfl ?_
        have e78 : M1 598 73 = v3 := ((w1_5 73 (by decide) (by decide) (by decide)).trans e3)
        obtain ⟨v79, e79⟩ : ∃ z, M 598 72 = z := ⟨_, rfl⟩
        have b79 : 0 ≤ v79 ∧ v79 ≤ 1600 := by rw [← e79]; exact hI_M 598 72 (by decide)
        have e80 : M1 598 72 = v79 := ((w1_5 72 (by decide) (by decide) (by decide)).trans e79)
        have e81 : M1 598 100 = v6 := ((w1_5 100 (by decide) (by decide) (by decide)).trans e6)
        obtain ⟨v83, e83⟩ : ∃ z, M1 598 89 = z := ⟨_, rfl⟩
        have b83 : 0 ≤ v83 ∧ v83 ≤ 301 := by rw [← e83]; exact hI_M1 598 89 (by decide)
        obtain ⟨v87, e87⟩ : ∃ z, M 598 74 = z := ⟨_, rfl⟩
        have b87 : 0 ≤ v87 ∧ v87 ≤ 4 := by rw [← e87]; exact hI_M 598 74 (by decide)
        have e88 : M1 598 74 = v87 := ((w1_5 74 (by decide) (by decide) (by decide)).trans e87)
        obtain ⟨v90, e90⟩ : ∃ z, M 598 79 = z := ⟨_, rfl⟩
        have b90 : 0 ≤ v90 ∧ v90 ≤ 255 := by rw [← e90]; exact hI_M 598 79 (by decide)
        have e91 : M1 598 79 = v90 := ((w1_5 79 (by decide) (by decide) (by decide)).trans e90)
        obtain ⟨v93, e93⟩ : ∃ z, M1 598 80 = z := ⟨_, rfl⟩
        have b93 : 0 ≤ v93 ∧ v93 ≤ 7 := by rw [← e93]; exact hI_M1 598 80 (by decide)
        refine jr_v rfl rfl (Or.inl rfl) rfl rfl (by decide) rfl ⟨rfl, Nat.le_of_ble_eq_true rfl, Nat.le_of_ble_eq_true rfl⟩ rfl (jc.deep (r_deeper (RI.u (RI.u (RI.u (RI.u hI_M1 (a := 664) (i := v75) (by rw [xri_row rfl rfl]; show (0 : Int) ≤ _ ∧ _ ≤ (255 : Int); omega)) (a := 666) (i := v75) (by rw [xri_row rfl rfl]; show (-1 : Int) ≤ _ ∧ _ ≤ (68 : Int); omega)) (a := 667) (i := v75) (by rw [xri_row rfl rfl]; show (0 : Int) ≤ _ ∧ _ ≤ (4 : Int); omega)) (a := 598) (i := 102) (show (0 : Int) ≤ _ ∧ _ ≤ (400 : Int) from by omega)) (RH.o (RH.o (RH.o (RH.o hH_M1 (by decide) (by decide) (by decide)) (by decide) (by decide) (by decide)) (by decide) (by decide) (by decide)) (by decide) (by decide) (by decide)) (RF.o (RF.o (RF.o (RF.o hS_M1 (by decide) (by decide)) (by decide) (by decide)) (by decide) (by decide)) (by decide) (by decide))   (by rw [((ju_i _ _ (by decide)).trans ((ju_c _ _ (by decide)).trans ((ju_c _ _ (by decide)).trans ((ju_c _ _ (by decide)).trans e78)))), ((ju_i _ _ (by decide)).trans ((ju_c _ _ (by decide)).trans ((ju_c _ _ (by decide)).trans ((ju_c _ _ (by decide)).trans e80))))]; omega) (by rw [((ju_i _ _ (by decide)).trans ((ju_c _ _ (by decide)).trans ((ju_c _ _ (by decide)).trans ((ju_c _ _ (by decide)).trans e81))))]; omega) (fun M77 hI_M77 hH_M77 hS_M77  w77_0 w77_1 w77_2 w77_3 w77_4 w77_5 w77_6 w77_7 w77_8 w77_9 => ?_)) (by decide))
        have y86 : (ju (ju (ju (ju M1 664 v75 11) 666 v75 (-1)) 667 v75 1) 598 102 (v75 + 1)) 598 73 = v3 := ((ju_i _ _ (by decide)).trans ((ju_c _ _ (by decide)).trans ((ju_c _ _ (by decide)).trans ((ju_c _ _ (by decide)).trans e78))))
        have y89 : (ju (ju (ju (ju M1 664 v75 11) 666 v75 (-1)) 667 v75 1) 598 102 (v75 + 1)) 598 74 = v87 := ((ju_i _ _ (by decide)).trans ((ju_c _ _ (by decide)).trans ((ju_c _ _ (by decide)).trans ((ju_c _ _ (by decide)).trans e88))))
        have y92 : (ju (ju (ju (ju M1 664 v75 11) 666 v75 (-1)) 667 v75 1) 598 102 (v75 + 1)) 598 79 = v90 := ((ju_i _ _ (by decide)).trans ((ju_c _ _ (by decide)).trans ((ju_c _ _ (by decide)).trans ((ju_c _ _ (by decide)).trans e91))))
        have y94 : (ju (ju (ju (ju M1 664 v75 11) 666 v75 (-1)) 667 v75 1) 598 102 (v75 + 1)) 598 80 = v93 := ((ju_i _ _ (by decide)).trans ((ju_c _ _ (by decide)).trans ((ju_c _ _ (by decide)).trans ((ju_c _ _ (by decide)).trans e93))))
        have y95 : (ju (ju (ju (ju M1 664 v75 11) 666 v75 (-1)) 667 v75 1) 598 102 (v75 + 1)) 598 100 = v6 := ((ju_i _ _ (by decide)).trans ((ju_c _ _ (by decide)).trans ((ju_c _ _ (by decide)).trans ((ju_c _ _ (by decide)).trans e81))))
        have tb77 : TK (ju (ju (ju (ju M1 664 v75 11) 666 v75 (-1)) 667 v75 1) 598 102 (v75 + 1)) = TK M1 := ((TK.o (Or.inr ⟨by decide, by decide⟩)).trans ((TK.o (Or.inl (by decide))).trans ((TK.o (Or.inl (by decide))).trans ((TK.o (Or.inl (by decide))).trans rfl))))
        have y82 : (ju (ju (ju (ju M1 664 v75 11) 666 v75 (-1)) 667 v75 1) 598 102 (v75 + 1)) 598 73 = v3 := ((ju_i _ _ (by decide)).trans ((ju_c _ _ (by decide)).trans ((ju_c _ _ (by decide)).trans ((ju_c _ _ (by decide)).trans e78))))
        have y84 : (ju (ju (ju (ju M1 664 v75 11) 666 v75 (-1)) 667 v75 1) 598 102 (v75 + 1)) 598 89 = v83 := ((ju_i _ _ (by decide)).trans ((ju_c _ _ (by decide)).trans ((ju_c _ _ (by decide)).trans ((ju_c _ _ (by decide)).trans e83))))
        have y85 : (ju (ju (ju (ju M1 664 v75 11) 666 v75 (-1)) 667 v75 1) 598 102 (v75 + 1)) 598 100 = v6 := ((ju_i _ _ (by decide)).trans ((ju_c _ _ (by decide)).trans ((ju_c _ _ (by decide)).trans ((ju_c _ _ (by decide)).trans e81))))
        have x77_89 := w77_9 89 (by decide) (by decide) (by decide) (by decide) (by decide) (by decide) (by decide) (by decide) (by decide) (by decide)
        have hE := ES.fr2 hE w77_8 (w77_9 88 (by decide) (by decide) (by decide) (by decide) (by decide) (by decide) (by decide) (by decide) (by decide) (by decide)) (w77_9 90 (by decide) (by decide) (by decide) (by decide) (by decide) (by decide) (by decide) (by decide) (by decide) (by decide)) (w77_9 101 (by decide) (by decide) (by decide) (by decide) (by decide) (by decide) (by decide) (by decide) (by decide) (by decide)) (w77_9 102 (by decide) (by decide) (by decide) (by decide) (by decide) (by decide) (by decide) (by decide) (by decide) (by decide)) (w77_9 107 (by decide) (by decide) (by decide) (by decide) (by decide) (by decide) (by decide) (by decide) (by decide) (by decide)) (k' := kk + 2) (d' := 0) (z' := 0) (by omega) (by omega) (by omega) (by omega)
        refine jr.iconst rfl ?_
        have e96 : M77 598 72 = v79 := ((w77_9 72 (by decide) (by decide) (by decide) (by decide) (by decide) (by decide) (by decide) (by decide) (by decide) (by decide)).trans ((ju_i _ _ (by decide)).trans ((ju_c _ _ (by decide)).trans ((ju_c _ _ (by decide)).trans ((ju_c _ _ (by decide)).trans e80)))))
        have y97 : M77 598 72 = v79 := e96
        obtain ⟨v98, e98⟩ : ∃ z, M77 598 73 = z := ⟨_, rfl⟩
        have b98 : 0 ≤ v98 ∧ v98 ≤ 1600 := by rw [← e98]; exact hI_M77 598 73 (by decide)
        have y99 : M77 598 73 = v98 := e98
        obtain ⟨v100, e100⟩ : ∃ z, M77 598 74 = z := ⟨_, rfl⟩
        have b100 : 0 ≤ v100 ∧ v100 ≤ 4 := by rw [← e100]; exact hI_M77 598 74 (by decide)
        have y101 : M77 598 74 = v100 := e100
        obtain ⟨v102, e102⟩ : ∃ z, M77 598 79 = z := ⟨_, rfl⟩
        have b102 : 0 ≤ v102 ∧ v102 ≤ 255 := by rw [← e102]; exact hI_M77 598 79 (by decide)
        have y103 : M77 598 79 = v102 := e102
        obtain ⟨v104, e104⟩ : ∃ z, M77 598 80 = z := ⟨_, rfl⟩
        have b104 : 0 ≤ v104 ∧ v104 ≤ 7 := by rw [← e104]; exact hI_M77 598 80 (by decide)
        have y105 : M77 598 80 = v104 := e104
        have e106 : M77 598 89 = v83 := ((w77_9 89 (by decide) (by decide) (by decide) (by decide) (by decide) (by decide) (by decide) (by decide) (by decide) (by decide)).trans ((ju_i _ _ (by decide)).trans ((ju_c _ _ (by decide)).trans ((ju_c _ _ (by decide)).trans ((ju_c _ _ (by decide)).trans e83)))))
        have y107 : M77 598 89 = v83 := e106
        obtain ⟨v108, e108⟩ : ∃ z, M 598 90 = z := ⟨_, rfl⟩
        have b108 : 0 ≤ v108 ∧ v108 ≤ 2200 := by rw [← e108]; exact hI_M 598 90 (by decide)
        have e109 : M1 598 90 = v108 := ((w1_5 90 (by decide) (by decide) (by decide)).trans e108)
        have e110 : M77 598 90 = v108 := ((w77_9 90 (by decide) (by decide) (by decide) (by decide) (by decide) (by decide) (by decide) (by decide) (by decide) (by decide)).trans ((ju_i _ _ (by decide)).trans ((ju_c _ _ (by decide)).trans ((ju_c _ _ (by decide)).trans ((ju_c _ _ (by decide)).trans e109)))))
        have y111 : M77 598 90 = v108 := e110
        obtain ⟨v112, e112⟩ : ∃ z, M77 598 100 = z := ⟨_, rfl⟩
        have b112 : 0 ≤ v112 ∧ v112 ≤ 13 := by rw [← e112]; exact hI_M77 598 100 (by decide)
        have y113 : M77 598 100 = v112 := e112
        obtain ⟨v114, e114⟩ : ∃ z, M 598 107 = z := ⟨_, rfl⟩
        have b114 : 0 ≤ v114 ∧ v114 ≤ 16 := by rw [← e114]; exact hI_M 598 107 (by decide)
        have e115 : M1 598 107 = v114 := ((w1_5 107 (by decide) (by decide) (by decide)).trans e114)
        have e116 : M77 598 107 = v114 := ((w77_9 107 (by decide) (by decide) (by decide) (by decide) (by decide) (by decide) (by decide) (by decide) (by decide) (by decide)).trans ((ju_i _ _ (by decide)).trans ((ju_c _ _ (by decide)).trans ((ju_c _ _ (by decide)).trans ((ju_c _ _ (by decide)).trans e115)))))
        have y117 : M77 598 107 = v114 := e116
        exact jr.ireturn rfl rfl rfl (q _ _ hI_M77 hH_M77 hS_M77  (by omega) (by by_cases hf : v104 = 0; (first | (exact Or.inr ⟨⟨by omega, ES.adj hE (k' := kk) (z' := 0) (by omega) (by omega) (by omega), by omega, by omega, by omega, by omega⟩, by omega⟩) | (exfalso; omega)); (exact Or.inl ⟨by omega, by omega⟩)) (by omega) (by omega) (by omega) (CP.f (CP.o (CP.o (CP.o (CP.o (CP.f hCP (fun i => w1_4 659 i (by decide)) (w1_5 90 (by decide) (by decide) (by decide))) (by decide) (Or.inl (by decide))) (by decide) (Or.inl (by decide))) (by decide) (Or.inl (by decide))) (by decide) (Or.inr (by decide))) (fun i => w77_8 659 i (by decide)) (w77_9 90 (by decide) (by decide) (by decide) (by decide) (by decide) (by decide) (by decide) (by decide) (by decide) (by decide))) (by omega) (fun a i f598 f659 f660 f664 f666 f667 => ((w77_8 a i f598).trans ((ju_c _ _ f598).trans ((ju_c _ _ f667).trans ((ju_c _ _ f666).trans ((ju_c _ _ f664).trans ((w1_4 a i f598).trans (hF_M a i f598 f659 f660 f664 f666 f667)))))))) (fun i g73 g74 g75 g76 g77 g78 g79 g80 g81 g89 g90 g100 g102 => ((w77_9 i g73 g74 g75 g76 g77 g78 g79 g80 g81 g100).trans ((ju_i _ _ g102).trans ((ju_c _ _ (by decide)).trans ((ju_c _ _ (by decide)).trans ((ju_c _ _ (by decide)).trans ((w1_5 i g80 g81 g89).trans (hG_M i g73 g74 g75 g76 g77 g78 g79 g80 g81 g89 g90 g100 g102)))))))))
      · refine jr.if_eq rfl rfl (by omega) (fun _ => ?_) (fun h => absurd (by decide) h)
        refine jr.iconst rfl ?_
        obtain ⟨v118, e118⟩ : ∃ z, M 598 72 = z := ⟨_, rfl⟩
        have b118 : 0 ≤ v118 ∧ v118 ≤ 1600 := by rw [← e118]; exact hI_M 598 72 (by decide)
        have e119 : M1 598 72 = v118 := ((w1_5 72 (by decide) (by decide) (by decide)).trans e118)
        have y120 : (ju (ju (ju (ju M1 664 v75 11) 666 v75 (-1)) 667 v75 1) 598 102 (v75 + 1)) 598 72 = v118 := ((ju_i _ _ (by decide)).trans ((ju_c _ _ (by decide)).trans ((ju_c _ _ (by decide)).trans ((ju_c _ _ (by decide)).trans e119))))
        have e121 : M1 598 73 = v3 := ((w1_5 73 (by decide) (by decide) (by decide)).trans e3)
        have y122 : (ju (ju (ju (ju M1 664 v75 11) 666 v75 (-1)) 667 v75 1) 598 102 (v75 + 1)) 598 73 = v3 := ((ju_i _ _ (by decide)).trans ((ju_c _ _ (by decide)).trans ((ju_c _ _ (by decide)).trans ((ju_c _ _ (by decide)).trans e121))))
        obtain ⟨v123, e123⟩ : ∃ z, M 598 74 = z := ⟨_, rfl⟩
        have b123 : 0 ≤ v123 ∧ v123 ≤ 4 := by rw [← e123]; exact hI_M 598 74 (by decide)
        have e124 : M1 598 74 = v123 := ((w1_5 74 (by decide) (by decide) (by decide)).trans e123)
        have y125 : (ju (ju (ju (ju M1 664 v75 11) 666 v75 (-1)) 667 v75 1) 598 102 (v75 + 1)) 598 74 = v123 := ((ju_i _ _ (by decide)).trans ((ju_c _ _ (by decide)).trans ((ju_c _ _ (by decide)).trans ((ju_c _ _ (by decide)).trans e124))))
        obtain ⟨v126, e126⟩ : ∃ z, M 598 79 = z := ⟨_, rfl⟩
        have b126 : 0 ≤ v126 ∧ v126 ≤ 255 := by rw [← e126]; exact hI_M 598 79 (by decide)
        have e127 : M1 598 79 = v126 := ((w1_5 79 (by decide) (by decide) (by decide)).trans e126)
        have y128 : (ju (ju (ju (ju M1 664 v75 11) 666 v75 (-1)) 667 v75 1) 598 102 (v75 + 1)) 598 79 = v126 := ((ju_i _ _ (by decide)).trans ((ju_c _ _ (by decide)).trans ((ju_c _ _ (by decide)).trans ((ju_c _ _ (by decide)).trans e127))))
        obtain ⟨v129, e129⟩ : ∃ z, M1 598 80 = z := ⟨_, rfl⟩
        have b129 : 0 ≤ v129 ∧ v129 ≤ 7 := by rw [← e129]; exact hI_M1 598 80 (by decide)
        have y130 : (ju (ju (ju (ju M1 664 v75 11) 666 v75 (-1)) 667 v75 1) 598 102 (v75 + 1)) 598 80 = v129 := ((ju_i _ _ (by decide)).trans ((ju_c _ _ (by decide)).trans ((ju_c _ _ (by decide)).trans ((ju_c _ _ (by decide)).trans e129))))
        obtain ⟨v131, e131⟩ : ∃ z, M1 598 89 = z := ⟨_, rfl⟩
        have b131 : 0 ≤ v131 ∧ v131 ≤ 301 := by rw [← e131]; exact hI_M1 598 89 (by decide)
        have y132 : (ju (ju (ju (ju M1 664 v75 11) 666 v75 (-1)) 667 v75 1) 598 102 (v75 + 1)) 598 89 = v131 := ((ju_i _ _ (by decide)).trans ((ju_c _ _ (by decide)).trans ((ju_c _ _ (by decide)).trans ((ju_c _ _ (by decide)).trans e131))))
        obtain ⟨v133, e133⟩ : ∃ z, M 598 90 = z := ⟨_, rfl⟩
        have b133 : 0 ≤ v133 ∧ v133 ≤ 2200 := by rw [← e133]; exact hI_M 598 90 (by decide)
        have e134 : M1 598 90 = v133 := ((w1_5 90 (by decide) (by decide) (by decide)).trans e133)
        have y135 : (ju (ju (ju (ju M1 664 v75 11) 666 v75 (-1)) 667 v75 1) 598 102 (v75 + 1)) 598 90 = v133 := ((ju_i _ _ (by decide)).trans ((ju_c _ _ (by decide)).trans ((ju_c _ _ (by decide)).trans ((ju_c _ _ (by decide)).trans e134))))
        have e136 : M1 598 100 = v6 := ((w1_5 100 (by decide) (by decide) (by decide)).trans e6)
        have y137 : (ju (ju (ju (ju M1 664 v75 11) 666 v75 (-1)) 667 v75 1) 598 102 (v75 + 1)) 598 100 = v6 := ((ju_i _ _ (by decide)).trans ((ju_c _ _ (by decide)).trans ((ju_c _ _ (by decide)).trans ((ju_c _ _ (by decide)).trans e136))))
        obtain ⟨v138, e138⟩ : ∃ z, M 598 107 = z := ⟨_, rfl⟩
        have b138 : 0 ≤ v138 ∧ v138 ≤ 16 := by rw [← e138]; exact hI_M 598 107 (by decide)
        have e139 : M1 598 107 = v138 := ((w1_5 107 (by decide) (by decide) (by decide)).trans e138)
        have y140 : (ju (ju (ju (ju M1 664 v75 11) 666 v75 (-1)) 667 v75 1) 598 102 (v75 + 1)) 598 107 = v138 := ((ju_i _ _ (by decide)).trans ((ju_c _ _ (by decide)).trans ((ju_c _ _ (by decide)).trans ((ju_c _ _ (by decide)).trans e139))))
        have y141 : TK (ju (ju (ju (ju M1 664 v75 11) 666 v75 (-1)) 667 v75 1) 598 102 (v75 + 1)) = TK M1 := ((TK.o (Or.inr ⟨by decide, by decide⟩)).trans ((TK.o (Or.inl (by decide))).trans ((TK.o (Or.inl (by decide))).trans ((TK.o (Or.inl (by decide))).trans rfl))))
        exact jr.ireturn rfl rfl rfl (q _ _ (RI.u (RI.u (RI.u (RI.u hI_M1 (a := 664) (i := v75) (by rw [xri_row rfl rfl]; show (0 : Int) ≤ _ ∧ _ ≤ (255 : Int); omega)) (a := 666) (i := v75) (by rw [xri_row rfl rfl]; show (-1 : Int) ≤ _ ∧ _ ≤ (68 : Int); omega)) (a := 667) (i := v75) (by rw [xri_row rfl rfl]; show (0 : Int) ≤ _ ∧ _ ≤ (4 : Int); omega)) (a := 598) (i := 102) (show (0 : Int) ≤ _ ∧ _ ≤ (400 : Int) from by omega)) (RH.o (RH.o (RH.o (RH.o hH_M1 (by decide) (by decide) (by decide)) (by decide) (by decide) (by decide)) (by decide) (by decide) (by decide)) (by decide) (by decide) (by decide)) (RF.o (RF.o (RF.o (RF.o hS_M1 (by decide) (by decide)) (by decide) (by decide)) (by decide) (by decide)) (by decide) (by decide))  (by omega) (by by_cases hf : v129 = 0; (first | (exact Or.inr ⟨⟨by omega, ES.adj hE (k' := kk) (z' := 0) (by omega) (by omega) (by omega), by omega, by omega, by omega, by omega⟩, by omega⟩) | (exfalso; omega)); (exact Or.inl ⟨by omega, by omega⟩)) (by omega) (by omega) (by omega) (CP.o (CP.o (CP.o (CP.o (CP.f hCP (fun i => w1_4 659 i (by decide)) (w1_5 90 (by decide) (by decide) (by decide))) (by decide) (Or.inl (by decide))) (by decide) (Or.inl (by decide))) (by decide) (Or.inl (by decide))) (by decide) (Or.inr (by decide))) (by omega) (fun a i f598 f659 f660 f664 f666 f667 => ((ju_c _ _ f598).trans ((ju_c _ _ f667).trans ((ju_c _ _ f666).trans ((ju_c _ _ f664).trans ((w1_4 a i f598).trans (hF_M a i f598 f659 f660 f664 f666 f667))))))) (fun i g73 g74 g75 g76 g77 g78 g79 g80 g81 g89 g90 g100 g102 => ((ju_i _ _ g102).trans ((ju_c _ _ (by decide)).trans ((ju_c _ _ (by decide)).trans ((ju_c _ _ (by decide)).trans ((w1_5 i g80 g81 g89).trans (hG_M i g73 g74 g75 g76 g77 g78 g79 g80 g81 g89 g90 g100 g102))))))))
