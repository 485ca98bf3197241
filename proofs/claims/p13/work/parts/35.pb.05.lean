theorem r_hasKind_L51 {A : Nat → Option (Nat × (Nat → Int32))} {Q : Option Value → jm → Prop} {b kk : Int} {M0 : jm} (q : ∀ (M' : jm), RI M' → RH M' → RF M' → (BS M' ∨ (GS M' b 1 kk ∧ TK M' < TK M0)) → TK M' ≤ TK M0 → M' 598 73 ≤ M' 598 72 → (M' 598 80 ≠ 0 ∨ TK M' < TK M0) → CP M0 M' → M0 598 89 ≤ M' 598 89 → (∀ (a : Nat) (i : Int), a ≠ 598 → a ≠ 659 → a ≠ 660 → M' a i = M0 a i) → (∀ (i : Int), i ≠ 73 → i ≠ 74 → i ≠ 75 → i ≠ 76 → i ≠ 77 → i ≠ 78 → i ≠ 79 → i ≠ 80 → i ≠ 81 → i ≠ 89 → i ≠ 90 → i ≠ 100 → M' 598 i = M0 598 i) → Q none M') : ∀ (M : jm) , RI M → RH M → RF M → (∀ (a : Nat) (i : Int), a ≠ 598 → a ≠ 659 → a ≠ 660 → M a i = M0 a i) → (∀ (i : Int), i ≠ 73 → i ≠ 74 → i ≠ 75 → i ≠ 76 → i ≠ 77 → i ≠ 78 → i ≠ 79 → i ≠ 80 → i ≠ 81 → i ≠ 89 → i ≠ 90 → i ≠ 100 → M 598 i = M0 598 i) → ES M b 0 (kk + 4) 1 0 (-1) → M 598 80 = 0 → M 598 89 ≤ 300 → 1 ≤ M 598 100 ∧ M 598 100 ≤ 12 → M 598 73 ≤ M 598 72 → TK M < TK M0 → M 598 90 ≤ 1750 → M 598 74 = 1 → 31 ≤ M 598 76 ∧ M 598 76 ≤ 44 → CP M0 M → 0 ≤ kk → M0 598 89 ≤ M 598 89 → jr A 4 xm_359 51 [(0, .ref (598))] [] M Q := by
    intro M  hI_M hH_M hS_M hF_M hG_M  hy0 hy1 hy2 hy3 hy4 hy5 hy6 hy7 hy8 hy9 hy10 hy11
    have hCP := hy9
    have hE := hy0
    have bb := ES.bb hy0
    have kb := ES.kz hy0
    have sl := ES.sgle hy0
    have b107 : (0 : Int) ≤ M 598 107 ∧ M 598 107 ≤ 16 := hI_M 598 107 (by decide)
    refine jr.aload_n rfl rfl ?_
    refine jr.bipush rfl (by decide) ?_
    refine jr.aload_n rfl rfl ?_
    obtain ⟨v1, e1⟩ : ∃ z, M 598 76 = z := ⟨_, rfl⟩
    have b1 : (-1) ≤ v1 ∧ v1 ≤ 68 := by rw [← e1]; exact hI_M 598 76 (by decide)
    refine jr.getf (i := 76) (x := v1) (v := .int (Int32.ofInt (v1))) rfl rfl (by decide) rfl (by decide) rfl rfl e1 rfl ?_
    refine jr.bipush rfl (by decide) ?_
    refine jr.isub rfl ?_
    refine jr.i2l rfl (by omega) ?_
    obtain ⟨v2, e2⟩ : ∃ z, M 598 90 = z := ⟨_, rfl⟩
    have b2 : 0 ≤ v2 ∧ v2 ≤ 2200 := by rw [← e2]; exact hI_M 598 90 (by decide)
    obtain ⟨v3, e3⟩ : ∃ z, M 598 100 = z := ⟨_, rfl⟩
    have b3 : 0 ≤ v3 ∧ v3 ≤ 13 := by rw [← e3]; exact hI_M 598 100 (by decide)
    obtain ⟨v5, e5⟩ : ∃ z, M 598 107 = z := ⟨_, rfl⟩
    have b5 : 0 ≤ v5 ∧ v5 ≤ 16 := by rw [← e5]; exact hI_M 598 107 (by decide)
    refine jr_v rfl rfl (Or.inl rfl) rfl rfl (by decide) rfl ⟨rfl, Nat.le_of_ble_eq_true rfl, Nat.le_of_ble_eq_true rfl⟩ rfl (jc.deep (r_emit e2 (by omega) (by omega) (by omega) ?_) (by decide))
    have y4 : M 598 100 = v3 := e3
    have y6 : M 598 107 = v5 := e5
    have hE := ES.emitO hE e2 6 (v1 - 31) (kk + 2) (Or.inr (Or.inr (Or.inl rfl))) (by omega) (by omega) (by omega)
    refine jr.aload_n rfl rfl ?_
    obtain ⟨v8, e8⟩ : ∃ z, M 598 73 = z := ⟨_, rfl⟩
    have b8 : 0 ≤ v8 ∧ v8 ≤ 1600 := by rw [← e8]; exact hI_M 598 73 (by decide)
    obtain ⟨v9, e9⟩ : ∃ z, M 598 72 = z := ⟨_, rfl⟩
    have b9 : 0 ≤ v9 ∧ v9 ≤ 1600 := by rw [← e9]; exact hI_M 598 72 (by decide)
    obtain ⟨v11, e11⟩ : ∃ z, M 598 89 = z := ⟨_, rfl⟩
    have b11 : 0 ≤ v11 ∧ v11 ≤ 301 := by rw [← e11]; exact hI_M 598 89 (by decide)
    obtain ⟨v15, e15⟩ : ∃ z, M 598 74 = z := ⟨_, rfl⟩
    have b15 : 0 ≤ v15 ∧ v15 ≤ 4 := by rw [← e15]; exact hI_M 598 74 (by decide)
    refine jr_v rfl rfl (Or.inl rfl) rfl rfl (by decide) rfl ⟨rfl, Nat.le_of_ble_eq_true rfl, Nat.le_of_ble_eq_true rfl⟩ rfl (jc.deep (r_next (RI.u (RI.u (RI.u hI_M (a := 659) (i := v2) (by rw [xri_row rfl rfl]; show (0 : Int) ≤ _ ∧ _ ≤ (1000 : Int); omega)) (a := 660) (i := v2) (by rw [xri_row rfl rfl]; show (-9223372036854775808 : Int) ≤ _ ∧ _ ≤ (9223372036854775807 : Int); omega)) (a := 598) (i := 90) (show (0 : Int) ≤ _ ∧ _ ≤ (2200 : Int) from by omega)) (RH.o (RH.o (RH.o hH_M (by decide) (by decide) (by decide)) (by decide) (by decide) (by decide)) (by decide) (by decide) (by decide)) (RF.o (RF.o (RF.o hS_M (by decide) (by decide)) (by decide) (by decide)) (by decide) (by decide))   (by rw [((ju_i _ _ (by decide)).trans ((ju_c _ _ (by decide)).trans ((ju_c _ _ (by decide)).trans e8))), ((ju_i _ _ (by decide)).trans ((ju_c _ _ (by decide)).trans ((ju_c _ _ (by decide)).trans e9)))]; omega) (fun M7 hI_M7 hH_M7 hS_M7  w7_0 w7_1 w7_2 w7_3 w7_4 w7_5 w7_6 => ?_)) (by decide))
    have y14 : (ju (ju (ju M 659 v2 6) 660 v2 (v1 - 31)) 598 90 (v2 + 1)) 598 73 = v8 := ((ju_i _ _ (by decide)).trans ((ju_c _ _ (by decide)).trans ((ju_c _ _ (by decide)).trans e8)))
    have y16 : (ju (ju (ju M 659 v2 6) 660 v2 (v1 - 31)) 598 90 (v2 + 1)) 598 74 = v15 := ((ju_i _ _ (by decide)).trans ((ju_c _ _ (by decide)).trans ((ju_c _ _ (by decide)).trans e15)))
    have tb7 : TK (ju (ju (ju M 659 v2 6) 660 v2 (v1 - 31)) 598 90 (v2 + 1)) = TK M := ((TK.o (Or.inr ⟨by decide, by decide⟩)).trans ((TK.o (Or.inl (by decide))).trans ((TK.o (Or.inl (by decide))).trans rfl)))
    have y10 : (ju (ju (ju M 659 v2 6) 660 v2 (v1 - 31)) 598 90 (v2 + 1)) 598 73 = v8 := ((ju_i _ _ (by decide)).trans ((ju_c _ _ (by decide)).trans ((ju_c _ _ (by decide)).trans e8)))
    have y12 : (ju (ju (ju M 659 v2 6) 660 v2 (v1 - 31)) 598 90 (v2 + 1)) 598 89 = v11 := ((ju_i _ _ (by decide)).trans ((ju_c _ _ (by decide)).trans ((ju_c _ _ (by decide)).trans e11)))
    have y13 : (ju (ju (ju M 659 v2 6) 660 v2 (v1 - 31)) 598 90 (v2 + 1)) 598 100 = v3 := ((ju_i _ _ (by decide)).trans ((ju_c _ _ (by decide)).trans ((ju_c _ _ (by decide)).trans e3)))
    have x7_89 := w7_6 89 (by decide) (by decide) (by decide) (by decide) (by decide) (by decide) (by decide)
    have x7_100 := w7_6 100 (by decide) (by decide) (by decide) (by decide) (by decide) (by decide) (by decide)
    have hE := ES.fr2 hE w7_5 (w7_6 88 (by decide) (by decide) (by decide) (by decide) (by decide) (by decide) (by decide)) (w7_6 90 (by decide) (by decide) (by decide) (by decide) (by decide) (by decide) (by decide)) (w7_6 101 (by decide) (by decide) (by decide) (by decide) (by decide) (by decide) (by decide)) (w7_6 102 (by decide) (by decide) (by decide) (by decide) (by decide) (by decide) (by decide)) (w7_6 107 (by decide) (by decide) (by decide) (by decide) (by decide) (by decide) (by decide)) (k' := kk + 2) (d' := 1) (z' := 0) (by omega) (by omega) (by omega) (by omega)
    refine jr.aload_n rfl rfl ?_
    refine jr.bipush rfl (by decide) ?_
    obtain ⟨v18, e18⟩ : ∃ z, M7 598 73 = z := ⟨_, rfl⟩
    have b18 : 0 ≤ v18 ∧ v18 ≤ 1600 := by rw [← e18]; exact hI_M7 598 73 (by decide)
    have e19 : M7 598 72 = v9 := ((w7_6 72 (by decide) (by decide) (by decide) (by decide) (by decide) (by decide) (by decide)).trans ((ju_i _ _ (by decide)).trans ((ju_c _ _ (by decide)).trans ((ju_c _ _ (by decide)).trans e9))))
    have e21 : M7 598 89 = v11 := ((w7_6 89 (by decide) (by decide) (by decide) (by decide) (by decide) (by decide) (by decide)).trans ((ju_i _ _ (by decide)).trans ((ju_c _ _ (by decide)).trans ((ju_c _ _ (by decide)).trans e11))))
    have e23 : M7 598 100 = v3 := ((w7_6 100 (by decide) (by decide) (by decide) (by decide) (by decide) (by decide) (by decide)).trans ((ju_i _ _ (by decide)).trans ((ju_c _ _ (by decide)).trans ((ju_c _ _ (by decide)).trans e3))))
    refine jr_v rfl rfl (Or.inl rfl) rfl rfl (by decide) rfl ⟨rfl, Nat.le_of_ble_eq_true rfl, Nat.le_of_ble_eq_true rfl⟩ rfl (jc.deep (r_want hI_M7 hH_M7 hS_M7  (by omega) (by rw [e18, e19]; omega) (fun M17 hI_M17 hH_M17 hS_M17  w17_0 w17_1 w17_2 w17_3 w17_4 w17_5 w17_6 w17_7 => ?_)) (by decide))
    have y20 : M7 598 73 = v18 := e18
    have y22 : M7 598 89 = v11 := e21
    have y24 : M7 598 100 = v3 := e23
    have x17_89 := w17_7 89 (by decide) (by decide) (by decide) (by decide) (by decide) (by decide) (by decide) (by decide) (by decide)
    have x17_100 := w17_7 100 (by decide) (by decide) (by decide) (by decide) (by decide) (by decide) (by decide) (by decide) (by decide)
    have hE := ES.fr2 hE w17_6 (w17_7 88 (by decide) (by decide) (by decide) (by decide) (by decide) (by decide) (by decide) (by decide) (by decide)) (w17_7 90 (by decide) (by decide) (by decide) (by decide) (by decide) (by decide) (by decide) (by decide) (by decide)) (w17_7 101 (by decide) (by decide) (by decide) (by decide) (by decide) (by decide) (by decide) (by decide) (by decide)) (w17_7 102 (by decide) (by decide) (by decide) (by decide) (by decide) (by decide) (by decide) (by decide) (by decide)) (w17_7 107 (by decide) (by decide) (by decide) (by decide) (by decide) (by decide) (by decide) (by decide) (by decide)) (k' := kk + 2) (d' := 1) (z' := 0) (by omega) (by omega) (by omega) (by omega)
    refine jr.aload_n rfl rfl ?_
    refine jr.dup rfl rfl ?_
    have e25 : M17 598 100 = v3 := ((w17_7 100 (by decide) (by decide) (by decide) (by decide) (by decide) (by decide) (by decide) (by decide) (by decide)).trans e23)
    refine jr.getf (i := 100) (x := v3) (v := .int (Int32.ofInt (v3))) rfl rfl (by decide) rfl (by decide) rfl rfl e25 rfl ?_
    refine jr.iconst rfl ?_
    refine jr.isub rfl ?_
    refine jr.putf (i := 100) (x := (v3 - 1)) rfl rfl (by decide) rfl (by decide) rfl rfl rfl rfl rfl ?_
    have e26 : M17 598 72 = v9 := ((w17_7 72 (by decide) (by decide) (by decide) (by decide) (by decide) (by decide) (by decide) (by decide) (by decide)).trans e19)
    have y27 : (ju M17 598 100 (v3 - 1)) 598 72 = v9 := ((ju_i _ _ (by decide)).trans e26)
    obtain ⟨v28, e28⟩ : ∃ z, M17 598 73 = z := ⟨_, rfl⟩
    have b28 : 0 ≤ v28 ∧ v28 ≤ 1600 := by rw [← e28]; exact hI_M17 598 73 (by decide)
    have y29 : (ju M17 598 100 (v3 - 1)) 598 73 = v28 := ((ju_i _ _ (by decide)).trans e28)
    obtain ⟨v30, e30⟩ : ∃ z, M17 598 74 = z := ⟨_, rfl⟩
    have b30 : 0 ≤ v30 ∧ v30 ≤ 4 := by rw [← e30]; exact hI_M17 598 74 (by decide)
    have y31 : (ju M17 598 100 (v3 - 1)) 598 74 = v30 := ((ju_i _ _ (by decide)).trans e30)
    obtain ⟨v32, e32⟩ : ∃ z, M17 598 79 = z := ⟨_, rfl⟩
    have b32 : 0 ≤ v32 ∧ v32 ≤ 255 := by rw [← e32]; exact hI_M17 598 79 (by decide)
    have y33 : (ju M17 598 100 (v3 - 1)) 598 79 = v32 := ((ju_i _ _ (by decide)).trans e32)
    obtain ⟨v34, e34⟩ : ∃ z, M17 598 80 = z := ⟨_, rfl⟩
    have b34 : 0 ≤ v34 ∧ v34 ≤ 7 := by rw [← e34]; exact hI_M17 598 80 (by decide)
    have y35 : (ju M17 598 100 (v3 - 1)) 598 80 = v34 := ((ju_i _ _ (by decide)).trans e34)
    have e36 : M17 598 89 = v11 := ((w17_7 89 (by decide) (by decide) (by decide) (by decide) (by decide) (by decide) (by decide) (by decide) (by decide)).trans e21)
    have y37 : (ju M17 598 100 (v3 - 1)) 598 89 = v11 := ((ju_i _ _ (by decide)).trans e36)
    have e38 : M7 598 90 = v2 + 1 := ((w7_6 90 (by decide) (by decide) (by decide) (by decide) (by decide) (by decide) (by decide)).trans (ju_same _ _ _ _))
    have e39 : M17 598 90 = v2 + 1 := ((w17_7 90 (by decide) (by decide) (by decide) (by decide) (by decide) (by decide) (by decide) (by decide) (by decide)).trans e38)
    have y40 : (ju M17 598 100 (v3 - 1)) 598 90 = v2 + 1 := ((ju_i _ _ (by decide)).trans e39)
    have y41 : (ju M17 598 100 (v3 - 1)) 598 100 = v3 - 1 := (ju_same _ _ _ _)
    have e42 : M7 598 107 = v5 := ((w7_6 107 (by decide) (by decide) (by decide) (by decide) (by decide) (by decide) (by decide)).trans ((ju_i _ _ (by decide)).trans ((ju_c _ _ (by decide)).trans ((ju_c _ _ (by decide)).trans e5))))
    have e43 : M17 598 107 = v5 := ((w17_7 107 (by decide) (by decide) (by decide) (by decide) (by decide) (by decide) (by decide) (by decide) (by decide)).trans e42)
    have y44 : (ju M17 598 100 (v3 - 1)) 598 107 = v5 := ((ju_i _ _ (by decide)).trans e43)
    have y45 : TK (ju M17 598 100 (v3 - 1)) = TK M17 := ((TK.o (Or.inr ⟨by decide, by decide⟩)).trans rfl)
    exact jr.vreturn rfl rfl (q _ (RI.u hI_M17 (a := 598) (i := 100) (show (0 : Int) ≤ _ ∧ _ ≤ (13 : Int) from by omega)) (RH.o hH_M17 (by decide) (by decide) (by decide)) (RF.o hS_M17 (by decide) (by decide))  (by by_cases hf : v34 = 0; (first | (exact Or.inr ⟨⟨by omega, ES.adj (ES.dep hE e25 (d' := 0) (by omega)) (k' := kk) (z' := 0) (by omega) (by omega) (by omega), by omega, by omega, by omega, by omega⟩, by omega⟩) | (exfalso; omega)); (exact Or.inl ⟨by omega, by omega⟩)) (by omega) (by omega) (by omega) (CP.o (CP.f (CP.f (CP.emit hCP e2) (fun i => w7_5 659 i (by decide)) (w7_6 90 (by decide) (by decide) (by decide) (by decide) (by decide) (by decide) (by decide))) (fun i => w17_6 659 i (by decide)) (w17_7 90 (by decide) (by decide) (by decide) (by decide) (by decide) (by decide) (by decide) (by decide) (by decide))) (by decide) (Or.inr (by decide))) (by omega) (fun a i f598 f659 f660 => ((ju_c _ _ f598).trans ((w17_6 a i f598).trans ((w7_5 a i f598).trans ((ju_c _ _ f598).trans ((ju_c _ _ f660).trans ((ju_c _ _ f659).trans (hF_M a i f598 f659 f660)))))))) (fun i g73 g74 g75 g76 g77 g78 g79 g80 g81 g89 g90 g100 => ((ju_i _ _ g100).trans ((w17_7 i g73 g74 g75 g76 g77 g78 g79 g80 g81).trans ((w7_6 i g73 g74 g75 g76 g77 g78 g79).trans ((ju_i _ _ g90).trans ((ju_c _ _ (by decide)).trans ((ju_c _ _ (by decide)).trans (hG_M i g73 g74 g75 g76 g77 g78 g79 g80 g81 g89 g90 g100)))))))))
