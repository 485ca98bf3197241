theorem r_deed_L78 {A : Nat → Option (Nat × (Nat → Int32))} {Q : Option Value → jm → Prop} {M0 : jm} (q : ∀ (M' : jm), RI M' → RH M' → RF M' → (BT M' ∨ (DS M' 0 ∧ TK M' < TK M0)) → TK M' ≤ TK M0 → M' 598 73 ≤ M' 598 72 → (M' 598 80 ≠ 0 ∨ TK M' < TK M0) → M0 598 107 ≤ M' 598 107 → (∀ (a : Nat) (i : Int), a ≠ 598 → a ≠ 659 → a ≠ 660 → a ≠ 661 → a ≠ 662 → a ≠ 663 → a ≠ 664 → a ≠ 665 → a ≠ 666 → a ≠ 667 → a ≠ 668 → a ≠ 669 → M' a i = M0 a i) → (∀ (i : Int), i ≠ 73 → i ≠ 74 → i ≠ 75 → i ≠ 76 → i ≠ 77 → i ≠ 78 → i ≠ 79 → i ≠ 80 → i ≠ 81 → i ≠ 89 → i ≠ 90 → i ≠ 96 → i ≠ 100 → i ≠ 102 → i ≠ 107 → M' 598 i = M0 598 i) → Q none M') : ∀ (M : jm) , RI M → RH M → RF M → (∀ (a : Nat) (i : Int), a ≠ 598 → a ≠ 659 → a ≠ 660 → a ≠ 661 → a ≠ 662 → a ≠ 663 → a ≠ 664 → a ≠ 665 → a ≠ 666 → a ≠ 667 → a ≠ 668 → a ≠ 669 → M a i = M0 a i) → (∀ (i : Int), i ≠ 73 → i ≠ 74 → i ≠ 75 → i ≠ 76 → i ≠ 77 → i ≠ 78 → i ≠ 79 → i ≠ 80 → i ≠ 81 → i ≠ 89 → i ≠ 90 → i ≠ 96 → i ≠ 100 → i ≠ 102 → i ≠ 107 → M 598 i = M0 598 i) → XS M 0 (0 + 2 + 2) 0 0 (-1) → AK M → M 598 80 = 0 → M 598 96 < M 598 89 ∧ M 598 89 ≤ 300 → M 598 100 ≤ 12 → M 598 73 ≤ M 598 72 → 1 ≤ M 598 107 ∧ M 598 107 = M0 598 107 → 1 ≤ M 598 88 → (M 598 74 = 3 → M 598 79 ≠ 10 ∧ M 598 79 ≠ 11) → TK M < TK M0 → jr A 7 xm_367 78 [(0, .ref (598))] [] M Q := by
    intro M  hI_M hH_M hS_M hF_M hG_M  hy0 hy1 hy2 hy3 hy4 hy5 hy6 hy7 hy8 hy9
    have hX := hy0
    have hA := hy1
    have dpx := XS.dep hy0
    have sl := XS.sgle hy0
    have bM_107 : (0 : Int) ≤ M 598 107 ∧ M 598 107 ≤ 16 := hI_M 598 107 (by decide)
    have bM_73 : (0 : Int) ≤ M 598 73 ∧ M 598 73 ≤ 1600 := hI_M 598 73 (by decide)
    have bM_88 : (0 : Int) ≤ M 598 88 ∧ M 598 88 ≤ 16 := hI_M 598 88 (by decide)
    have bM_100 : (0 : Int) ≤ M 598 100 ∧ M 598 100 ≤ 13 := hI_M 598 100 (by decide)
    refine jr.aload_n rfl rfl ?_
    refine jr_v rfl rfl (Or.inl rfl) rfl rfl (by decide) rfl ⟨rfl, Nat.le_of_ble_eq_true rfl, Nat.le_of_ble_eq_true rfl⟩ rfl (jc.deep (c_exp hI_M hH_M hS_M ⟨by omega, hX, by omega, by omega, by omega, by omega⟩ (by omega) (fun M1 hI_M1 hH_M1 hS_M1 bs1 wt1 wl1 wc1 wn1 wF1 wG1 => ?_) (fun M1 hI_M1 hH_M1 hS_M1 ss1 wt1 wc1 wn1 wF1 wG1 => ?_)) (by decide))
    · obtain ⟨ba1, bb1⟩ := bs1
      refine jr.aload_n rfl rfl ?_
      obtain ⟨v2, e2⟩ : ∃ z, M1 598 90 = z := ⟨_, rfl⟩
      have b2 : 0 ≤ v2 ∧ v2 ≤ 2200 := by rw [← e2]; exact hI_M1 598 90 (by decide)
      refine jr.getf (i := 90) (x := v2) (v := .int (Int32.ofInt (v2))) rfl rfl (by decide) rfl (by decide) rfl rfl e2 rfl ?_
      refine jr.istore_n (ls' := [_, _]) rfl (by decide) rfl ?_
      refine jr.aload_n rfl rfl ?_
      refine jr.iconst rfl ?_
      refine jr.lconst (x := 0) rfl (by decide) ?_
      refine jr_v rfl rfl (Or.inl rfl) rfl rfl (by decide) rfl ⟨rfl, Nat.le_of_ble_eq_true rfl, Nat.le_of_ble_eq_true rfl⟩ rfl (jc.deep (r_emit e2 (by omega) (by omega) (by omega) ?_) (by decide))
      refine jr.aload_n rfl rfl ?_
      refine jr.iconst rfl ?_
      refine jr.iload_n rfl rfl ?_
      obtain ⟨v4, e4⟩ : ∃ z, M1 598 73 = z := ⟨_, rfl⟩
      have b4 : 0 ≤ v4 ∧ v4 ≤ 1600 := by rw [← e4]; exact hI_M1 598 73 (by decide)
      obtain ⟨v5, e5⟩ : ∃ z, M 598 72 = z := ⟨_, rfl⟩
      have b5 : 0 ≤ v5 ∧ v5 ≤ 1600 := by rw [← e5]; exact hI_M 598 72 (by decide)
      have e6 : M1 598 72 = v5 := ((wG1 72 (by decide) (by decide) (by decide) (by decide) (by decide) (by decide) (by decide) (by decide) (by decide) (by decide) (by decide) (by decide) (by decide)).trans e5)
      obtain ⟨v7, e7⟩ : ∃ z, M1 598 80 = z := ⟨_, rfl⟩
      have b7 : 0 ≤ v7 ∧ v7 ≤ 7 := by rw [← e7]; exact hI_M1 598 80 (by decide)
      obtain ⟨v8, e8⟩ : ∃ z, M1 598 100 = z := ⟨_, rfl⟩
      have b8 : 0 ≤ v8 ∧ v8 ≤ 13 := by rw [← e8]; exact hI_M1 598 100 (by decide)
      obtain ⟨v9, e9⟩ : ∃ z, M 598 107 = z := ⟨_, rfl⟩
      have b9 : 0 ≤ v9 ∧ v9 ≤ 16 := by rw [← e9]; exact hI_M 598 107 (by decide)
      have e10 : M1 598 107 = v9 := ((wG1 107 (by decide) (by decide) (by decide) (by decide) (by decide) (by decide) (by decide) (by decide) (by decide) (by decide) (by decide) (by decide) (by decide)).trans e9)
      obtain ⟨v12, e12⟩ : ∃ z, M1 598 74 = z := ⟨_, rfl⟩
      have b12 : 0 ≤ v12 ∧ v12 ≤ 4 := by rw [← e12]; exact hI_M1 598 74 (by decide)
      obtain ⟨v14, e14⟩ : ∃ z, M1 598 79 = z := ⟨_, rfl⟩
      have b14 : 0 ≤ v14 ∧ v14 ≤ 255 := by rw [← e14]; exact hI_M1 598 79 (by decide)
      obtain ⟨v18, e18⟩ : ∃ z, M 598 101 = z := ⟨_, rfl⟩
      have b18 : 0 ≤ v18 ∧ v18 ≤ 1 := by rw [← e18]; exact hI_M 598 101 (by decide)
      have e19 : M1 598 101 = v18 := ((wG1 101 (by decide) (by decide) (by decide) (by decide) (by decide) (by decide) (by decide) (by decide) (by decide) (by decide) (by decide) (by decide) (by decide)).trans e18)
      refine jr_v rfl rfl (Or.inl rfl) rfl rfl (by decide) rfl ⟨rfl, Nat.le_of_ble_eq_true rfl, Nat.le_of_ble_eq_true rfl⟩ rfl (jc.deep (r_beginBlock (RI.u (RI.u (RI.u hI_M1 (a := 659) (i := v2) (by rw [xri_row rfl rfl]; show (0 : Int) ≤ _ ∧ _ ≤ (1000 : Int); omega)) (a := 660) (i := v2) (by rw [xri_row rfl rfl]; show (-9223372036854775808 : Int) ≤ _ ∧ _ ≤ (9223372036854775807 : Int); omega)) (a := 598) (i := 90) (show (0 : Int) ≤ _ ∧ _ ≤ (2200 : Int) from by omega)) (RH.o (RH.o (RH.o hH_M1 (by decide) (by decide) (by decide)) (by decide) (by decide) (by decide)) (by decide) (by decide) (by decide)) (RF.o (RF.o (RF.o hS_M1 (by decide) (by decide)) (by decide) (by decide)) (by decide) (by decide))  (by omega) (by omega) (by rw [((ju_i _ _ (by decide)).trans ((ju_c _ _ (by decide)).trans ((ju_c _ _ (by decide)).trans e4))), ((ju_i _ _ (by decide)).trans ((ju_c _ _ (by decide)).trans ((ju_c _ _ (by decide)).trans e6)))]; omega) (by rw [((ju_i _ _ (by decide)).trans ((ju_c _ _ (by decide)).trans ((ju_c _ _ (by decide)).trans e7))), ((ju_i _ _ (by decide)).trans ((ju_c _ _ (by decide)).trans ((ju_c _ _ (by decide)).trans e8)))]; intro q; omega) (by rw [((ju_i _ _ (by decide)).trans ((ju_c _ _ (by decide)).trans ((ju_c _ _ (by decide)).trans e10)))]; omega) (fun M3 hI_M3 hH_M3 hS_M3  w3_0 w3_1 w3_2 w3_3 w3_4 w3_5 w3_6 w3_7 w3_8 w3_9 w3_10 w3_11 => ?_)) (by decide))
      have y11 : (ju (ju (ju M1 659 v2 1) 660 v2 0) 598 90 (v2 + 1)) 598 73 = v4 := ((ju_i _ _ (by decide)).trans ((ju_c _ _ (by decide)).trans ((ju_c _ _ (by decide)).trans e4)))
      have y13 : (ju (ju (ju M1 659 v2 1) 660 v2 0) 598 90 (v2 + 1)) 598 74 = v12 := ((ju_i _ _ (by decide)).trans ((ju_c _ _ (by decide)).trans ((ju_c _ _ (by decide)).trans e12)))
      have y15 : (ju (ju (ju M1 659 v2 1) 660 v2 0) 598 90 (v2 + 1)) 598 79 = v14 := ((ju_i _ _ (by decide)).trans ((ju_c _ _ (by decide)).trans ((ju_c _ _ (by decide)).trans e14)))
      have y16 : (ju (ju (ju M1 659 v2 1) 660 v2 0) 598 90 (v2 + 1)) 598 80 = v7 := ((ju_i _ _ (by decide)).trans ((ju_c _ _ (by decide)).trans ((ju_c _ _ (by decide)).trans e7)))
      have y17 : (ju (ju (ju M1 659 v2 1) 660 v2 0) 598 90 (v2 + 1)) 598 90 = v2 + 1 := (ju_same _ _ _ _)
      have y20 : (ju (ju (ju M1 659 v2 1) 660 v2 0) 598 90 (v2 + 1)) 598 101 = v18 := ((ju_i _ _ (by decide)).trans ((ju_c _ _ (by decide)).trans ((ju_c _ _ (by decide)).trans e19)))
      have y21 : (ju (ju (ju M1 659 v2 1) 660 v2 0) 598 90 (v2 + 1)) 598 107 = v9 := ((ju_i _ _ (by decide)).trans ((ju_c _ _ (by decide)).trans ((ju_c _ _ (by decide)).trans e10)))
      have tb3 : TK (ju (ju (ju M1 659 v2 1) 660 v2 0) 598 90 (v2 + 1)) = TK M1 := ((TK.o (Or.inr ⟨by decide, by decide⟩)).trans ((TK.o (Or.inl (by decide))).trans ((TK.o (Or.inl (by decide))).trans rfl)))
      have e22 : M3 598 72 = v5 := ((w3_11 72 (by decide) (by decide) (by decide) (by decide) (by decide) (by decide) (by decide) (by decide) (by decide) (by decide) (by decide)).trans ((ju_i _ _ (by decide)).trans ((ju_c _ _ (by decide)).trans ((ju_c _ _ (by decide)).trans e6))))
      have y23 : M3 598 72 = v5 := e22
      obtain ⟨v24, e24⟩ : ∃ z, M3 598 73 = z := ⟨_, rfl⟩
      have b24 : 0 ≤ v24 ∧ v24 ≤ 1600 := by rw [← e24]; exact hI_M3 598 73 (by decide)
      have y25 : M3 598 73 = v24 := e24
      obtain ⟨v26, e26⟩ : ∃ z, M3 598 74 = z := ⟨_, rfl⟩
      have b26 : 0 ≤ v26 ∧ v26 ≤ 4 := by rw [← e26]; exact hI_M3 598 74 (by decide)
      have y27 : M3 598 74 = v26 := e26
      obtain ⟨v28, e28⟩ : ∃ z, M3 598 79 = z := ⟨_, rfl⟩
      have b28 : 0 ≤ v28 ∧ v28 ≤ 255 := by rw [← e28]; exact hI_M3 598 79 (by decide)
      have y29 : M3 598 79 = v28 := e28
      obtain ⟨v30, e30⟩ : ∃ z, M3 598 80 = z := ⟨_, rfl⟩
      have b30 : 0 ≤ v30 ∧ v30 ≤ 7 := by rw [← e30]; exact hI_M3 598 80 (by decide)
      have y31 : M3 598 80 = v30 := e30
      obtain ⟨v32, e32⟩ : ∃ z, M1 598 89 = z := ⟨_, rfl⟩
      have b32 : 0 ≤ v32 ∧ v32 ≤ 301 := by rw [← e32]; exact hI_M1 598 89 (by decide)
      have e33 : M3 598 89 = v32 := ((w3_11 89 (by decide) (by decide) (by decide) (by decide) (by decide) (by decide) (by decide) (by decide) (by decide) (by decide) (by decide)).trans ((ju_i _ _ (by decide)).trans ((ju_c _ _ (by decide)).trans ((ju_c _ _ (by decide)).trans e32))))
      have y34 : M3 598 89 = v32 := e33
      have e35 : M3 598 90 = v2 + 1 := ((w3_11 90 (by decide) (by decide) (by decide) (by decide) (by decide) (by decide) (by decide) (by decide) (by decide) (by decide) (by decide)).trans (ju_same _ _ _ _))
      have y36 : M3 598 90 = v2 + 1 := e35
      obtain ⟨v37, e37⟩ : ∃ z, M 598 96 = z := ⟨_, rfl⟩
      have b37 : 0 ≤ v37 ∧ v37 ≤ 300 := by rw [← e37]; exact hI_M 598 96 (by decide)
      have e38 : M1 598 96 = v37 := ((wG1 96 (by decide) (by decide) (by decide) (by decide) (by decide) (by decide) (by decide) (by decide) (by decide) (by decide) (by decide) (by decide) (by decide)).trans e37)
      have e39 : M3 598 96 = v37 := ((w3_11 96 (by decide) (by decide) (by decide) (by decide) (by decide) (by decide) (by decide) (by decide) (by decide) (by decide) (by decide)).trans ((ju_i _ _ (by decide)).trans ((ju_c _ _ (by decide)).trans ((ju_c _ _ (by decide)).trans e38))))
      have y40 : M3 598 96 = v37 := e39
      obtain ⟨v41, e41⟩ : ∃ z, M3 598 100 = z := ⟨_, rfl⟩
      have b41 : 0 ≤ v41 ∧ v41 ≤ 13 := by rw [← e41]; exact hI_M3 598 100 (by decide)
      have y42 : M3 598 100 = v41 := e41
      obtain ⟨v43, e43⟩ : ∃ z, M3 598 107 = z := ⟨_, rfl⟩
      have b43 : 0 ≤ v43 ∧ v43 ≤ 16 := by rw [← e43]; exact hI_M3 598 107 (by decide)
      have y44 : M3 598 107 = v43 := e43
      exact jr.vreturn rfl rfl (q _ hI_M3 hH_M3 hS_M3  (Or.inl ⟨by omega, by omega⟩) (by omega) (by omega) (by omega) (by omega) (fun a i f598 f659 f660 f661 f662 f663 f664 f665 f666 f667 f668 f669 => ((w3_10 a i f598 f668 f669).trans ((ju_c _ _ f598).trans ((ju_c _ _ f660).trans ((ju_c _ _ f659).trans ((wF1 a i f598 f659 f660 f664 f665 f666 f667).trans (hF_M a i f598 f659 f660 f661 f662 f663 f664 f665 f666 f667 f668 f669))))))) (fun i g73 g74 g75 g76 g77 g78 g79 g80 g81 g89 g90 g96 g100 g102 g107 => ((w3_11 i g73 g74 g75 g76 g77 g78 g79 g80 g81 g100 g107).trans ((ju_i _ _ g90).trans ((ju_c _ _ (by decide)).trans ((ju_c _ _ (by decide)).trans ((wG1 i g73 g74 g75 g76 g77 g78 g79 g80 g81 g89 g90 g100 g102).trans (hG_M i g73 g74 g75 g76 g77 g78 g79 g80 g81 g89 g90 g96 g100 g102 g107))))))))
    · obtain ⟨sa1, hX, sc1, sd1, se1, sf1⟩ := ss1
      have hA := AK.cp hA wc1 (fun i => wF1 663 i (by decide) (by decide) (by decide) (by decide) (by decide) (by decide) (by decide)) (wG1 96 (by decide) (by decide) (by decide) (by decide) (by decide) (by decide) (by decide) (by decide) (by decide) (by decide) (by decide) (by decide) (by decide))
      have dpx1 := XS.dep hX
      have sl1 := XS.sgle hX
      have bM1_107 : (0 : Int) ≤ M1 598 107 ∧ M1 598 107 ≤ 16 := hI_M1 598 107 (by decide)
      have bM1_73 : (0 : Int) ≤ M1 598 73 ∧ M1 598 73 ≤ 1600 := hI_M1 598 73 (by decide)
      have bM1_88 : (0 : Int) ≤ M1 598 88 ∧ M1 598 88 ≤ 16 := hI_M1 598 88 (by decide)
      have bM1_100 : (0 : Int) ≤ M1 598 100 ∧ M1 598 100 ≤ 13 := hI_M1 598 100 (by decide)
      refine jr.aload_n rfl rfl ?_
      obtain ⟨v45, e45⟩ : ∃ z, M1 598 90 = z := ⟨_, rfl⟩
      have b45 : 0 ≤ v45 ∧ v45 ≤ 2200 := by rw [← e45]; exact hI_M1 598 90 (by decide)
      refine jr.getf (i := 90) (x := v45) (v := .int (Int32.ofInt (v45))) rfl rfl (by decide) rfl (by decide) rfl rfl e45 rfl ?_
      refine jr.istore_n (ls' := [_, _]) rfl (by decide) rfl ?_
      refine jr.aload_n rfl rfl ?_
      refine jr.iconst rfl ?_
      refine jr.lconst (x := 0) rfl (by decide) ?_
      obtain ⟨v46, e46⟩ : ∃ z, M1 598 100 = z := ⟨_, rfl⟩
      have b46 : 0 ≤ v46 ∧ v46 ≤ 13 := by rw [← e46]; exact hI_M1 598 100 (by decide)
      obtain ⟨v48, e48⟩ : ∃ z, M 598 107 = z := ⟨_, rfl⟩
      have b48 : 0 ≤ v48 ∧ v48 ≤ 16 := by rw [← e48]; exact hI_M 598 107 (by decide)
      have e49 : M1 598 107 = v48 := ((wG1 107 (by decide) (by decide) (by decide) (by decide) (by decide) (by decide) (by decide) (by decide) (by decide) (by decide) (by decide) (by decide) (by decide)).trans e48)
      refine jr_v rfl rfl (Or.inl rfl) rfl rfl (by decide) rfl ⟨rfl, Nat.le_of_ble_eq_true rfl, Nat.le_of_ble_eq_true rfl⟩ rfl (jc.deep (r_emit e45 (by omega) (by omega) (by omega) ?_) (by decide))
      have y47 : M1 598 100 = v46 := e46
      have y50 : M1 598 107 = v48 := e49
      have hX := XS.jin hX e45 (by omega) (by omega)
      have hA := AK.emit (op := 1) (a := 0) hA e45
      have hB : LB _ := LB.emit (M := M1) (c := v45) (op := 1) (a := 0) (by decide)
      refine jr.aload_n rfl rfl ?_
      refine jr.iconst rfl ?_
      refine jr.iload_n rfl rfl ?_
      obtain ⟨v52, e52⟩ : ∃ z, M1 598 73 = z := ⟨_, rfl⟩
      have b52 : 0 ≤ v52 ∧ v52 ≤ 1600 := by rw [← e52]; exact hI_M1 598 73 (by decide)
      obtain ⟨v53, e53⟩ : ∃ z, M 598 72 = z := ⟨_, rfl⟩
      have b53 : 0 ≤ v53 ∧ v53 ≤ 1600 := by rw [← e53]; exact hI_M 598 72 (by decide)
      have e54 : M1 598 72 = v53 := ((wG1 72 (by decide) (by decide) (by decide) (by decide) (by decide) (by decide) (by decide) (by decide) (by decide) (by decide) (by decide) (by decide) (by decide)).trans e53)
      obtain ⟨v55, e55⟩ : ∃ z, M1 598 80 = z := ⟨_, rfl⟩
      have b55 : 0 ≤ v55 ∧ v55 ≤ 7 := by rw [← e55]; exact hI_M1 598 80 (by decide)
      obtain ⟨v57, e57⟩ : ∃ z, M1 598 74 = z := ⟨_, rfl⟩
      have b57 : 0 ≤ v57 ∧ v57 ≤ 4 := by rw [← e57]; exact hI_M1 598 74 (by decide)
      obtain ⟨v59, e59⟩ : ∃ z, M1 598 79 = z := ⟨_, rfl⟩
      have b59 : 0 ≤ v59 ∧ v59 ≤ 255 := by rw [← e59]; exact hI_M1 598 79 (by decide)
      obtain ⟨v63, e63⟩ : ∃ z, M 598 101 = z := ⟨_, rfl⟩
      have b63 : 0 ≤ v63 ∧ v63 ≤ 1 := by rw [← e63]; exact hI_M 598 101 (by decide)
      have e64 : M1 598 101 = v63 := ((wG1 101 (by decide) (by decide) (by decide) (by decide) (by decide) (by decide) (by decide) (by decide) (by decide) (by decide) (by decide) (by decide) (by decide)).trans e63)
      refine jr_v rfl rfl (Or.inl rfl) rfl rfl (by decide) rfl ⟨rfl, Nat.le_of_ble_eq_true rfl, Nat.le_of_ble_eq_true rfl⟩ rfl (jc.deep (r_beginBlock (RI.u (RI.u (RI.u hI_M1 (a := 659) (i := v45) (by rw [xri_row rfl rfl]; show (0 : Int) ≤ _ ∧ _ ≤ (1000 : Int); omega)) (a := 660) (i := v45) (by rw [xri_row rfl rfl]; show (-9223372036854775808 : Int) ≤ _ ∧ _ ≤ (9223372036854775807 : Int); omega)) (a := 598) (i := 90) (show (0 : Int) ≤ _ ∧ _ ≤ (2200 : Int) from by omega)) (RH.o (RH.o (RH.o hH_M1 (by decide) (by decide) (by decide)) (by decide) (by decide) (by decide)) (by decide) (by decide) (by decide)) (RF.o (RF.o (RF.o hS_M1 (by decide) (by decide)) (by decide) (by decide)) (by decide) (by decide))  (by omega) (by omega) (by rw [((ju_i _ _ (by decide)).trans ((ju_c _ _ (by decide)).trans ((ju_c _ _ (by decide)).trans e52))), ((ju_i _ _ (by decide)).trans ((ju_c _ _ (by decide)).trans ((ju_c _ _ (by decide)).trans e54)))]; omega) (by rw [((ju_i _ _ (by decide)).trans ((ju_c _ _ (by decide)).trans ((ju_c _ _ (by decide)).trans e55))), ((ju_i _ _ (by decide)).trans ((ju_c _ _ (by decide)).trans ((ju_c _ _ (by decide)).trans e46)))]; intro q; omega) (by rw [((ju_i _ _ (by decide)).trans ((ju_c _ _ (by decide)).trans ((ju_c _ _ (by decide)).trans e49)))]; omega) (fun M51 hI_M51 hH_M51 hS_M51  w51_0 w51_1 w51_2 w51_3 w51_4 w51_5 w51_6 w51_7 w51_8 w51_9 w51_10 w51_11 => ?_)) (by decide))
      have y56 : (ju (ju (ju M1 659 v45 1) 660 v45 0) 598 90 (v45 + 1)) 598 73 = v52 := ((ju_i _ _ (by decide)).trans ((ju_c _ _ (by decide)).trans ((ju_c _ _ (by decide)).trans e52)))
      have y58 : (ju (ju (ju M1 659 v45 1) 660 v45 0) 598 90 (v45 + 1)) 598 74 = v57 := ((ju_i _ _ (by decide)).trans ((ju_c _ _ (by decide)).trans ((ju_c _ _ (by decide)).trans e57)))
      have y60 : (ju (ju (ju M1 659 v45 1) 660 v45 0) 598 90 (v45 + 1)) 598 79 = v59 := ((ju_i _ _ (by decide)).trans ((ju_c _ _ (by decide)).trans ((ju_c _ _ (by decide)).trans e59)))
      have y61 : (ju (ju (ju M1 659 v45 1) 660 v45 0) 598 90 (v45 + 1)) 598 80 = v55 := ((ju_i _ _ (by decide)).trans ((ju_c _ _ (by decide)).trans ((ju_c _ _ (by decide)).trans e55)))
      have y62 : (ju (ju (ju M1 659 v45 1) 660 v45 0) 598 90 (v45 + 1)) 598 90 = v45 + 1 := (ju_same _ _ _ _)
      have y65 : (ju (ju (ju M1 659 v45 1) 660 v45 0) 598 90 (v45 + 1)) 598 101 = v63 := ((ju_i _ _ (by decide)).trans ((ju_c _ _ (by decide)).trans ((ju_c _ _ (by decide)).trans e64)))
      have y66 : (ju (ju (ju M1 659 v45 1) 660 v45 0) 598 90 (v45 + 1)) 598 107 = v48 := ((ju_i _ _ (by decide)).trans ((ju_c _ _ (by decide)).trans ((ju_c _ _ (by decide)).trans e49)))
      have tb51 : TK (ju (ju (ju M1 659 v45 1) 660 v45 0) 598 90 (v45 + 1)) = TK M1 := ((TK.o (Or.inr ⟨by decide, by decide⟩)).trans ((TK.o (Or.inl (by decide))).trans ((TK.o (Or.inl (by decide))).trans rfl)))
      have e67 : M51 598 72 = v53 := ((w51_11 72 (by decide) (by decide) (by decide) (by decide) (by decide) (by decide) (by decide) (by decide) (by decide) (by decide) (by decide)).trans ((ju_i _ _ (by decide)).trans ((ju_c _ _ (by decide)).trans ((ju_c _ _ (by decide)).trans e54))))
      have y68 : M51 598 72 = v53 := e67
      obtain ⟨v69, e69⟩ : ∃ z, M51 598 73 = z := ⟨_, rfl⟩
      have b69 : 0 ≤ v69 ∧ v69 ≤ 1600 := by rw [← e69]; exact hI_M51 598 73 (by decide)
      have y70 : M51 598 73 = v69 := e69
      obtain ⟨v71, e71⟩ : ∃ z, M51 598 74 = z := ⟨_, rfl⟩
      have b71 : 0 ≤ v71 ∧ v71 ≤ 4 := by rw [← e71]; exact hI_M51 598 74 (by decide)
      have y72 : M51 598 74 = v71 := e71
      obtain ⟨v73, e73⟩ : ∃ z, M51 598 79 = z := ⟨_, rfl⟩
      have b73 : 0 ≤ v73 ∧ v73 ≤ 255 := by rw [← e73]; exact hI_M51 598 79 (by decide)
      have y74 : M51 598 79 = v73 := e73
      obtain ⟨v75, e75⟩ : ∃ z, M51 598 80 = z := ⟨_, rfl⟩
      have b75 : 0 ≤ v75 ∧ v75 ≤ 7 := by rw [← e75]; exact hI_M51 598 80 (by decide)
      have y76 : M51 598 80 = v75 := e75
      obtain ⟨v77, e77⟩ : ∃ z, M1 598 89 = z := ⟨_, rfl⟩
      have b77 : 0 ≤ v77 ∧ v77 ≤ 301 := by rw [← e77]; exact hI_M1 598 89 (by decide)
      have e78 : M51 598 89 = v77 := ((w51_11 89 (by decide) (by decide) (by decide) (by decide) (by decide) (by decide) (by decide) (by decide) (by decide) (by decide) (by decide)).trans ((ju_i _ _ (by decide)).trans ((ju_c _ _ (by decide)).trans ((ju_c _ _ (by decide)).trans e77))))
      have y79 : M51 598 89 = v77 := e78
      have e80 : M51 598 90 = v45 + 1 := ((w51_11 90 (by decide) (by decide) (by decide) (by decide) (by decide) (by decide) (by decide) (by decide) (by decide) (by decide) (by decide)).trans (ju_same _ _ _ _))
      have y81 : M51 598 90 = v45 + 1 := e80
      obtain ⟨v82, e82⟩ : ∃ z, M 598 96 = z := ⟨_, rfl⟩
      have b82 : 0 ≤ v82 ∧ v82 ≤ 300 := by rw [← e82]; exact hI_M 598 96 (by decide)
      have e83 : M1 598 96 = v82 := ((wG1 96 (by decide) (by decide) (by decide) (by decide) (by decide) (by decide) (by decide) (by decide) (by decide) (by decide) (by decide) (by decide) (by decide)).trans e82)
      have e84 : M51 598 96 = v82 := ((w51_11 96 (by decide) (by decide) (by decide) (by decide) (by decide) (by decide) (by decide) (by decide) (by decide) (by decide) (by decide)).trans ((ju_i _ _ (by decide)).trans ((ju_c _ _ (by decide)).trans ((ju_c _ _ (by decide)).trans e83))))
      have y85 : M51 598 96 = v82 := e84
      obtain ⟨v86, e86⟩ : ∃ z, M51 598 100 = z := ⟨_, rfl⟩
      have b86 : 0 ≤ v86 ∧ v86 ≤ 13 := by rw [← e86]; exact hI_M51 598 100 (by decide)
      have y87 : M51 598 100 = v86 := e86
      obtain ⟨v88, e88⟩ : ∃ z, M51 598 107 = z := ⟨_, rfl⟩
      have b88 : 0 ≤ v88 ∧ v88 ≤ 16 := by rw [← e88]; exact hI_M51 598 107 (by decide)
      have y89 : M51 598 107 = v88 := e88
      exact jr.vreturn rfl rfl (q _ hI_M51 hH_M51 hS_M51  (by by_cases hf : v75 = 0; (first | (have hX := w51_9 0 (0 + 2) 0 1 _ hX (by omega) (by omega) (fun _ => ⟨by omega, by omega, by omega, by omega, by rw [ju_c _ _ (by decide), ju_c _ _ (by decide), ju_same]; rfl, rfl⟩) (by rw [RVq_s (by omega)]; omega) (by omega); have hB := LB.fr hB (fun i => w51_10 659 i (by decide) (by decide) (by decide)) (w51_11 90 (by decide) (by decide) (by decide) (by decide) (by decide) (by decide) (by decide) (by decide) (by decide) (by decide) (by decide)); have hA := AK.cp hA (CP.f (CP.rfl _) (fun i => w51_10 659 i (by decide) (by decide) (by decide)) (w51_11 90 (by decide) (by decide) (by decide) (by decide) (by decide) (by decide) (by decide) (by decide) (by decide) (by decide) (by decide))) (fun i => w51_10 663 i (by decide) (by decide) (by decide)) (w51_11 96 (by decide) (by decide) (by decide) (by decide) (by decide) (by decide) (by decide) (by decide) (by decide) (by decide) (by decide)); exact Or.inr ⟨⟨by omega, XS.adj hX (k' := 0) (z' := 0) (by omega) (by omega) (by omega), by omega, by omega, by omega, by omega, hB, hA, by omega⟩, by omega⟩) | (exfalso; omega)); (exact Or.inl ⟨by omega, by omega⟩)) (by omega) (by omega) (by omega) (by omega) (fun a i f598 f659 f660 f661 f662 f663 f664 f665 f666 f667 f668 f669 => ((w51_10 a i f598 f668 f669).trans ((ju_c _ _ f598).trans ((ju_c _ _ f660).trans ((ju_c _ _ f659).trans ((wF1 a i f598 f659 f660 f664 f665 f666 f667).trans (hF_M a i f598 f659 f660 f661 f662 f663 f664 f665 f666 f667 f668 f669))))))) (fun i g73 g74 g75 g76 g77 g78 g79 g80 g81 g89 g90 g96 g100 g102 g107 => ((w51_11 i g73 g74 g75 g76 g77 g78 g79 g80 g81 g100 g107).trans ((ju_i _ _ g90).trans ((ju_c _ _ (by decide)).trans ((ju_c _ _ (by decide)).trans ((wG1 i g73 g74 g75 g76 g77 g78 g79 g80 g81 g89 g90 g100 g102).trans (hG_M i g73 g74 g75 g76 g77 g78 g79 g80 g81 g89 g90 g96 g100 g102 g107))))))))
