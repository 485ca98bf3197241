theorem r_deed_L230 {A : Nat → Option (Nat × (Nat → Int32))} {Q : Option Value → jm → Prop} {M0 : jm} (q : ∀ (M' : jm), RI M' → RH M' → RF M' → (BT M' ∨ (DS M' 0 ∧ TK M' < TK M0)) → TK M' ≤ TK M0 → M' 598 73 ≤ M' 598 72 → (M' 598 80 ≠ 0 ∨ TK M' < TK M0) → M0 598 107 ≤ M' 598 107 → (∀ (a : Nat) (i : Int), a ≠ 598 → a ≠ 659 → a ≠ 660 → a ≠ 661 → a ≠ 662 → a ≠ 663 → a ≠ 664 → a ≠ 665 → a ≠ 666 → a ≠ 667 → a ≠ 668 → a ≠ 669 → M' a i = M0 a i) → (∀ (i : Int), i ≠ 73 → i ≠ 74 → i ≠ 75 → i ≠ 76 → i ≠ 77 → i ≠ 78 → i ≠ 79 → i ≠ 80 → i ≠ 81 → i ≠ 89 → i ≠ 90 → i ≠ 96 → i ≠ 100 → i ≠ 102 → i ≠ 107 → M' 598 i = M0 598 i) → Q none M') : ∀ (M : jm) (w : Int), RI M → RH M → RF M → (∀ (a : Nat) (i : Int), a ≠ 598 → a ≠ 659 → a ≠ 660 → a ≠ 661 → a ≠ 662 → a ≠ 663 → a ≠ 664 → a ≠ 665 → a ≠ 666 → a ≠ 667 → a ≠ 668 → a ≠ 669 → M a i = M0 a i) → (∀ (i : Int), i ≠ 73 → i ≠ 74 → i ≠ 75 → i ≠ 76 → i ≠ 77 → i ≠ 78 → i ≠ 79 → i ≠ 80 → i ≠ 81 → i ≠ 89 → i ≠ 90 → i ≠ 96 → i ≠ 100 → i ≠ 102 → i ≠ 107 → M 598 i = M0 598 i) → 4 ≤ w ∧ w ≤ 18 → (BS M ∨ DJ M w) → M 598 73 ≤ M 598 72 → TK M ≤ TK M0 → (M 598 80 ≠ 0 ∨ TK M < TK M0) → M 598 107 = M0 598 107 → 1 ≤ M 598 88 → M 598 107 ≤ 12 → jr A 7 xm_367 230 [(1, .int (Int32.ofInt (w))), (0, .ref (598))] [] M Q := by
    intro M w hI_M hH_M hS_M hF_M hG_M h_w hy0 hy1 hy2 hy3 hy4 hy5 hy6
    rcases hy0 with zb | zg
    · obtain ⟨za, zc⟩ := zb
      refine jr.aload_n rfl rfl ?_
      refine jr.bipush rfl (by decide) ?_
      refine jr.iload_n rfl rfl ?_
      refine jr.iadd rfl ?_
      refine jr.lconst (x := 0) rfl (by decide) ?_
      obtain ⟨v1, e1⟩ : ∃ z, M 598 90 = z := ⟨_, rfl⟩
      have b1 : 0 ≤ v1 ∧ v1 ≤ 2200 := by rw [← e1]; exact hI_M 598 90 (by decide)
      refine jr_v rfl rfl (Or.inl rfl) rfl rfl (by decide) rfl ⟨rfl, Nat.le_of_ble_eq_true rfl, Nat.le_of_ble_eq_true rfl⟩ rfl (jc.deep (r_emit e1 (by omega) (by omega) (by omega) ?_) (by decide))
      refine jr.aload_n rfl rfl ?_
      refine jr.bipush rfl (by decide) ?_
      obtain ⟨v3, e3⟩ : ∃ z, M 598 73 = z := ⟨_, rfl⟩
      have b3 : 0 ≤ v3 ∧ v3 ≤ 1600 := by rw [← e3]; exact hI_M 598 73 (by decide)
      obtain ⟨v4, e4⟩ : ∃ z, M 598 72 = z := ⟨_, rfl⟩
      have b4 : 0 ≤ v4 ∧ v4 ≤ 1600 := by rw [← e4]; exact hI_M 598 72 (by decide)
      obtain ⟨v6, e6⟩ : ∃ z, M 598 74 = z := ⟨_, rfl⟩
      have b6 : 0 ≤ v6 ∧ v6 ≤ 4 := by rw [← e6]; exact hI_M 598 74 (by decide)
      obtain ⟨v8, e8⟩ : ∃ z, M 598 79 = z := ⟨_, rfl⟩
      have b8 : 0 ≤ v8 ∧ v8 ≤ 255 := by rw [← e8]; exact hI_M 598 79 (by decide)
      obtain ⟨v10, e10⟩ : ∃ z, M 598 80 = z := ⟨_, rfl⟩
      have b10 : 0 ≤ v10 ∧ v10 ≤ 7 := by rw [← e10]; exact hI_M 598 80 (by decide)
      refine jr_v rfl rfl (Or.inl rfl) rfl rfl (by decide) rfl ⟨rfl, Nat.le_of_ble_eq_true rfl, Nat.le_of_ble_eq_true rfl⟩ rfl (jc.deep (r_want (RI.u (RI.u (RI.u hI_M (a := 659) (i := v1) (by rw [xri_row rfl rfl]; show (0 : Int) ≤ _ ∧ _ ≤ (1000 : Int); omega)) (a := 660) (i := v1) (by rw [xri_row rfl rfl]; show (-9223372036854775808 : Int) ≤ _ ∧ _ ≤ (9223372036854775807 : Int); omega)) (a := 598) (i := 90) (show (0 : Int) ≤ _ ∧ _ ≤ (2200 : Int) from by omega)) (RH.o (RH.o (RH.o hH_M (by decide) (by decide) (by decide)) (by decide) (by decide) (by decide)) (by decide) (by decide) (by decide)) (RF.o (RF.o (RF.o hS_M (by decide) (by decide)) (by decide) (by decide)) (by decide) (by decide))  (by omega) (by rw [((ju_i _ _ (by decide)).trans ((ju_c _ _ (by decide)).trans ((ju_c _ _ (by decide)).trans e3))), ((ju_i _ _ (by decide)).trans ((ju_c _ _ (by decide)).trans ((ju_c _ _ (by decide)).trans e4)))]; omega) (fun M2 hI_M2 hH_M2 hS_M2  w2_0 w2_1 w2_2 w2_3 w2_4 w2_5 w2_6 w2_7 => ?_)) (by decide))
      have y5 : (ju (ju (ju M 659 v1 (20 + w)) 660 v1 0) 598 90 (v1 + 1)) 598 73 = v3 := ((ju_i _ _ (by decide)).trans ((ju_c _ _ (by decide)).trans ((ju_c _ _ (by decide)).trans e3)))
      have y7 : (ju (ju (ju M 659 v1 (20 + w)) 660 v1 0) 598 90 (v1 + 1)) 598 74 = v6 := ((ju_i _ _ (by decide)).trans ((ju_c _ _ (by decide)).trans ((ju_c _ _ (by decide)).trans e6)))
      have y9 : (ju (ju (ju M 659 v1 (20 + w)) 660 v1 0) 598 90 (v1 + 1)) 598 79 = v8 := ((ju_i _ _ (by decide)).trans ((ju_c _ _ (by decide)).trans ((ju_c _ _ (by decide)).trans e8)))
      have y11 : (ju (ju (ju M 659 v1 (20 + w)) 660 v1 0) 598 90 (v1 + 1)) 598 80 = v10 := ((ju_i _ _ (by decide)).trans ((ju_c _ _ (by decide)).trans ((ju_c _ _ (by decide)).trans e10)))
      have tb2 : TK (ju (ju (ju M 659 v1 (20 + w)) 660 v1 0) 598 90 (v1 + 1)) = TK M := ((TK.o (Or.inr ⟨by decide, by decide⟩)).trans ((TK.o (Or.inl (by decide))).trans ((TK.o (Or.inl (by decide))).trans rfl)))
      have e12 : M2 598 72 = v4 := ((w2_7 72 (by decide) (by decide) (by decide) (by decide) (by decide) (by decide) (by decide) (by decide) (by decide)).trans ((ju_i _ _ (by decide)).trans ((ju_c _ _ (by decide)).trans ((ju_c _ _ (by decide)).trans e4))))
      have y13 : M2 598 72 = v4 := e12
      obtain ⟨v14, e14⟩ : ∃ z, M2 598 73 = z := ⟨_, rfl⟩
      have b14 : 0 ≤ v14 ∧ v14 ≤ 1600 := by rw [← e14]; exact hI_M2 598 73 (by decide)
      have y15 : M2 598 73 = v14 := e14
      obtain ⟨v16, e16⟩ : ∃ z, M2 598 74 = z := ⟨_, rfl⟩
      have b16 : 0 ≤ v16 ∧ v16 ≤ 4 := by rw [← e16]; exact hI_M2 598 74 (by decide)
      have y17 : M2 598 74 = v16 := e16
      obtain ⟨v18, e18⟩ : ∃ z, M2 598 79 = z := ⟨_, rfl⟩
      have b18 : 0 ≤ v18 ∧ v18 ≤ 255 := by rw [← e18]; exact hI_M2 598 79 (by decide)
      have y19 : M2 598 79 = v18 := e18
      obtain ⟨v20, e20⟩ : ∃ z, M2 598 80 = z := ⟨_, rfl⟩
      have b20 : 0 ≤ v20 ∧ v20 ≤ 7 := by rw [← e20]; exact hI_M2 598 80 (by decide)
      have y21 : M2 598 80 = v20 := e20
      obtain ⟨v22, e22⟩ : ∃ z, M 598 89 = z := ⟨_, rfl⟩
      have b22 : 0 ≤ v22 ∧ v22 ≤ 301 := by rw [← e22]; exact hI_M 598 89 (by decide)
      have e23 : M2 598 89 = v22 := ((w2_7 89 (by decide) (by decide) (by decide) (by decide) (by decide) (by decide) (by decide) (by decide) (by decide)).trans ((ju_i _ _ (by decide)).trans ((ju_c _ _ (by decide)).trans ((ju_c _ _ (by decide)).trans e22))))
      have y24 : M2 598 89 = v22 := e23
      have e25 : M2 598 90 = v1 + 1 := ((w2_7 90 (by decide) (by decide) (by decide) (by decide) (by decide) (by decide) (by decide) (by decide) (by decide)).trans (ju_same _ _ _ _))
      have y26 : M2 598 90 = v1 + 1 := e25
      obtain ⟨v27, e27⟩ : ∃ z, M 598 96 = z := ⟨_, rfl⟩
      have b27 : 0 ≤ v27 ∧ v27 ≤ 300 := by rw [← e27]; exact hI_M 598 96 (by decide)
      have e28 : M2 598 96 = v27 := ((w2_7 96 (by decide) (by decide) (by decide) (by decide) (by decide) (by decide) (by decide) (by decide) (by decide)).trans ((ju_i _ _ (by decide)).trans ((ju_c _ _ (by decide)).trans ((ju_c _ _ (by decide)).trans e27))))
      have y29 : M2 598 96 = v27 := e28
      obtain ⟨v30, e30⟩ : ∃ z, M 598 100 = z := ⟨_, rfl⟩
      have b30 : 0 ≤ v30 ∧ v30 ≤ 13 := by rw [← e30]; exact hI_M 598 100 (by decide)
      have e31 : M2 598 100 = v30 := ((w2_7 100 (by decide) (by decide) (by decide) (by decide) (by decide) (by decide) (by decide) (by decide) (by decide)).trans ((ju_i _ _ (by decide)).trans ((ju_c _ _ (by decide)).trans ((ju_c _ _ (by decide)).trans e30))))
      have y32 : M2 598 100 = v30 := e31
      obtain ⟨v33, e33⟩ : ∃ z, M 598 107 = z := ⟨_, rfl⟩
      have b33 : 0 ≤ v33 ∧ v33 ≤ 16 := by rw [← e33]; exact hI_M 598 107 (by decide)
      have e34 : M2 598 107 = v33 := ((w2_7 107 (by decide) (by decide) (by decide) (by decide) (by decide) (by decide) (by decide) (by decide) (by decide)).trans ((ju_i _ _ (by decide)).trans ((ju_c _ _ (by decide)).trans ((ju_c _ _ (by decide)).trans e33))))
      have y35 : M2 598 107 = v33 := e34
      exact jr.vreturn rfl rfl (q _ hI_M2 hH_M2 hS_M2  (Or.inl ⟨by omega, by omega⟩) (by omega) (by omega) (by omega) (by omega) (fun a i f598 f659 f660 f661 f662 f663 f664 f665 f666 f667 f668 f669 => ((w2_6 a i f598).trans ((ju_c _ _ f598).trans ((ju_c _ _ f660).trans ((ju_c _ _ f659).trans (hF_M a i f598 f659 f660 f661 f662 f663 f664 f665 f666 f667 f668 f669)))))) (fun i g73 g74 g75 g76 g77 g78 g79 g80 g81 g89 g90 g96 g100 g102 g107 => ((w2_7 i g73 g74 g75 g76 g77 g78 g79 g80 g81).trans ((ju_i _ _ g90).trans ((ju_c _ _ (by decide)).trans ((ju_c _ _ (by decide)).trans (hG_M i g73 g74 g75 g76 g77 g78 g79 g80 g81 g89 g90 g96 g100 g102 g107)))))))
    · obtain ⟨⟨sa, hX, sc, sd, se, sf⟩, sk, dj⟩ := zg
      have dpx := XS.dep hX
      have sl := XS.sgle hX
      have dlw := dl_deed (w := w) (by omega)
      have bM_107 : (0 : Int) ≤ M 598 107 ∧ M 598 107 ≤ 16 := hI_M 598 107 (by decide)
      have bM_73 : (0 : Int) ≤ M 598 73 ∧ M 598 73 ≤ 1600 := hI_M 598 73 (by decide)
      have bM_88 : (0 : Int) ≤ M 598 88 ∧ M 598 88 ≤ 16 := hI_M 598 88 (by decide)
      have bM_100 : (0 : Int) ≤ M 598 100 ∧ M 598 100 ≤ 13 := hI_M 598 100 (by decide)
      refine jr.aload_n rfl rfl ?_
      refine jr.bipush rfl (by decide) ?_
      refine jr.iload_n rfl rfl ?_
      refine jr.iadd rfl ?_
      refine jr.lconst (x := 0) rfl (by decide) ?_
      obtain ⟨v36, e36⟩ : ∃ z, M 598 90 = z := ⟨_, rfl⟩
      have b36 : 0 ≤ v36 ∧ v36 ≤ 2200 := by rw [← e36]; exact hI_M 598 90 (by decide)
      obtain ⟨v37, e37⟩ : ∃ z, M 598 100 = z := ⟨_, rfl⟩
      have b37 : 0 ≤ v37 ∧ v37 ≤ 13 := by rw [← e37]; exact hI_M 598 100 (by decide)
      obtain ⟨v39, e39⟩ : ∃ z, M 598 107 = z := ⟨_, rfl⟩
      have b39 : 0 ≤ v39 ∧ v39 ≤ 16 := by rw [← e39]; exact hI_M 598 107 (by decide)
      obtain ⟨v41, e41⟩ : ∃ z, M 598 88 = z := ⟨_, rfl⟩
      have b41 : 0 ≤ v41 ∧ v41 ≤ 16 := by rw [← e41]; exact hI_M 598 88 (by decide)
      refine jr_v rfl rfl (Or.inl rfl) rfl rfl (by decide) rfl ⟨rfl, Nat.le_of_ble_eq_true rfl, Nat.le_of_ble_eq_true rfl⟩ rfl (jc.deep (r_emit e36 (by omega) (by omega) (by omega) ?_) (by decide))
      have y38 : M 598 100 = v37 := e37
      have y40 : M 598 107 = v39 := e39
      have y42 : M 598 88 = v41 := e41
      have hX := XS.deed hX e36 (by omega) (by omega) (by omega) (fun q => by rcases dj with ⟨z1, z2, z3⟩ | ⟨z1, z2, z3, z4⟩; (exfalso; omega); (rw [e36] at z4; exact ⟨by omega, z4, by omega⟩))
      have hA : AK (ju (ju (ju M 659 v36 (20 + w)) 660 v36 0) 598 90 (v36 + 1)) := by rcases dj with ⟨z1, z2, z3⟩ | ⟨z1, z2, z3, z4⟩; (exact AK.emit (op := 20 + w) (a := 0) z3 e36); (exact AK2.emit (a := 0) z2 e36 (by omega) (by omega))
      have hB : LB _ := LB.emit (M := M) (c := v36) (op := 20 + w) (a := 0) (by omega)
      refine jr.aload_n rfl rfl ?_
      refine jr.bipush rfl (by decide) ?_
      obtain ⟨v44, e44⟩ : ∃ z, M 598 73 = z := ⟨_, rfl⟩
      have b44 : 0 ≤ v44 ∧ v44 ≤ 1600 := by rw [← e44]; exact hI_M 598 73 (by decide)
      obtain ⟨v45, e45⟩ : ∃ z, M 598 72 = z := ⟨_, rfl⟩
      have b45 : 0 ≤ v45 ∧ v45 ≤ 1600 := by rw [← e45]; exact hI_M 598 72 (by decide)
      obtain ⟨v47, e47⟩ : ∃ z, M 598 74 = z := ⟨_, rfl⟩
      have b47 : 0 ≤ v47 ∧ v47 ≤ 4 := by rw [← e47]; exact hI_M 598 74 (by decide)
      obtain ⟨v49, e49⟩ : ∃ z, M 598 79 = z := ⟨_, rfl⟩
      have b49 : 0 ≤ v49 ∧ v49 ≤ 255 := by rw [← e49]; exact hI_M 598 79 (by decide)
      obtain ⟨v51, e51⟩ : ∃ z, M 598 80 = z := ⟨_, rfl⟩
      have b51 : 0 ≤ v51 ∧ v51 ≤ 7 := by rw [← e51]; exact hI_M 598 80 (by decide)
      refine jr_v rfl rfl (Or.inl rfl) rfl rfl (by decide) rfl ⟨rfl, Nat.le_of_ble_eq_true rfl, Nat.le_of_ble_eq_true rfl⟩ rfl (jc.deep (r_want (RI.u (RI.u (RI.u hI_M (a := 659) (i := v36) (by rw [xri_row rfl rfl]; show (0 : Int) ≤ _ ∧ _ ≤ (1000 : Int); omega)) (a := 660) (i := v36) (by rw [xri_row rfl rfl]; show (-9223372036854775808 : Int) ≤ _ ∧ _ ≤ (9223372036854775807 : Int); omega)) (a := 598) (i := 90) (show (0 : Int) ≤ _ ∧ _ ≤ (2200 : Int) from by omega)) (RH.o (RH.o (RH.o hH_M (by decide) (by decide) (by decide)) (by decide) (by decide) (by decide)) (by decide) (by decide) (by decide)) (RF.o (RF.o (RF.o hS_M (by decide) (by decide)) (by decide) (by decide)) (by decide) (by decide))  (by omega) (by rw [((ju_i _ _ (by decide)).trans ((ju_c _ _ (by decide)).trans ((ju_c _ _ (by decide)).trans e44))), ((ju_i _ _ (by decide)).trans ((ju_c _ _ (by decide)).trans ((ju_c _ _ (by decide)).trans e45)))]; omega) (fun M43 hI_M43 hH_M43 hS_M43  w43_0 w43_1 w43_2 w43_3 w43_4 w43_5 w43_6 w43_7 => ?_)) (by decide))
      have y46 : (ju (ju (ju M 659 v36 (20 + w)) 660 v36 0) 598 90 (v36 + 1)) 598 73 = v44 := ((ju_i _ _ (by decide)).trans ((ju_c _ _ (by decide)).trans ((ju_c _ _ (by decide)).trans e44)))
      have y48 : (ju (ju (ju M 659 v36 (20 + w)) 660 v36 0) 598 90 (v36 + 1)) 598 74 = v47 := ((ju_i _ _ (by decide)).trans ((ju_c _ _ (by decide)).trans ((ju_c _ _ (by decide)).trans e47)))
      have y50 : (ju (ju (ju M 659 v36 (20 + w)) 660 v36 0) 598 90 (v36 + 1)) 598 79 = v49 := ((ju_i _ _ (by decide)).trans ((ju_c _ _ (by decide)).trans ((ju_c _ _ (by decide)).trans e49)))
      have y52 : (ju (ju (ju M 659 v36 (20 + w)) 660 v36 0) 598 90 (v36 + 1)) 598 80 = v51 := ((ju_i _ _ (by decide)).trans ((ju_c _ _ (by decide)).trans ((ju_c _ _ (by decide)).trans e51)))
      have tb43 : TK (ju (ju (ju M 659 v36 (20 + w)) 660 v36 0) 598 90 (v36 + 1)) = TK M := ((TK.o (Or.inr ⟨by decide, by decide⟩)).trans ((TK.o (Or.inl (by decide))).trans ((TK.o (Or.inl (by decide))).trans rfl)))
      have e53 : M43 598 72 = v45 := ((w43_7 72 (by decide) (by decide) (by decide) (by decide) (by decide) (by decide) (by decide) (by decide) (by decide)).trans ((ju_i _ _ (by decide)).trans ((ju_c _ _ (by decide)).trans ((ju_c _ _ (by decide)).trans e45))))
      have y54 : M43 598 72 = v45 := e53
      obtain ⟨v55, e55⟩ : ∃ z, M43 598 73 = z := ⟨_, rfl⟩
      have b55 : 0 ≤ v55 ∧ v55 ≤ 1600 := by rw [← e55]; exact hI_M43 598 73 (by decide)
      have y56 : M43 598 73 = v55 := e55
      obtain ⟨v57, e57⟩ : ∃ z, M43 598 74 = z := ⟨_, rfl⟩
      have b57 : 0 ≤ v57 ∧ v57 ≤ 4 := by rw [← e57]; exact hI_M43 598 74 (by decide)
      have y58 : M43 598 74 = v57 := e57
      obtain ⟨v59, e59⟩ : ∃ z, M43 598 79 = z := ⟨_, rfl⟩
      have b59 : 0 ≤ v59 ∧ v59 ≤ 255 := by rw [← e59]; exact hI_M43 598 79 (by decide)
      have y60 : M43 598 79 = v59 := e59
      obtain ⟨v61, e61⟩ : ∃ z, M43 598 80 = z := ⟨_, rfl⟩
      have b61 : 0 ≤ v61 ∧ v61 ≤ 7 := by rw [← e61]; exact hI_M43 598 80 (by decide)
      have y62 : M43 598 80 = v61 := e61
      obtain ⟨v63, e63⟩ : ∃ z, M 598 89 = z := ⟨_, rfl⟩
      have b63 : 0 ≤ v63 ∧ v63 ≤ 301 := by rw [← e63]; exact hI_M 598 89 (by decide)
      have e64 : M43 598 89 = v63 := ((w43_7 89 (by decide) (by decide) (by decide) (by decide) (by decide) (by decide) (by decide) (by decide) (by decide)).trans ((ju_i _ _ (by decide)).trans ((ju_c _ _ (by decide)).trans ((ju_c _ _ (by decide)).trans e63))))
      have y65 : M43 598 89 = v63 := e64
      have e66 : M43 598 90 = v36 + 1 := ((w43_7 90 (by decide) (by decide) (by decide) (by decide) (by decide) (by decide) (by decide) (by decide) (by decide)).trans (ju_same _ _ _ _))
      have y67 : M43 598 90 = v36 + 1 := e66
      obtain ⟨v68, e68⟩ : ∃ z, M 598 96 = z := ⟨_, rfl⟩
      have b68 : 0 ≤ v68 ∧ v68 ≤ 300 := by rw [← e68]; exact hI_M 598 96 (by decide)
      have e69 : M43 598 96 = v68 := ((w43_7 96 (by decide) (by decide) (by decide) (by decide) (by decide) (by decide) (by decide) (by decide) (by decide)).trans ((ju_i _ _ (by decide)).trans ((ju_c _ _ (by decide)).trans ((ju_c _ _ (by decide)).trans e68))))
      have y70 : M43 598 96 = v68 := e69
      have e71 : M43 598 100 = v37 := ((w43_7 100 (by decide) (by decide) (by decide) (by decide) (by decide) (by decide) (by decide) (by decide) (by decide)).trans ((ju_i _ _ (by decide)).trans ((ju_c _ _ (by decide)).trans ((ju_c _ _ (by decide)).trans e37))))
      have y72 : M43 598 100 = v37 := e71
      have e73 : M43 598 107 = v39 := ((w43_7 107 (by decide) (by decide) (by decide) (by decide) (by decide) (by decide) (by decide) (by decide) (by decide)).trans ((ju_i _ _ (by decide)).trans ((ju_c _ _ (by decide)).trans ((ju_c _ _ (by decide)).trans e39))))
      have y74 : M43 598 107 = v39 := e73
      obtain ⟨v76, e76⟩ : ∃ z, M 598 74 = z := ⟨_, rfl⟩
      have b76 : 0 ≤ v76 ∧ v76 ≤ 4 := by rw [← e76]; exact hI_M 598 74 (by decide)
      obtain ⟨v78, e78⟩ : ∃ z, M 598 89 = z := ⟨_, rfl⟩
      have b78 : 0 ≤ v78 ∧ v78 ≤ 301 := by rw [← e78]; exact hI_M 598 89 (by decide)
      exact jr.vreturn rfl rfl (q _ hI_M43 hH_M43 hS_M43  (by by_cases hf : v61 = 0; (first | (have y75 : (ju (ju (ju M 659 v36 (20 + w)) 660 v36 0) 598 90 (v36 + 1)) 598 73 = v44 := ((ju_i _ _ (by decide)).trans ((ju_c _ _ (by decide)).trans ((ju_c _ _ (by decide)).trans e44))); have y77 : (ju (ju (ju M 659 v36 (20 + w)) 660 v36 0) 598 90 (v36 + 1)) 598 74 = v76 := ((ju_i _ _ (by decide)).trans ((ju_c _ _ (by decide)).trans ((ju_c _ _ (by decide)).trans e76))); have y79 : (ju (ju (ju M 659 v36 (20 + w)) 660 v36 0) 598 90 (v36 + 1)) 598 89 = v78 := ((ju_i _ _ (by decide)).trans ((ju_c _ _ (by decide)).trans ((ju_c _ _ (by decide)).trans e78))); have y80 : (ju (ju (ju M 659 v36 (20 + w)) 660 v36 0) 598 90 (v36 + 1)) 598 100 = v37 := ((ju_i _ _ (by decide)).trans ((ju_c _ _ (by decide)).trans ((ju_c _ _ (by decide)).trans e37))); have x43_89 := w43_7 89 (by decide) (by decide) (by decide) (by decide) (by decide) (by decide) (by decide) (by decide) (by decide); have x43_100 := w43_7 100 (by decide) (by decide) (by decide) (by decide) (by decide) (by decide) (by decide) (by decide) (by decide); have hX := XS.fr2 hX w43_6 (w43_7 88 (by decide) (by decide) (by decide) (by decide) (by decide) (by decide) (by decide) (by decide) (by decide)) (w43_7 90 (by decide) (by decide) (by decide) (by decide) (by decide) (by decide) (by decide) (by decide) (by decide)) (w43_7 101 (by decide) (by decide) (by decide) (by decide) (by decide) (by decide) (by decide) (by decide) (by decide)) (w43_7 107 (by decide) (by decide) (by decide) (by decide) (by decide) (by decide) (by decide) (by decide) (by decide)) (k' := 0) (d' := 0) (z' := 0) (by omega) (by omega) (by omega) (by omega); have hA := AK.cp hA (CP.f (CP.rfl _) (fun i => w43_6 659 i (by decide)) (w43_7 90 (by decide) (by decide) (by decide) (by decide) (by decide) (by decide) (by decide) (by decide) (by decide))) (fun i => w43_6 663 i (by decide)) (w43_7 96 (by decide) (by decide) (by decide) (by decide) (by decide) (by decide) (by decide) (by decide) (by decide)); have hB := LB.fr hB (fun i => w43_6 659 i (by decide)) (w43_7 90 (by decide) (by decide) (by decide) (by decide) (by decide) (by decide) (by decide) (by decide) (by decide)); exact Or.inr ⟨⟨by omega, XS.adj hX (k' := 0) (z' := 0) (by omega) (by omega) (by omega), by omega, by omega, by omega, by omega, hB, hA, by omega⟩, by omega⟩) | (exfalso; omega)); (exact Or.inl ⟨by omega, by omega⟩)) (by omega) (by omega) (by omega) (by omega) (fun a i f598 f659 f660 f661 f662 f663 f664 f665 f666 f667 f668 f669 => ((w43_6 a i f598).trans ((ju_c _ _ f598).trans ((ju_c _ _ f660).trans ((ju_c _ _ f659).trans (hF_M a i f598 f659 f660 f661 f662 f663 f664 f665 f666 f667 f668 f669)))))) (fun i g73 g74 g75 g76 g77 g78 g79 g80 g81 g89 g90 g96 g100 g102 g107 => ((w43_7 i g73 g74 g75 g76 g77 g78 g79 g80 g81).trans ((ju_i _ _ g90).trans ((ju_c _ _ (by decide)).trans ((ju_c _ _ (by decide)).trans (hG_M i g73 g74 g75 g76 g77 g78 g79 g80 g81 g89 g90 g96 g100 g102 g107)))))))
