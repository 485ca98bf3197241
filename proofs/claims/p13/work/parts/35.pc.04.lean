theorem r_exp {A : Nat → Option (Nat × (Nat → Int32))} {Q : Option Value → jm → Prop} {b kk : Int} {M : jm} (hI_M : RI M) (hH_M : RH M) (hS_M : RF M) (p0 : SS M b kk) (p1 : 0 ≤ b ∧ b ≤ 4) (q : ∀ (M' : jm), RI M' → RH M' → RF M' → (BS M' ∨ (SS M' (b + 1) kk ∧ TK M' < TK M)) → TK M' ≤ TK M → M' 598 73 ≤ M' 598 72 → (M' 598 80 ≠ 0 ∨ TK M' < TK M) → CP M M' → M 598 89 ≤ M' 598 89 → (∀ (a : Nat) (i : Int), a ≠ 598 → a ≠ 659 → a ≠ 660 → a ≠ 664 → a ≠ 665 → a ≠ 666 → a ≠ 667 → M' a i = M a i) → (∀ (i : Int), i ≠ 73 → i ≠ 74 → i ≠ 75 → i ≠ 76 → i ≠ 77 → i ≠ 78 → i ≠ 79 → i ≠ 80 → i ≠ 81 → i ≠ 89 → i ≠ 90 → i ≠ 100 → i ≠ 102 → M' 598 i = M 598 i) → Q none M') : jc A 7 364 [.ref (598)] M Q := by
  obtain ⟨ss1, ss2, ss3, ss4, ss5, ss6⟩ := id p0
  have b73 : (0 : Int) ≤ M 598 73 ∧ M 598 73 ≤ 1600 := hI_M 598 73 (by decide)
  have sl := XS.sgle ss2
  have kb := XS.kz ss2
  have b88 : (0 : Int) ≤ M 598 88 ∧ M 598 88 ≤ 16 := hI_M 598 88 (by decide)
  refine jc_of (m := xm_364) rfl (Nat.le_of_ble_eq_true rfl) rfl ?_
  refine jr.sipush rfl (by decide) ?_
  refine jr.istore_n (ls' := [_, _]) rfl (by decide) rfl ?_
  refine jr.aload_n rfl rfl ?_
  refine jr.iconst rfl ?_
  refine jr.putf (i := 102) (x := 0) rfl rfl (by decide) rfl (by decide) rfl rfl rfl rfl rfl ?_
  refine jr.iconst rfl ?_
  refine jr.istore_n (ls' := [_, _, _]) rfl (by decide) rfl ?_
  obtain ⟨v1, e1⟩ : ∃ z, M 598 72 = z := ⟨_, rfl⟩
  have b1 : 0 ≤ v1 ∧ v1 ≤ 1600 := by rw [← e1]; exact hI_M 598 72 (by decide)
  have y2 : (ju M 598 102 0) 598 72 = v1 := ((ju_i _ _ (by decide)).trans e1)
  obtain ⟨v3, e3⟩ : ∃ z, M 598 73 = z := ⟨_, rfl⟩
  have b3 : 0 ≤ v3 ∧ v3 ≤ 1600 := by rw [← e3]; exact hI_M 598 73 (by decide)
  have y4 : (ju M 598 102 0) 598 73 = v3 := ((ju_i _ _ (by decide)).trans e3)
  obtain ⟨v5, e5⟩ : ∃ z, M 598 74 = z := ⟨_, rfl⟩
  have b5 : 0 ≤ v5 ∧ v5 ≤ 4 := by rw [← e5]; exact hI_M 598 74 (by decide)
  have y6 : (ju M 598 102 0) 598 74 = v5 := ((ju_i _ _ (by decide)).trans e5)
  obtain ⟨v7, e7⟩ : ∃ z, M 598 79 = z := ⟨_, rfl⟩
  have b7 : 0 ≤ v7 ∧ v7 ≤ 255 := by rw [← e7]; exact hI_M 598 79 (by decide)
  have y8 : (ju M 598 102 0) 598 79 = v7 := ((ju_i _ _ (by decide)).trans e7)
  obtain ⟨v9, e9⟩ : ∃ z, M 598 80 = z := ⟨_, rfl⟩
  have b9 : 0 ≤ v9 ∧ v9 ≤ 7 := by rw [← e9]; exact hI_M 598 80 (by decide)
  have y10 : (ju M 598 102 0) 598 80 = v9 := ((ju_i _ _ (by decide)).trans e9)
  obtain ⟨v11, e11⟩ : ∃ z, M 598 89 = z := ⟨_, rfl⟩
  have b11 : 0 ≤ v11 ∧ v11 ≤ 301 := by rw [← e11]; exact hI_M 598 89 (by decide)
  have y12 : (ju M 598 102 0) 598 89 = v11 := ((ju_i _ _ (by decide)).trans e11)
  obtain ⟨v13, e13⟩ : ∃ z, M 598 90 = z := ⟨_, rfl⟩
  have b13 : 0 ≤ v13 ∧ v13 ≤ 2200 := by rw [← e13]; exact hI_M 598 90 (by decide)
  have y14 : (ju M 598 102 0) 598 90 = v13 := ((ju_i _ _ (by decide)).trans e13)
  obtain ⟨v15, e15⟩ : ∃ z, M 598 100 = z := ⟨_, rfl⟩
  have b15 : 0 ≤ v15 ∧ v15 ≤ 13 := by rw [← e15]; exact hI_M 598 100 (by decide)
  have y16 : (ju M 598 102 0) 598 100 = v15 := ((ju_i _ _ (by decide)).trans e15)
  obtain ⟨v17, e17⟩ : ∃ z, M 598 107 = z := ⟨_, rfl⟩
  have b17 : 0 ≤ v17 ∧ v17 ≤ 16 := by rw [← e17]; exact hI_M 598 107 (by decide)
  have y18 : (ju M 598 102 0) 598 107 = v17 := ((ju_i _ _ (by decide)).trans e17)
  have y19 : TK (ju M 598 102 0) = TK M := ((TK.o (Or.inr ⟨by decide, by decide⟩)).trans rfl)
  have y20 : (ju M 598 102 0) 598 80 = v9 := ((ju_i _ _ (by decide)).trans e9)
  have y21 : TK (ju M 598 102 0) = TK M := ((TK.o (Or.inr ⟨by decide, by decide⟩)).trans rfl)
  refine jr.pick (ls := [_, _, _]) [0, 1, 2] rfl rfl ?_
  exact r_exp_L11 q 3203 (ju M 598 102 0) 1 390 (RI.u hI_M (a := 598) (i := 102) (show (0 : Int) ≤ _ ∧ _ ≤ (400 : Int) from by omega)) (RH.o hH_M (by decide) (by decide) (by decide)) (RF.o hS_M (by decide) (by decide))  (fun a i f598 f659 f660 f664 f665 f666 f667 => ((ju_c _ _ f598).trans rfl)) (fun i g73 g74 g75 g76 g77 g78 g79 g80 g81 g89 g90 g100 g102 => ((ju_i _ _ g102).trans rfl)) (by omega) (by omega) (Or.inr (GS.cast (o := 0) ⟨by omega, ss2, by omega, by omega, by omega, by omega⟩ (by omega))) (by omega) (by omega) (by rw [((ju_i _ _ (by decide)).trans e3), ((ju_i _ _ (by decide)).trans e1)] <;> omega) (by omega) (CP.o (CP.rfl _) (by decide) (Or.inr (by decide))) (by rw [((ju_i _ _ (by decide)).trans e11)] <;> omega) (by have t := TK.le (M := ju M 598 102 0) (by rw [ju_i _ _ (by decide)]; omega); omega)

