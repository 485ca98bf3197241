theorem r_act_L487 {A : Nat → Option (Nat × (Nat → Int32))} {Q : Option Value → jm → Prop} {L n : Int} {ht : Int → Int} {M0 : jm} (q : ∀ (M' : jm), RI M' → RH M' → RF M' → AS M' (L + 1) → ((M' 598 136 = 1 ∧ M' 598 135 = 0) ∨ (M' 598 136 = 0 ∧ FRS M' ht n (M' 598 122) ∧ 1 ≤ M' 598 122 ∧ M' 598 122 ≤ 8 ∧ ((M' 598 135 ≠ 0 ∧ phi M' = phi M0 ∧ M' 598 143 = M0 598 143) ∨ (M' 598 135 = 0 ∧ 0 ≤ M' 598 132 ∧ M' 598 132 < n ∧ M' 598 131 = ht (M' 598 132) ∧ mu M' < mu M0)))) → (∀ (a : Nat) (i : Int), a ≠ 598 → a ≠ 602 → a ≠ 603 → a ≠ 604 → a ≠ 605 → a ≠ 624 → a ≠ 670 → a ≠ 671 → a ≠ 672 → a ≠ 673 → a ≠ 674 → a ≠ 675 → a ≠ 676 → a ≠ 677 → a ≠ 678 → a ≠ 679 → a ≠ 680 → a ≠ 681 → a ≠ 682 → a ≠ 683 → a ≠ 684 → a ≠ 685 → a ≠ 686 → a ≠ 687 → M' a i = M0 a i) → (∀ (i : Int), i ≠ 6 → i ≠ 10 → i ≠ 11 → i ≠ 12 → i ≠ 59 → i ≠ 60 → i ≠ 61 → i ≠ 62 → i ≠ 63 → i ≠ 64 → i ≠ 65 → i ≠ 66 → i ≠ 110 → i ≠ 112 → i ≠ 122 → i ≠ 131 → i ≠ 132 → i ≠ 134 → i ≠ 135 → i ≠ 136 → i ≠ 137 → i ≠ 138 → i ≠ 139 → i ≠ 143 → i ≠ 145 → M' 598 i = M0 598 i) → Q none M') : ∀ (M : jm) , RI M → RH M → RF M → (∀ (a : Nat) (i : Int), a ≠ 598 → a ≠ 602 → a ≠ 603 → a ≠ 604 → a ≠ 605 → a ≠ 624 → a ≠ 670 → a ≠ 671 → a ≠ 672 → a ≠ 673 → a ≠ 674 → a ≠ 675 → a ≠ 676 → a ≠ 677 → a ≠ 678 → a ≠ 679 → a ≠ 680 → a ≠ 681 → a ≠ 682 → a ≠ 683 → a ≠ 684 → a ≠ 685 → a ≠ 686 → a ≠ 687 → M a i = M0 a i) → (∀ (i : Int), i ≠ 6 → i ≠ 10 → i ≠ 11 → i ≠ 12 → i ≠ 59 → i ≠ 60 → i ≠ 61 → i ≠ 62 → i ≠ 63 → i ≠ 64 → i ≠ 65 → i ≠ 66 → i ≠ 110 → i ≠ 112 → i ≠ 122 → i ≠ 131 → i ≠ 132 → i ≠ 134 → i ≠ 135 → i ≠ 136 → i ≠ 137 → i ≠ 138 → i ≠ 139 → i ≠ 143 → i ≠ 145 → M 598 i = M0 598 i) → FRS M ht n (M 598 122) → AS M (L + 1) → 1 ≤ M 598 122 ∧ M 598 122 ≤ 8 → phi M = phi M0 → M 598 136 = 0 → M 598 132 = M0 598 132 → 0 ≤ M0 598 132 ∧ M0 598 132 + 1 < n ∧ n ≤ 2000 → (M 598 135 = 0 → M 598 131 = ht (M0 598 132 + 1)) → ((M 598 143 = M0 598 143 ∧ cr (M0 654) (M0 598 132 + 1) = 0) ∨ (M 598 143 = M0 598 143 + 1 ∧ M 598 135 = 0)) → jr A 9 xm_380 487 [(0, .ref (598))] [] M Q := by
    intro M  hI_M hH_M hS_M hF_M hG_M  hy0 hy1 hy2 hy3 hy4 hy5 hy6 hy7 hy8
    have hFR := hy0
    have hAS := hy1
    have hph := hy3
    refine jr.aload_n rfl rfl ?_
    obtain ⟨v1, e1⟩ : ∃ z, M 598 135 = z := ⟨_, rfl⟩
    have b1 : 0 ≤ v1 ∧ v1 ≤ 8 := by rw [← e1]; exact hI_M 598 135 (by decide)
    refine jr.getf (i := 135) (x := v1) (v := .int (Int32.ofInt (v1))) rfl rfl (by decide) rfl (by decide) rfl rfl e1 rfl ?_
    refine jr.if_ne rfl rfl (by omega) (fun h491 => ?_) (fun h491 => ?_)
    · have sx491 : (1 : Int) ≤ v1 := by omega
      clear h491
      obtain ⟨v2, e2⟩ : ∃ z, M 598 122 = z := ⟨_, rfl⟩
      have b2 : 0 ≤ v2 ∧ v2 ≤ 9 := by rw [← e2]; exact hI_M 598 122 (by decide)
      have y3 : M 598 122 = v2 := e2
      obtain ⟨v4, e4⟩ : ∃ z, M 598 131 = z := ⟨_, rfl⟩
      have b4 : 0 ≤ v4 ∧ v4 ≤ 400 := by rw [← e4]; exact hI_M 598 131 (by decide)
      have y5 : M 598 131 = v4 := e4
      obtain ⟨v6, e6⟩ : ∃ z, M 598 132 = z := ⟨_, rfl⟩
      have b6 : 0 ≤ v6 ∧ v6 ≤ 2200 := by rw [← e6]; exact hI_M 598 132 (by decide)
      have y7 : M 598 132 = v6 := e6
      have y8 : M 598 135 = v1 := e1
      obtain ⟨v9, e9⟩ : ∃ z, M 598 136 = z := ⟨_, rfl⟩
      have b9 : 0 ≤ v9 ∧ v9 ≤ 1 := by rw [← e9]; exact hI_M 598 136 (by decide)
      have y10 : M 598 136 = v9 := e9
      obtain ⟨v11, e11⟩ : ∃ z, M 598 143 = z := ⟨_, rfl⟩
      have b11 : 0 ≤ v11 ∧ v11 ≤ 300 := by rw [← e11]; exact hI_M 598 143 (by decide)
      have y12 : M 598 143 = v11 := e11
      exact jr.vreturn rfl rfl (q _ hI_M hH_M hS_M  hAS (Or.inr ⟨by omega, hFR, by omega, by omega, Or.inl ⟨by omega, hph, by omega⟩⟩) (fun a i f598 f602 f603 f604 f605 f624 f670 f671 f672 f673 f674 f675 f676 f677 f678 f679 f680 f681 f682 f683 f684 f685 f686 f687 => (hF_M a i f598 f602 f603 f604 f605 f624 f670 f671 f672 f673 f674 f675 f676 f677 f678 f679 f680 f681 f682 f683 f684 f685 f686 f687)) (fun i g6 g10 g11 g12 g59 g60 g61 g62 g63 g64 g65 g66 g110 g112 g122 g131 g132 g134 g135 g136 g137 g138 g139 g143 g145 => (hG_M i g6 g10 g11 g12 g59 g60 g61 g62 g63 g64 g65 g66 g110 g112 g122 g131 g132 g134 g135 g136 g137 g138 g139 g143 g145)))
    · refine jr.aload_n rfl rfl ?_
      refine jr.dup rfl rfl ?_
      obtain ⟨v13, e13⟩ : ∃ z, M 598 132 = z := ⟨_, rfl⟩
      have b13 : 0 ≤ v13 ∧ v13 ≤ 2200 := by rw [← e13]; exact hI_M 598 132 (by decide)
      refine jr.getf (i := 132) (x := v13) (v := .int (Int32.ofInt (v13))) rfl rfl (by decide) rfl (by decide) rfl rfl e13 rfl ?_
      refine jr.iconst rfl ?_
      refine jr.iadd rfl ?_
      refine jr.putf (i := 132) (x := (v13 + 1)) rfl rfl (by decide) rfl (by decide) rfl rfl rfl rfl rfl ?_
      obtain ⟨v14, e14⟩ : ∃ z, M 598 122 = z := ⟨_, rfl⟩
      have b14 : 0 ≤ v14 ∧ v14 ≤ 9 := by rw [← e14]; exact hI_M 598 122 (by decide)
      have y15 : (ju M 598 132 (v13 + 1)) 598 122 = v14 := ((ju_i _ _ (by decide)).trans e14)
      obtain ⟨v16, e16⟩ : ∃ z, M 598 131 = z := ⟨_, rfl⟩
      have b16 : 0 ≤ v16 ∧ v16 ≤ 400 := by rw [← e16]; exact hI_M 598 131 (by decide)
      have y17 : (ju M 598 132 (v13 + 1)) 598 131 = v16 := ((ju_i _ _ (by decide)).trans e16)
      have y18 : (ju M 598 132 (v13 + 1)) 598 132 = v13 + 1 := (ju_same _ _ _ _)
      have y19 : (ju M 598 132 (v13 + 1)) 598 135 = v1 := ((ju_i _ _ (by decide)).trans e1)
      obtain ⟨v20, e20⟩ : ∃ z, M 598 136 = z := ⟨_, rfl⟩
      have b20 : 0 ≤ v20 ∧ v20 ≤ 1 := by rw [← e20]; exact hI_M 598 136 (by decide)
      have y21 : (ju M 598 132 (v13 + 1)) 598 136 = v20 := ((ju_i _ _ (by decide)).trans e20)
      obtain ⟨v22, e22⟩ : ∃ z, M 598 143 = z := ⟨_, rfl⟩
      have b22 : 0 ≤ v22 ∧ v22 ≤ 300 := by rw [← e22]; exact hI_M 598 143 (by decide)
      have y23 : (ju M 598 132 (v13 + 1)) 598 143 = v22 := ((ju_i _ _ (by decide)).trans e22)
      have zph : phi (ju M 598 132 (v13 + 1)) = phi M0 := ((phi.fr (M := M) (M' := (ju M 598 132 (v13 + 1))) ((ju_i _ _ (by decide)).trans (rfl)) (fun i => ((ju_c _ _ (by decide)).trans (rfl))))).trans hph
      have zm := mu.eq (M := (ju M 598 132 (v13 + 1))) ((ju_i _ _ (by decide)).trans e22) zph (((ju_same _ _ _ _)).trans (show v13 + 1 = M0 598 132 + 1 by omega)) (show cr ((ju M 598 132 (v13 + 1)) 654) (M0 598 132 + 1) = cr (M0 654) (M0 598 132 + 1) by rw [show (ju M 598 132 (v13 + 1)) 654 = M0 654 from funext (fun i => ((fun i => ((ju_c _ _ (by decide)).trans (rfl))) i).trans (hF_M 654 i (by decide) (by decide) (by decide) (by decide) (by decide) (by decide) (by decide) (by decide) (by decide) (by decide) (by decide) (by decide) (by decide) (by decide) (by decide) (by decide) (by decide) (by decide) (by decide) (by decide) (by decide) (by decide) (by decide) (by decide)))])
      have zn := mu.eq (M := M0) rfl rfl rfl rfl
      have c1 := cr_le (M0 654) (M0 598 132)
      have c2 := cr_le (M0 654) (M0 598 132 + 1)
      exact jr.vreturn rfl rfl (q _ (RI.u hI_M (a := 598) (i := 132) (show (0 : Int) ≤ _ ∧ _ ≤ (2200 : Int) from by omega)) (RH.o hH_M (by decide) (by decide) (by decide)) (RF.o hS_M (by decide) (by decide))  (AS.o hAS (by decide) (Or.inr (by decide))) (Or.inr ⟨by omega, (FRS.fr hFR (fun i => ((ju_c _ _ (by decide)).trans (rfl))) (fun i => ((ju_c _ _ (by decide)).trans (rfl))) (fun i => ((ju_c _ _ (by decide)).trans (rfl))) ((ju_i _ _ (by decide)).trans (rfl)) (by omega)), by omega, by omega, Or.inr ⟨by omega, by omega, by omega, by rw [((ju_same _ _ _ _)).trans (show v13 + 1 = M0 598 132 + 1 by omega)]; exact (((ju_i _ _ (by decide)).trans e16)).trans ((e16).symm.trans (hy7 (by omega))), by omega⟩⟩) (fun a i f598 f602 f603 f604 f605 f624 f670 f671 f672 f673 f674 f675 f676 f677 f678 f679 f680 f681 f682 f683 f684 f685 f686 f687 => ((ju_c _ _ f598).trans (hF_M a i f598 f602 f603 f604 f605 f624 f670 f671 f672 f673 f674 f675 f676 f677 f678 f679 f680 f681 f682 f683 f684 f685 f686 f687))) (fun i g6 g10 g11 g12 g59 g60 g61 g62 g63 g64 g65 g66 g110 g112 g122 g131 g132 g134 g135 g136 g137 g138 g139 g143 g145 => ((ju_i _ _ g132).trans (hG_M i g6 g10 g11 g12 g59 g60 g61 g62 g63 g64 g65 g66 g110 g112 g122 g131 g132 g134 g135 g136 g137 g138 g139 g143 g145))))
