section
/-! ===== the reference: contracts, 37.mg ===== -/
theorem op_tab (o : Int) : (o = 0 → ndo o = 0 ∧ dlo o = 0) ∧ (o = 1 → ndo o = 1 ∧ dlo o = -1) ∧ (o = 2 → ndo o = 0 ∧ dlo o = 0) ∧ (o = 3 → ndo o = 0 ∧ dlo o = 0) ∧ (4 ≤ o ∧ o ≤ 6 → ndo o = 0 ∧ dlo o = 1) ∧ (o = 7 ∨ o = 8 → ndo o = 1 ∧ dlo o = -1) ∧ (9 ≤ o ∧ o ≤ 11 → ndo o = 1 ∧ dlo o = 0) ∧ (137 ≤ o ∧ o ≤ 162 → ndo o = 2 ∧ dlo o = -1) ∧ (350 ≤ o ∧ o < 365 → ndo o = 0 ∧ dlo o = 1) ∧ (365 ≤ o ∧ o ≤ 370 → ndo o = argn (o - 340) ∧ dlo o = 1 - argn (o - 340)) ∧ (24 ≤ o ∧ o ≤ 29 → ndo o = 0 ∧ dlo o = 0) ∧ (30 ≤ o ∧ o ≤ 38 → dlo o = -(ndo o)) := by
  refine ⟨?_, ?_, ?_, ?_, ?_, ?_, ?_, ?_, ?_, ?_, ?_, ?_⟩ <;> intro h <;> unfold dlo <;> unfold ndo <;> (repeat' split) <;> first | omega | exact ⟨rfl, rfl⟩ | exact ⟨rfl, by omega⟩
noncomputable def cr (co : Int → Int) (p : Int) : Int := if co p = 28 ∨ co p = 29 then 1 else 0
theorem cr_le (co : Int → Int) (p : Int) : 0 ≤ cr co p ∧ cr co p ≤ 1 := by
  unfold cr
  split <;> omega
theorem MX.cr0 {M : jm} {ht : Int → Int} {n e : Int} (h : MX M ht n) (h0 : 0 ≤ e) (h1 : e < n) (h2 : M 654 (e - 1) ≠ 0) : cr (M 654) e = 0 := by
  unfold cr
  rw [if_neg]
  intro q
  obtain ⟨_, _, _, d⟩ := h.2.2.1 e h0 h1
  exact h2 (d q).2.1
theorem REr.cr0 {co ht : Int → Int} {n e : Int} (h : REr co ht n e) : cr co e = 0 := by
  obtain ⟨_, _, _, a, b⟩ := h
  unfold cr
  rw [if_neg (by omega)]
theorem MX.ren {M : jm} {ht : Int → Int} {n P : Int} (h : MX M ht n) (h0 : 0 ≤ P) (h1 : P + 1 < n) (h2 : M 654 P ≠ 0) (h3 : ht (P + 1) = 0) : REr (M 654) ht n (P + 1) := by
  obtain ⟨_, _, _, d⟩ := h.2.2.1 (P + 1) (by omega) h1
  rw [show P + 1 - 1 = P by omega] at d
  exact ⟨by omega, h1, h3, fun q => h2 (d (Or.inl q)).2.1, fun q => h2 (d (Or.inr q)).2.1⟩
noncomputable def mu (M : jm) : Int := 8804 * (300 - M 598 143) + 2201 * (phi M + 4 * cr (M 654) (M 598 132)) + (2200 - M 598 132)
theorem mu.eq {M : jm} {st P f c : Int} (e1 : M 598 143 = st) (e2 : phi M = f) (e3 : M 598 132 = P) (e4 : cr (M 654) P = c) : mu M = 8804 * (300 - st) + 2201 * (f + 4 * c) + (2200 - P) := by
  unfold mu
  rw [e1, e2, e3, e4]
theorem r_act_L487 {A : Nat → Option (Nat × (Nat → Int32))} {Q : Option Value → jm → Prop} {L n : Int} {ht : Int → Int} {M0 : jm} (q : ∀ (M' : jm), RI M' → RH M' → RF M' → AS M' (L + 1) → ((M' 598 136 = 1 ∧ M' 598 135 = 0) ∨ (M' 598 136 = 0 ∧ FRS M' ht n (M' 598 122) ∧ 1 ≤ M' 598 122 ∧ M' 598 122 ≤ 8 ∧ ((M' 598 135 ≠ 0 ∧ phi M' = phi M0 ∧ M' 598 143 = M0 598 143) ∨ (M' 598 135 = 0 ∧ 0 ≤ M' 598 132 ∧ M' 598 132 < n ∧ M' 598 131 = ht (M' 598 132) ∧ mu M' < mu M0)))) → (∀ (a : Nat) (i : Int), a ≠ 598 → a ≠ 602 → a ≠ 603 → a ≠ 604 → a ≠ 605 → a ≠ 624 → a ≠ 670 → a ≠ 671 → a ≠ 672 → a ≠ 673 → a ≠ 674 → a ≠ 675 → a ≠ 676 → a ≠ 677 → a ≠ 678 → a ≠ 679 → a ≠ 680 → a ≠ 681 → a ≠ 682 → a ≠ 683 → a ≠ 684 → a ≠ 685 → a ≠ 686 → a ≠ 687 → M' a i = M0 a i) → (∀ (i : Int), i ≠ 6 → i ≠ 10 → i ≠ 11 → i ≠ 12 → i ≠ 59 → i ≠ 60 → i ≠ 61 → i ≠ 62 → i ≠ 63 → i ≠ 64 → i ≠ 65 → i ≠ 66 → i ≠ 110 → i ≠ 112 → i ≠ 122 → i ≠ 131 → i ≠ 132 → i ≠ 134 → i ≠ 135 → i ≠ 136 → i ≠ 137 → i ≠ 138 → i ≠ 139 → i ≠ 143 → i ≠ 145 → M' 598 i = M0 598 i) → Q none M') : ∀ (M : jm) , RI M → RH M → RF M → (∀ (a : Nat) (i : Int), a ≠ 598 → a ≠ 602 → a ≠ 603 → a ≠ 604 → a ≠ 605 → a ≠ 624 → a ≠ 670 → a ≠ 671 → a ≠ 672 → a ≠ 673 → a ≠ 674 → a ≠ 675 → a ≠ 676 → a ≠ 677 → a ≠ 678 → a ≠ 679 → a ≠ 680 → a ≠ 681 → a ≠ 682 → a ≠ 683 → a ≠ 684 → a ≠ 685 → a ≠ 686 → a ≠ 687 → M a i = M0 a i) → (∀ (i : Int), i ≠ 6 → i ≠ 10 → i ≠ 11 → i ≠ 12 → i ≠ 59 → i ≠ 60 → i ≠ 61 → i ≠ 62 → i ≠ 63 → i ≠ 64 → i ≠ 65 → i ≠ 66 → i ≠ 110 → i ≠ 112 → i ≠ 122 → i ≠ 131 → i ≠ 132 → i ≠ 134 → i ≠ 135 → i ≠ 136 → i ≠ 137 → i ≠ 138 → i ≠ 139 → i ≠ 143 → i ≠ 145 → M 598 i = M0 598 i) → FRS M ht n (M 598 122) → AS M (L + 1) → 1 ≤ M 598 122 ∧ M 598 122 ≤ 8 → phi M = phi M0 → M 598 136 = 0 → M 598 132 = M0 598 132 → 0 ≤ M0 598 132 ∧ M0 598 132 + 1 < n ∧ n ≤ 2000 → (M 598 135 = 0 → M 598 131 = ht (M0 598 132 + 1)) → ((M 598 143 = M0 598 143 ∧ cr (M0 654) (M0 598 132 + 1) = 0) ∨ (M 598 143 = M0 598 143 + 1 ∧ M 598 135 = 0)) → jr A 9 xm_380 487 [(0, .ref (598))] [] M Q := by
    intro M  hI_M hH_M hS_M hF_M hG_M  hy0 hy1 hy2 hy3 hy4 hy5 hy6 hy7 hy8
    have hFR := hy0
    have hAS := hy1
    have hph := hy3
    refine jr.aload_n rfl rfl ?_
    obtain ⟨v1, e1⟩ : ∃ z, M 598 135 = z := ⟨_, rfl⟩
    have b1 : 0 ≤ v1 ∧ v1 ≤ 8 := by rw [← e1]; exact hI_M 598 135 (by decide)
    refine jr.getf (i := 135) (x := v1) (v := .int (Int32.ofInt (v1))) rfl rfl (by decide) rfl (by decide) rfl rfl e1 rfl ?_
    refine jr.if_ne rfl rfl (by omega) (fun h491 => ?_) (fun h491 => ?_)
    · have sx491 : (1 : Int) ≤ v1 := by omega
      obtain ⟨v2, e2⟩ : ∃ z, M 598 122 = z := ⟨_, rfl⟩
      have b2 : 0 ≤ v2 ∧ v2 ≤ 9 := by rw [← e2]; exact hI_M 598 122 (by decide)
      have y3 : M 598 122 = v2 := e2
      obtain ⟨v4, e4⟩ : ∃ z, M 598 131 = z := ⟨_, rfl⟩
      have b4 : 0 ≤ v4 ∧ v4 ≤ 400 := by rw [← e4]; exact hI_M 598 131 (by decide)
      have y5 : M 598 131 = v4 := e4
      obtain ⟨v6, e6⟩ : ∃ z, M 598 132 = z := ⟨_, rfl⟩
      have b6 : 0 ≤ v6 ∧ v6 ≤ 2200 := by rw [← e6]; exact hI_M 598 132 (by decide)
      have y7 : M 598 132 = v6 := e6
      have y8 : M 598 135 = v1 := e1
      obtain ⟨v9, e9⟩ : ∃ z, M 598 136 = z := ⟨_, rfl⟩
      have b9 : 0 ≤ v9 ∧ v9 ≤ 1 := by rw [← e9]; exact hI_M 598 136 (by decide)
      have y10 : M 598 136 = v9 := e9
      obtain ⟨v11, e11⟩ : ∃ z, M 598 143 = z := ⟨_, rfl⟩
      have b11 : 0 ≤ v11 ∧ v11 ≤ 300 := by rw [← e11]; exact hI_M 598 143 (by decide)
      have y12 : M 598 143 = v11 := e11
      exact jr.vreturn rfl rfl (q _ hI_M hH_M hS_M  hAS (Or.inr ⟨by omega, hFR, by omega, by omega, Or.inl ⟨by omega, hph, by omega⟩⟩) (fun a i f598 f602 f603 f604 f605 f624 f670 f671 f672 f673 f674 f675 f676 f677 f678 f679 f680 f681 f682 f683 f684 f685 f686 f687 => (hF_M a i f598 f602 f603 f604 f605 f624 f670 f671 f672 f673 f674 f675 f676 f677 f678 f679 f680 f681 f682 f683 f684 f685 f686 f687)) (fun i g6 g10 g11 g12 g59 g60 g61 g62 g63 g64 g65 g66 g110 g112 g122 g131 g132 g134 g135 g136 g137 g138 g139 g143 g145 => (hG_M i g6 g10 g11 g12 g59 g60 g61 g62 g63 g64 g65 g66 g110 g112 g122 g131 g132 g134 g135 g136 g137 g138 g139 g143 g145)))
    · refine jr.aload_n rfl rfl ?_
      refine jr.dup rfl rfl ?_
      obtain ⟨v13, e13⟩ : ∃ z, M 598 132 = z := ⟨_, rfl⟩
      have b13 : 0 ≤ v13 ∧ v13 ≤ 2200 := by rw [← e13]; exact hI_M 598 132 (by decide)
      refine jr.getf (i := 132) (x := v13) (v := .int (Int32.ofInt (v13))) rfl rfl (by decide) rfl (by decide) rfl rfl e13 rfl ?_
      refine jr.iconst rfl ?_
      refine jr.iadd rfl ?_
      refine jr.putf (i := 132) (x := (v13 + 1)) rfl rfl (by decide) rfl (by decide) rfl rfl rfl rfl rfl ?_
      obtain ⟨v14, e14⟩ : ∃ z, M 598 122 = z := ⟨_, rfl⟩
      have b14 : 0 ≤ v14 ∧ v14 ≤ 9 := by rw [← e14]; exact hI_M 598 122 (by decide)
      have y15 : (ju M 598 132 (v13 + 1)) 598 122 = v14 := ((ju_i _ _ (by decide)).trans e14)
      obtain ⟨v16, e16⟩ : ∃ z, M 598 131 = z := ⟨_, rfl⟩
      have b16 : 0 ≤ v16 ∧ v16 ≤ 400 := by rw [← e16]; exact hI_M 598 131 (by decide)
      have y17 : (ju M 598 132 (v13 + 1)) 598 131 = v16 := ((ju_i _ _ (by decide)).trans e16)
      have y18 : (ju M 598 132 (v13 + 1)) 598 132 = v13 + 1 := (ju_same _ _ _ _)
      have y19 : (ju M 598 132 (v13 + 1)) 598 135 = v1 := ((ju_i _ _ (by decide)).trans e1)
      obtain ⟨v20, e20⟩ : ∃ z, M 598 136 = z := ⟨_, rfl⟩
      have b20 : 0 ≤ v20 ∧ v20 ≤ 1 := by rw [← e20]; exact hI_M 598 136 (by decide)
      have y21 : (ju M 598 132 (v13 + 1)) 598 136 = v20 := ((ju_i _ _ (by decide)).trans e20)
      obtain ⟨v22, e22⟩ : ∃ z, M 598 143 = z := ⟨_, rfl⟩
      have b22 : 0 ≤ v22 ∧ v22 ≤ 300 := by rw [← e22]; exact hI_M 598 143 (by decide)
      have y23 : (ju M 598 132 (v13 + 1)) 598 143 = v22 := ((ju_i _ _ (by decide)).trans e22)
      have zph : phi (ju M 598 132 (v13 + 1)) = phi M0 := ((phi.fr (M := M) (M' := (ju M 598 132 (v13 + 1))) ((ju_i _ _ (by decide)).trans (rfl)) (fun i => ((ju_c _ _ (by decide)).trans (rfl))))).trans hph
      have zm := mu.eq (M := (ju M 598 132 (v13 + 1))) ((ju_i _ _ (by decide)).trans e22) zph (((ju_same _ _ _ _)).trans (show v13 + 1 = M0 598 132 + 1 by omega)) (show cr ((ju M 598 132 (v13 + 1)) 654) (M0 598 132 + 1) = cr (M0 654) (M0 598 132 + 1) by rw [show (ju M 598 132 (v13 + 1)) 654 = M0 654 from funext (fun i => ((fun i => ((ju_c _ _ (by decide)).trans (rfl))) i).trans (hF_M 654 i (by decide) (by decide) (by decide) (by decide) (by decide) (by decide) (by decide) (by decide) (by decide) (by decide) (by decide) (by decide) (by decide) (by decide) (by decide) (by decide) (by decide) (by decide) (by decide) (by decide) (by decide) (by decide) (by decide) (by decide)))])
      have zn := mu.eq (M := M0) rfl rfl rfl rfl
      have c1 := cr_le (M0 654) (M0 598 132)
      have c2 := cr_le (M0 654) (M0 598 132 + 1)
      exact jr.vreturn rfl rfl (q _ (RI.u hI_M (a := 598) (i := 132) (show (0 : Int) ≤ _ ∧ _ ≤ (2200 : Int) from by omega)) (RH.o hH_M (by decide) (by decide) (by decide)) (RF.o hS_M (by decide) (by decide))  (AS.o hAS (by decide) (Or.inr (by decide))) (Or.inr ⟨by omega, (FRS.fr hFR (fun i => ((ju_c _ _ (by decide)).trans (rfl))) (fun i => ((ju_c _ _ (by decide)).trans (rfl))) (fun i => ((ju_c _ _ (by decide)).trans (rfl))) ((ju_i _ _ (by decide)).trans (rfl)) (by omega)), by omega, by omega, Or.inr ⟨by omega, by omega, by omega, by rw [((ju_same _ _ _ _)).trans (show v13 + 1 = M0 598 132 + 1 by omega)]; exact (((ju_i _ _ (by decide)).trans e16)).trans ((e16).symm.trans (hy7 (by omega))), by omega⟩⟩) (fun a i f598 f602 f603 f604 f605 f624 f670 f671 f672 f673 f674 f675 f676 f677 f678 f679 f680 f681 f682 f683 f684 f685 f686 f687 => ((ju_c _ _ f598).trans (hF_M a i f598 f602 f603 f604 f605 f624 f670 f671 f672 f673 f674 f675 f676 f677 f678 f679 f680 f681 f682 f683 f684 f685 f686 f687))) (fun i g6 g10 g11 g12 g59 g60 g61 g62 g63 g64 g65 g66 g110 g112 g122 g131 g132 g134 g135 g136 g137 g138 g139 g143 g145 => ((ju_i _ _ g132).trans (hG_M i g6 g10 g11 g12 g59 g60 g61 g62 g63 g64 g65 g66 g110 g112 g122 g131 g132 g134 g135 g136 g137 g138 g139 g143 g145))))
theorem r_act_L477 {A : Nat → Option (Nat × (Nat → Int32))} {Q : Option Value → jm → Prop} {L n : Int} {ht : Int → Int} {M0 : jm} (q : ∀ (M' : jm), RI M' → RH M' → RF M' → AS M' (L + 1) → ((M' 598 136 = 1 ∧ M' 598 135 = 0) ∨ (M' 598 136 = 0 ∧ FRS M' ht n (M' 598 122) ∧ 1 ≤ M' 598 122 ∧ M' 598 122 ≤ 8 ∧ ((M' 598 135 ≠ 0 ∧ phi M' = phi M0 ∧ M' 598 143 = M0 598 143) ∨ (M' 598 135 = 0 ∧ 0 ≤ M' 598 132 ∧ M' 598 132 < n ∧ M' 598 131 = ht (M' 598 132) ∧ mu M' < mu M0)))) → (∀ (a : Nat) (i : Int), a ≠ 598 → a ≠ 602 → a ≠ 603 → a ≠ 604 → a ≠ 605 → a ≠ 624 → a ≠ 670 → a ≠ 671 → a ≠ 672 → a ≠ 673 → a ≠ 674 → a ≠ 675 → a ≠ 676 → a ≠ 677 → a ≠ 678 → a ≠ 679 → a ≠ 680 → a ≠ 681 → a ≠ 682 → a ≠ 683 → a ≠ 684 → a ≠ 685 → a ≠ 686 → a ≠ 687 → M' a i = M0 a i) → (∀ (i : Int), i ≠ 6 → i ≠ 10 → i ≠ 11 → i ≠ 12 → i ≠ 59 → i ≠ 60 → i ≠ 61 → i ≠ 62 → i ≠ 63 → i ≠ 64 → i ≠ 65 → i ≠ 66 → i ≠ 110 → i ≠ 112 → i ≠ 122 → i ≠ 131 → i ≠ 132 → i ≠ 134 → i ≠ 135 → i ≠ 136 → i ≠ 137 → i ≠ 138 → i ≠ 139 → i ≠ 143 → i ≠ 145 → M' 598 i = M0 598 i) → Q none M') : ∀ (M : jm) (a : Int) (o : Int), RI M → RH M → RF M → (∀ (a : Nat) (i : Int), a ≠ 598 → a ≠ 602 → a ≠ 603 → a ≠ 604 → a ≠ 605 → a ≠ 624 → a ≠ 670 → a ≠ 671 → a ≠ 672 → a ≠ 673 → a ≠ 674 → a ≠ 675 → a ≠ 676 → a ≠ 677 → a ≠ 678 → a ≠ 679 → a ≠ 680 → a ≠ 681 → a ≠ 682 → a ≠ 683 → a ≠ 684 → a ≠ 685 → a ≠ 686 → a ≠ 687 → M a i = M0 a i) → (∀ (i : Int), i ≠ 6 → i ≠ 10 → i ≠ 11 → i ≠ 12 → i ≠ 59 → i ≠ 60 → i ≠ 61 → i ≠ 62 → i ≠ 63 → i ≠ 64 → i ≠ 65 → i ≠ 66 → i ≠ 110 → i ≠ 112 → i ≠ 122 → i ≠ 131 → i ≠ 132 → i ≠ 134 → i ≠ 135 → i ≠ 136 → i ≠ 137 → i ≠ 138 → i ≠ 139 → i ≠ 143 → i ≠ 145 → M 598 i = M0 598 i) → (-9223372036854775808) ≤ a ∧ a ≤ 9223372036854775807 → 0 ≤ o ∧ o ≤ 1000 → MX M ht n → FRS M ht n (M 598 122) → 1 ≤ M 598 122 ∧ M 598 122 ≤ 8 → AS M L → L ≤ 1999999999 → (0 ≤ M 598 132 ∧ M 598 132 < n) → M 598 131 = ht (M 598 132) → o = M 654 (M 598 132) → a = M 655 (M 598 132) → (M 598 135 = 0 ∧ M 598 136 = 0) → M = M0 → (12 ≤ o ∧ o < 100) → jr A 9 xm_380 477 [(2, .long (Int64.ofInt (a))), (1, .int (Int32.ofInt (o))), (0, .ref (598))] [] M Q := by
    intro M a o hI_M hH_M hS_M hF_M hG_M h_a h_o hy0 hy1 hy2 hy3 hy4 hy5 hy6 hy7 hy8 hy9 hy10 hy11
    have hyM := hy10
    have ho := hy11
    have hp0 := hy0
    have hp1 := hy1
    have hp2 := hy2
    have hp3 := hy3
    have hp4 := hy4
    have hp5 := hy5
    have hp6 := hy6
    have hp7 := hy7
    have hp8 := hy8
    have hp9 := hy9
    subst hyM
    have p0 := hp0
    have p1 := hp1
    have p2 := hp2
    have p3 := hp3
    have p4 := hp4
    have p5 := hp5
    have p6 := hp6
    have p7 := hp7
    have p8 := hp8
    have p9 := hp9
    have hMX := p0
    have hFR := p1
    have hAS := p3
    obtain ⟨P, hP⟩ : ∃ z, M 598 132 = z := ⟨_, rfl⟩
    rw [hP] at p5 p6 p7 p8
    have nb := hMX.1
    have nb2 := hMX.2.1
    obtain ⟨⟨q1, q2, q3, q4, q5, q6⟩, q7, q8, q9⟩ := hMX.2.2.1 P p5.1 p5.2
    rw [← p7] at q3 q4 q5 q6 q7 q8 q9
    rw [← p8] at q7 q8 q9
    unfold vop at q3
    have ov : 24 ≤ o ∧ o ≤ 38 := by omega
    have nd : (o ≤ 29 → ndo o = 0 ∧ dlo o = 0) ∧ (30 ≤ o → dlo o = -(ndo o)) := ⟨fun z => (op_tab o).2.2.2.2.2.2.2.2.2.2.1 ⟨by omega, z⟩, fun z => (op_tab o).2.2.2.2.2.2.2.2.2.2.2 ⟨z, by omega⟩⟩
    have q6 := q6 (by unfold exo; omega)
    clear q7
    have pn : P + 1 < n := by
      by_cases y : P = n - 1
      · exfalso
        have z2 := hMX.2.2.2.2
        rw [← y, ← p7] at z2
        omega
      · omega
    have cN : cr (M 654) (P + 1) = 0 := MX.cr0 hMX (by omega) pn (by rw [show P + 1 - 1 = P by omega, ← p7]; omega)
    obtain ⟨Fv, hFv⟩ : ∃ z, M 598 122 = z := ⟨_, rfl⟩
    obtain ⟨hv, hhv⟩ : ∃ z, M 598 131 = z := ⟨_, rfl⟩
    rw [hhv] at p6
    clear q3
    obtain ⟨st, hst⟩ : ∃ z, M 598 143 = z := ⟨_, rfl⟩
    have bst : (0 : Int) ≤ st ∧ st ≤ 300 := by rw [← hst]; exact hI_M 598 143 (by decide)
    have cl := cr_le (M 654) P
    refine jr.aload_n rfl rfl ?_
    refine jr.iload_n rfl rfl ?_
    refine jr.bipush rfl (by decide) ?_
    refine jr.isub rfl ?_
    refine jr.lload_n rfl rfl ?_
    have y2 : M 598 122 = Fv := hFv
    obtain ⟨v3, e3⟩ : ∃ z, M 598 82 = z := ⟨_, rfl⟩
    have b3 : 0 ≤ v3 ∧ v3 ≤ 16 := by rw [← e3]; exact hI_M 598 82 (by decide)
    obtain ⟨v4, e4⟩ : ∃ z, M 598 135 = z := ⟨_, rfl⟩
    have b4 : 0 ≤ v4 ∧ v4 ≤ 8 := by rw [← e4]; exact hI_M 598 135 (by decide)
    obtain ⟨v5, e5⟩ : ∃ z, M 598 136 = z := ⟨_, rfl⟩
    have b5 : 0 ≤ v5 ∧ v5 ≤ 1 := by rw [← e5]; exact hI_M 598 136 (by decide)
    refine jr_v rfl rfl (Or.inl rfl) rfl rfl (by decide) rfl ⟨rfl, Nat.le_of_ble_eq_true rfl, Nat.le_of_ble_eq_true rfl⟩ rfl (jc.deep (r_doDeed hI_M hH_M hS_M  (by omega) (by omega) hMX (FRS.fr hFR (fun i => (rfl)) (fun i => (rfl)) (fun i => (rfl)) (rfl) (by omega)) (by rw [hFv]; omega) hAS (by omega) (by rw [show 20 + (o - 20) = o by omega]; omega) (by rw [e3]; intro q; omega) (fun q => by rw [hP]; exact MX.ren hMX (by omega) pn (by rw [← p7]; omega) (by rw [q4]; omega)) (by rw [e4, e5]; omega) (by rw [hP]; omega) (fun M1 hI_M1 hH_M1 hS_M1  w1_0 w1_1 w1_2 w1_3 => ?_)) (by decide))
    rw [show 20 + (o - 20) = o by omega] at w1_1
    obtain ⟨v6, e6⟩ : ∃ z, M1 598 122 = z := ⟨_, rfl⟩
    have b6 : 0 ≤ v6 ∧ v6 ≤ 9 := by rw [← e6]; exact hI_M1 598 122 (by decide)
    have y7 : M1 598 122 = v6 := e6
    obtain ⟨v8, e8⟩ : ∃ z, M1 598 131 = z := ⟨_, rfl⟩
    have b8 : 0 ≤ v8 ∧ v8 ≤ 400 := by rw [← e8]; exact hI_M1 598 131 (by decide)
    have y9 : M1 598 131 = v8 := e8
    obtain ⟨v10, e10⟩ : ∃ z, M1 598 132 = z := ⟨_, rfl⟩
    have b10 : 0 ≤ v10 ∧ v10 ≤ 2200 := by rw [← e10]; exact hI_M1 598 132 (by decide)
    have y11 : M1 598 132 = v10 := e10
    obtain ⟨v12, e12⟩ : ∃ z, M1 598 135 = z := ⟨_, rfl⟩
    have b12 : 0 ≤ v12 ∧ v12 ≤ 8 := by rw [← e12]; exact hI_M1 598 135 (by decide)
    have y13 : M1 598 135 = v12 := e12
    obtain ⟨v14, e14⟩ : ∃ z, M1 598 136 = z := ⟨_, rfl⟩
    have b14 : 0 ≤ v14 ∧ v14 ≤ 1 := by rw [← e14]; exact hI_M1 598 136 (by decide)
    have y15 : M1 598 136 = v14 := e14
    have e16 : M1 598 143 = st := ((w1_3 143 (by decide) (by decide) (by decide) (by decide) (by decide) (by decide) (by decide) (by decide) (by decide) (by decide) (by decide) (by decide) (by decide) (by decide) (by decide) (by decide)).trans hst)
    have y17 : M1 598 143 = st := e16
    have hmu := mu.eq hst rfl hP (rfl : cr (M 654) P = cr (M 654) P)
    exact jr.vreturn rfl rfl (q _ hI_M1 hH_M1 hS_M1  w1_0 (by rcases w1_1 with z | ⟨y1, y2, y3, y4, ⟨y5, y6, y7⟩ | ⟨y5, ⟨y6, y7, y8, y9⟩ | ⟨y6, y7, y8, y9⟩ | ⟨y6, y7, y8, y9⟩⟩⟩; (exact Or.inl z); (exact Or.inr ⟨y1, y2, y3, y4, Or.inl ⟨y5, y6, (e16).trans hst.symm⟩⟩); (have zc := REr.cr0 y7; obtain ⟨r1, r2, r3, _, _⟩ := y7; have zm := mu.eq (M := M1) (e16) rfl rfl zc; exact Or.inr ⟨y1, y2, y3, y4, Or.inr ⟨y5, r1, r2, by rw [y9, r3]; omega, by omega⟩⟩); (have ck : cr (M 654) P = 1 := (by unfold cr; rw [← p7, if_pos (by omega)]); have zc := REr.cr0 y7; obtain ⟨r1, r2, r3, _, _⟩ := y7; have zm := mu.eq (M := M1) (e16) rfl rfl zc; exact Or.inr ⟨y1, y2, y3, y4, Or.inr ⟨y5, r1, r2, by rw [y9, r3]; omega, by omega⟩⟩); (have zm := mu.eq (M := M1) (e16) y8 (y7.trans (show M 598 132 + 1 = P + 1 by omega)) (show cr (M1 654) (P + 1) = 0 by rw [show M1 654 = M 654 from funext (fun i => ((w1_2 654 i (by decide) (by decide) (by decide) (by decide) (by decide) (by decide) (by decide) (by decide) (by decide) (by decide) (by decide) (by decide) (by decide) (by decide) (by decide) (by decide) (by decide) (by decide) (by decide) (by decide) (by decide) (by decide) (by decide) (by decide)).trans (rfl)))]; exact cN); exact Or.inr ⟨y1, y2, y3, y4, Or.inr ⟨y5, by omega, by omega, by rw [y9, y7.trans (show M 598 132 + 1 = P + 1 by omega), q4]; omega, by omega⟩⟩)) (fun a i f598 f602 f603 f604 f605 f624 f670 f671 f672 f673 f674 f675 f676 f677 f678 f679 f680 f681 f682 f683 f684 f685 f686 f687 => ((w1_2 a i f598 f602 f603 f604 f605 f624 f670 f671 f672 f673 f674 f675 f676 f677 f678 f679 f680 f681 f682 f683 f684 f685 f686 f687).trans (hF_M a i f598 f602 f603 f604 f605 f624 f670 f671 f672 f673 f674 f675 f676 f677 f678 f679 f680 f681 f682 f683 f684 f685 f686 f687))) (fun i g6 g10 g11 g12 g59 g60 g61 g62 g63 g64 g65 g66 g110 g112 g122 g131 g132 g134 g135 g136 g137 g138 g139 g143 g145 => ((w1_3 i g6 g10 g11 g12 g110 g112 g122 g131 g132 g134 g135 g136 g137 g138 g139 g145).trans (hG_M i g6 g10 g11 g12 g59 g60 g61 g62 g63 g64 g65 g66 g110 g112 g122 g131 g132 g134 g135 g136 g137 g138 g139 g143 g145))))
theorem r_act_L466 {A : Nat → Option (Nat × (Nat → Int32))} {Q : Option Value → jm → Prop} {L n : Int} {ht : Int → Int} {M0 : jm} (q : ∀ (M' : jm), RI M' → RH M' → RF M' → AS M' (L + 1) → ((M' 598 136 = 1 ∧ M' 598 135 = 0) ∨ (M' 598 136 = 0 ∧ FRS M' ht n (M' 598 122) ∧ 1 ≤ M' 598 122 ∧ M' 598 122 ≤ 8 ∧ ((M' 598 135 ≠ 0 ∧ phi M' = phi M0 ∧ M' 598 143 = M0 598 143) ∨ (M' 598 135 = 0 ∧ 0 ≤ M' 598 132 ∧ M' 598 132 < n ∧ M' 598 131 = ht (M' 598 132) ∧ mu M' < mu M0)))) → (∀ (a : Nat) (i : Int), a ≠ 598 → a ≠ 602 → a ≠ 603 → a ≠ 604 → a ≠ 605 → a ≠ 624 → a ≠ 670 → a ≠ 671 → a ≠ 672 → a ≠ 673 → a ≠ 674 → a ≠ 675 → a ≠ 676 → a ≠ 677 → a ≠ 678 → a ≠ 679 → a ≠ 680 → a ≠ 681 → a ≠ 682 → a ≠ 683 → a ≠ 684 → a ≠ 685 → a ≠ 686 → a ≠ 687 → M' a i = M0 a i) → (∀ (i : Int), i ≠ 6 → i ≠ 10 → i ≠ 11 → i ≠ 12 → i ≠ 59 → i ≠ 60 → i ≠ 61 → i ≠ 62 → i ≠ 63 → i ≠ 64 → i ≠ 65 → i ≠ 66 → i ≠ 110 → i ≠ 112 → i ≠ 122 → i ≠ 131 → i ≠ 132 → i ≠ 134 → i ≠ 135 → i ≠ 136 → i ≠ 137 → i ≠ 138 → i ≠ 139 → i ≠ 143 → i ≠ 145 → M' 598 i = M0 598 i) → Q none M') : ∀ (M : jm) (a : Int) (o : Int), RI M → RH M → RF M → (∀ (a : Nat) (i : Int), a ≠ 598 → a ≠ 602 → a ≠ 603 → a ≠ 604 → a ≠ 605 → a ≠ 624 → a ≠ 670 → a ≠ 671 → a ≠ 672 → a ≠ 673 → a ≠ 674 → a ≠ 675 → a ≠ 676 → a ≠ 677 → a ≠ 678 → a ≠ 679 → a ≠ 680 → a ≠ 681 → a ≠ 682 → a ≠ 683 → a ≠ 684 → a ≠ 685 → a ≠ 686 → a ≠ 687 → M a i = M0 a i) → (∀ (i : Int), i ≠ 6 → i ≠ 10 → i ≠ 11 → i ≠ 12 → i ≠ 59 → i ≠ 60 → i ≠ 61 → i ≠ 62 → i ≠ 63 → i ≠ 64 → i ≠ 65 → i ≠ 66 → i ≠ 110 → i ≠ 112 → i ≠ 122 → i ≠ 131 → i ≠ 132 → i ≠ 134 → i ≠ 135 → i ≠ 136 → i ≠ 137 → i ≠ 138 → i ≠ 139 → i ≠ 143 → i ≠ 145 → M 598 i = M0 598 i) → (-9223372036854775808) ≤ a ∧ a ≤ 9223372036854775807 → 0 ≤ o ∧ o ≤ 1000 → MX M ht n → FRS M ht n (M 598 122) → 1 ≤ M 598 122 ∧ M 598 122 ≤ 8 → AS M L → L ≤ 1999999999 → (0 ≤ M 598 132 ∧ M 598 132 < n) → M 598 131 = ht (M 598 132) → o = M 654 (M 598 132) → a = M 655 (M 598 132) → (M 598 135 = 0 ∧ M 598 136 = 0) → M = M0 → (100 ≤ o ∧ o < 340) → jr A 9 xm_380 466 [(2, .long (Int64.ofInt (a))), (1, .int (Int32.ofInt (o))), (0, .ref (598))] [] M Q := by
    intro M a o hI_M hH_M hS_M hF_M hG_M h_a h_o hy0 hy1 hy2 hy3 hy4 hy5 hy6 hy7 hy8 hy9 hy10 hy11
    have hyM := hy10
    have ho := hy11
    have hp0 := hy0
    have hp1 := hy1
    have hp2 := hy2
    have hp3 := hy3
    have hp4 := hy4
    have hp5 := hy5
    have hp6 := hy6
    have hp7 := hy7
    have hp8 := hy8
    have hp9 := hy9
    subst hyM
    have p0 := hp0
    have p1 := hp1
    have p2 := hp2
    have p3 := hp3
    have p4 := hp4
    have p5 := hp5
    have p6 := hp6
    have p7 := hp7
    have p8 := hp8
    have p9 := hp9
    have hMX := p0
    have hFR := p1
    have hAS := p3
    obtain ⟨P, hP⟩ : ∃ z, M 598 132 = z := ⟨_, rfl⟩
    rw [hP] at p5 p6 p7 p8
    have nb := hMX.1
    have nb2 := hMX.2.1
    obtain ⟨⟨q1, q2, q3, q4, q5, q6⟩, q7, q8, q9⟩ := hMX.2.2.1 P p5.1 p5.2
    rw [← p7] at q3 q4 q5 q6 q7 q8 q9
    rw [← p8] at q7 q8 q9
    unfold vop at q3
    have ov : 137 ≤ o ∧ o ≤ 162 := by omega
    have nd := (op_tab o).2.2.2.2.2.2.2.1 ov
    clear q7
    have pn : P + 1 < n := by
      by_cases y : P = n - 1
      · exfalso
        have z2 := hMX.2.2.2.2
        rw [← y, ← p7] at z2
        omega
      · omega
    have cN : cr (M 654) (P + 1) = 0 := MX.cr0 hMX (by omega) pn (by rw [show P + 1 - 1 = P by omega, ← p7]; omega)
    obtain ⟨Fv, hFv⟩ : ∃ z, M 598 122 = z := ⟨_, rfl⟩
    obtain ⟨hv, hhv⟩ : ∃ z, M 598 131 = z := ⟨_, rfl⟩
    rw [hhv] at p6
    clear q3
    obtain ⟨st, hst⟩ : ∃ z, M 598 143 = z := ⟨_, rfl⟩
    have bst : (0 : Int) ≤ st ∧ st ≤ 300 := by rw [← hst]; exact hI_M 598 143 (by decide)
    have cl := cr_le (M 654) P
    refine jr.aload_n rfl rfl ?_
    refine jr.iload_n rfl rfl ?_
    refine jr.bipush rfl (by decide) ?_
    refine jr.isub rfl ?_
    refine jr_v rfl rfl (Or.inl rfl) rfl rfl (by decide) rfl ⟨rfl, Nat.le_of_ble_eq_true rfl, Nat.le_of_ble_eq_true rfl⟩ rfl (jc.deep (r_bySign hI_M hH_M hS_M  (by omega) (by rw [hhv]; omega) (fun M1 hI_M1 hH_M1 hS_M1  w1_0 w1_1 w1_2 => ?_)) (by decide))
    refine jr.goto rfl rfl ?_
    have e2 : M1 598 122 = Fv := ((w1_2 122 (by decide) (by decide)).trans hFv)
    have y3 : M1 598 122 = Fv := e2
    obtain ⟨v4, e4⟩ : ∃ z, M 598 136 = z := ⟨_, rfl⟩
    have b4 : 0 ≤ v4 ∧ v4 ≤ 1 := by rw [← e4]; exact hI_M 598 136 (by decide)
    have e5 : M1 598 136 = v4 := ((w1_2 136 (by decide) (by decide)).trans e4)
    have e6 : M1 598 132 = P := ((w1_2 132 (by decide) (by decide)).trans hP)
    obtain ⟨v7, e7⟩ : ∃ z, M1 598 131 = z := ⟨_, rfl⟩
    have b7 : 0 ≤ v7 ∧ v7 ≤ 400 := by rw [← e7]; exact hI_M1 598 131 (by decide)
    obtain ⟨v8, e8⟩ : ∃ z, M1 598 135 = z := ⟨_, rfl⟩
    have b8 : 0 ≤ v8 ∧ v8 ≤ 8 := by rw [← e8]; exact hI_M1 598 135 (by decide)
    have e9 : M1 598 143 = st := ((w1_2 143 (by decide) (by decide)).trans hst)
    refine jr.pick [2] rfl rfl ?_
    exact r_act_L487 (L := L) (n := n) (ht := ht) q M1  hI_M1 hH_M1 hS_M1  (fun a i f598 f602 f603 f604 f605 f624 f670 f671 f672 f673 f674 f675 f676 f677 f678 f679 f680 f681 f682 f683 f684 f685 f686 f687 => ((w1_1 a i f598 f686).trans (hF_M a i f598 f602 f603 f604 f605 f624 f670 f671 f672 f673 f674 f675 f676 f677 f678 f679 f680 f681 f682 f683 f684 f685 f686 f687))) (fun i g6 g10 g11 g12 g59 g60 g61 g62 g63 g64 g65 g66 g110 g112 g122 g131 g132 g134 g135 g136 g137 g138 g139 g143 g145 => ((w1_2 i g131 g135).trans (hG_M i g6 g10 g11 g12 g59 g60 g61 g62 g63 g64 g65 g66 g110 g112 g122 g131 g132 g134 g135 g136 g137 g138 g139 g143 g145)))  (FRS.fr hFR (fun i => ((w1_1 679 i (by decide) (by decide)).trans (rfl))) (fun i => ((w1_1 681 i (by decide) (by decide)).trans (rfl))) (fun i => ((w1_1 654 i (by decide) (by decide)).trans (rfl))) ((w1_2 82 (by decide) (by decide)).trans (rfl)) (by omega)) (AS.up (AS.fr hAS (fun i => w1_1 685 i (by decide) (by decide)) (w1_2 112 (by decide) (by decide))) (by omega)) (by rw [e2] <;> omega) (phi.fr (M := M) (M' := M1) ((w1_2 122 (by decide) (by decide)).trans (rfl)) (fun i => ((w1_1 680 i (by decide) (by decide)).trans (rfl)))) (by rw [e5] <;> omega) (by rw [e6] <;> omega) (by omega) (fun _ => by rw [e7, hP, q4]; omega) (by rw [e9, e8, hst, hP]; first | (exact Or.inl ⟨by omega, cN⟩) | (exact Or.inr ⟨by omega, by omega⟩))
theorem r_act_L445 {A : Nat → Option (Nat × (Nat → Int32))} {Q : Option Value → jm → Prop} {L n : Int} {ht : Int → Int} {M0 : jm} (q : ∀ (M' : jm), RI M' → RH M' → RF M' → AS M' (L + 1) → ((M' 598 136 = 1 ∧ M' 598 135 = 0) ∨ (M' 598 136 = 0 ∧ FRS M' ht n (M' 598 122) ∧ 1 ≤ M' 598 122 ∧ M' 598 122 ≤ 8 ∧ ((M' 598 135 ≠ 0 ∧ phi M' = phi M0 ∧ M' 598 143 = M0 598 143) ∨ (M' 598 135 = 0 ∧ 0 ≤ M' 598 132 ∧ M' 598 132 < n ∧ M' 598 131 = ht (M' 598 132) ∧ mu M' < mu M0)))) → (∀ (a : Nat) (i : Int), a ≠ 598 → a ≠ 602 → a ≠ 603 → a ≠ 604 → a ≠ 605 → a ≠ 624 → a ≠ 670 → a ≠ 671 → a ≠ 672 → a ≠ 673 → a ≠ 674 → a ≠ 675 → a ≠ 676 → a ≠ 677 → a ≠ 678 → a ≠ 679 → a ≠ 680 → a ≠ 681 → a ≠ 682 → a ≠ 683 → a ≠ 684 → a ≠ 685 → a ≠ 686 → a ≠ 687 → M' a i = M0 a i) → (∀ (i : Int), i ≠ 6 → i ≠ 10 → i ≠ 11 → i ≠ 12 → i ≠ 59 → i ≠ 60 → i ≠ 61 → i ≠ 62 → i ≠ 63 → i ≠ 64 → i ≠ 65 → i ≠ 66 → i ≠ 110 → i ≠ 112 → i ≠ 122 → i ≠ 131 → i ≠ 132 → i ≠ 134 → i ≠ 135 → i ≠ 136 → i ≠ 137 → i ≠ 138 → i ≠ 139 → i ≠ 143 → i ≠ 145 → M' 598 i = M0 598 i) → Q none M') : ∀ (M : jm) (a : Int) (o : Int), RI M → RH M → RF M → (∀ (a : Nat) (i : Int), a ≠ 598 → a ≠ 602 → a ≠ 603 → a ≠ 604 → a ≠ 605 → a ≠ 624 → a ≠ 670 → a ≠ 671 → a ≠ 672 → a ≠ 673 → a ≠ 674 → a ≠ 675 → a ≠ 676 → a ≠ 677 → a ≠ 678 → a ≠ 679 → a ≠ 680 → a ≠ 681 → a ≠ 682 → a ≠ 683 → a ≠ 684 → a ≠ 685 → a ≠ 686 → a ≠ 687 → M a i = M0 a i) → (∀ (i : Int), i ≠ 6 → i ≠ 10 → i ≠ 11 → i ≠ 12 → i ≠ 59 → i ≠ 60 → i ≠ 61 → i ≠ 62 → i ≠ 63 → i ≠ 64 → i ≠ 65 → i ≠ 66 → i ≠ 110 → i ≠ 112 → i ≠ 122 → i ≠ 131 → i ≠ 132 → i ≠ 134 → i ≠ 135 → i ≠ 136 → i ≠ 137 → i ≠ 138 → i ≠ 139 → i ≠ 143 → i ≠ 145 → M 598 i = M0 598 i) → (-9223372036854775808) ≤ a ∧ a ≤ 9223372036854775807 → 0 ≤ o ∧ o ≤ 1000 → MX M ht n → FRS M ht n (M 598 122) → 1 ≤ M 598 122 ∧ M 598 122 ≤ 8 → AS M L → L ≤ 1999999999 → (0 ≤ M 598 132 ∧ M 598 132 < n) → M 598 131 = ht (M 598 132) → o = M 654 (M 598 132) → a = M 655 (M 598 132) → (M 598 135 = 0 ∧ M 598 136 = 0) → M = M0 → 340 ≤ o → jr A 9 xm_380 445 [(2, .long (Int64.ofInt (a))), (1, .int (Int32.ofInt (o))), (0, .ref (598))] [] M Q := by
    intro M a o hI_M hH_M hS_M hF_M hG_M h_a h_o hy0 hy1 hy2 hy3 hy4 hy5 hy6 hy7 hy8 hy9 hy10 hy11
    have hyM := hy10
    have ho := hy11
    have hp0 := hy0
    have hp1 := hy1
    have hp2 := hy2
    have hp3 := hy3
    have hp4 := hy4
    have hp5 := hy5
    have hp6 := hy6
    have hp7 := hy7
    have hp8 := hy8
    have hp9 := hy9
    subst hyM
    have p0 := hp0
    have p1 := hp1
    have p2 := hp2
    have p3 := hp3
    have p4 := hp4
    have p5 := hp5
    have p6 := hp6
    have p7 := hp7
    have p8 := hp8
    have p9 := hp9
    have hMX := p0
    have hFR := p1
    have hAS := p3
    obtain ⟨P, hP⟩ : ∃ z, M 598 132 = z := ⟨_, rfl⟩
    rw [hP] at p5 p6 p7 p8
    have nb := hMX.1
    have nb2 := hMX.2.1
    obtain ⟨⟨q1, q2, q3, q4, q5, q6⟩, q7, q8, q9⟩ := hMX.2.2.1 P p5.1 p5.2
    rw [← p7] at q3 q4 q5 q6 q7 q8 q9
    rw [← p8] at q7 q8 q9
    unfold vop at q3
    have nd : (o < 365 → ndo o = 0 ∧ dlo o = 1) ∧ (365 ≤ o → ndo o = argn (o - 340) ∧ dlo o = 1 - argn (o - 340)) := ⟨fun z => (op_tab o).2.2.2.2.2.2.2.2.1 ⟨by omega, z⟩, fun z => (op_tab o).2.2.2.2.2.2.2.2.2.1 ⟨z, by omega⟩⟩
    have ov : 350 ≤ o ∧ o ≤ 370 := by omega
    clear q7
    have pn : P + 1 < n := by
      by_cases y : P = n - 1
      · exfalso
        have z2 := hMX.2.2.2.2
        rw [← y, ← p7] at z2
        omega
      · omega
    have cN : cr (M 654) (P + 1) = 0 := MX.cr0 hMX (by omega) pn (by rw [show P + 1 - 1 = P by omega, ← p7]; omega)
    obtain ⟨Fv, hFv⟩ : ∃ z, M 598 122 = z := ⟨_, rfl⟩
    obtain ⟨hv, hhv⟩ : ∃ z, M 598 131 = z := ⟨_, rfl⟩
    rw [hhv] at p6
    clear q3
    obtain ⟨st, hst⟩ : ∃ z, M 598 143 = z := ⟨_, rfl⟩
    have bst : (0 : Int) ≤ st ∧ st ≤ 300 := by rw [← hst]; exact hI_M 598 143 (by decide)
    have cl := cr_le (M 654) P
    refine jr.aload_n rfl rfl ?_
    refine jr.iload_n rfl rfl ?_
    refine jr.bipush rfl (by decide) ?_
    refine jr.isub rfl ?_
    refine jr.sipush rfl (by decide) ?_
    refine jr.isub rfl ?_
    refine jr_v rfl rfl (Or.inl rfl) rfl rfl (by decide) rfl ⟨rfl, Nat.le_of_ble_eq_true rfl, Nat.le_of_ble_eq_true rfl⟩ rfl (jc.deep (r_word hI_M hH_M hS_M  (by omega) (by intro z; rw [show o - 20 - 320 = o - 340 by omega] at z ⊢; rw [hhv]; omega) (by rw [hhv]; omega) (fun M1 hI_M1 hH_M1 hS_M1  w1_0 w1_1 w1_2 w1_3 => ?_)) (by decide))
    rw [show o - 20 - 320 = o - 340 by omega] at w1_0 w1_1
    refine jr.goto rfl rfl ?_
    have e2 : M1 598 122 = Fv := ((w1_3 122 (by decide) (by decide) (by decide) (by decide) (by decide) (by decide) (by decide) (by decide) (by decide) (by decide) (by decide) (by decide) (by decide) (by decide)).trans hFv)
    have y3 : M1 598 122 = Fv := e2
    obtain ⟨v4, e4⟩ : ∃ z, M 598 136 = z := ⟨_, rfl⟩
    have b4 : 0 ≤ v4 ∧ v4 ≤ 1 := by rw [← e4]; exact hI_M 598 136 (by decide)
    have e5 : M1 598 136 = v4 := ((w1_3 136 (by decide) (by decide) (by decide) (by decide) (by decide) (by decide) (by decide) (by decide) (by decide) (by decide) (by decide) (by decide) (by decide) (by decide)).trans e4)
    have e6 : M1 598 132 = P := ((w1_3 132 (by decide) (by decide) (by decide) (by decide) (by decide) (by decide) (by decide) (by decide) (by decide) (by decide) (by decide) (by decide) (by decide) (by decide)).trans hP)
    obtain ⟨v7, e7⟩ : ∃ z, M1 598 131 = z := ⟨_, rfl⟩
    have b7 : 0 ≤ v7 ∧ v7 ≤ 400 := by rw [← e7]; exact hI_M1 598 131 (by decide)
    obtain ⟨v8, e8⟩ : ∃ z, M1 598 135 = z := ⟨_, rfl⟩
    have b8 : 0 ≤ v8 ∧ v8 ≤ 8 := by rw [← e8]; exact hI_M1 598 135 (by decide)
    have e9 : M1 598 143 = st := ((w1_3 143 (by decide) (by decide) (by decide) (by decide) (by decide) (by decide) (by decide) (by decide) (by decide) (by decide) (by decide) (by decide) (by decide) (by decide)).trans hst)
    refine jr.pick [2] rfl rfl ?_
    exact r_act_L487 (L := L) (n := n) (ht := ht) q M1  hI_M1 hH_M1 hS_M1  (fun a i f598 f602 f603 f604 f605 f624 f670 f671 f672 f673 f674 f675 f676 f677 f678 f679 f680 f681 f682 f683 f684 f685 f686 f687 => ((w1_2 a i f598 f603 f604 f605 f624 f686).trans (hF_M a i f598 f602 f603 f604 f605 f624 f670 f671 f672 f673 f674 f675 f676 f677 f678 f679 f680 f681 f682 f683 f684 f685 f686 f687))) (fun i g6 g10 g11 g12 g59 g60 g61 g62 g63 g64 g65 g66 g110 g112 g122 g131 g132 g134 g135 g136 g137 g138 g139 g143 g145 => ((w1_3 i g6 g10 g11 g12 g59 g60 g61 g62 g63 g64 g65 g66 g131 g135).trans (hG_M i g6 g10 g11 g12 g59 g60 g61 g62 g63 g64 g65 g66 g110 g112 g122 g131 g132 g134 g135 g136 g137 g138 g139 g143 g145)))  (FRS.fr hFR (fun i => ((w1_2 679 i (by decide) (by decide) (by decide) (by decide) (by decide) (by decide)).trans (rfl))) (fun i => ((w1_2 681 i (by decide) (by decide) (by decide) (by decide) (by decide) (by decide)).trans (rfl))) (fun i => ((w1_2 654 i (by decide) (by decide) (by decide) (by decide) (by decide) (by decide)).trans (rfl))) ((w1_3 82 (by decide) (by decide) (by decide) (by decide) (by decide) (by decide) (by decide) (by decide) (by decide) (by decide) (by decide) (by decide) (by decide) (by decide)).trans (rfl)) (by omega)) (AS.up (AS.fr hAS (fun i => w1_2 685 i (by decide) (by decide) (by decide) (by decide) (by decide) (by decide)) (w1_3 112 (by decide) (by decide) (by decide) (by decide) (by decide) (by decide) (by decide) (by decide) (by decide) (by decide) (by decide) (by decide) (by decide) (by decide))) (by omega)) (by rw [e2] <;> omega) (phi.fr (M := M) (M' := M1) ((w1_3 122 (by decide) (by decide) (by decide) (by decide) (by decide) (by decide) (by decide) (by decide) (by decide) (by decide) (by decide) (by decide) (by decide) (by decide)).trans (rfl)) (fun i => ((w1_2 680 i (by decide) (by decide) (by decide) (by decide) (by decide) (by decide)).trans (rfl)))) (by rw [e5] <;> omega) (by rw [e6] <;> omega) (by omega) (fun _ => by rw [e7, hP, q4]; omega) (by rw [e9, e8, hst, hP]; first | (exact Or.inl ⟨by omega, cN⟩) | (exact Or.inr ⟨by omega, by omega⟩))
theorem r_act_L403 {A : Nat → Option (Nat × (Nat → Int32))} {Q : Option Value → jm → Prop} {L n : Int} {ht : Int → Int} {M0 : jm} (q : ∀ (M' : jm), RI M' → RH M' → RF M' → AS M' (L + 1) → ((M' 598 136 = 1 ∧ M' 598 135 = 0) ∨ (M' 598 136 = 0 ∧ FRS M' ht n (M' 598 122) ∧ 1 ≤ M' 598 122 ∧ M' 598 122 ≤ 8 ∧ ((M' 598 135 ≠ 0 ∧ phi M' = phi M0 ∧ M' 598 143 = M0 598 143) ∨ (M' 598 135 = 0 ∧ 0 ≤ M' 598 132 ∧ M' 598 132 < n ∧ M' 598 131 = ht (M' 598 132) ∧ mu M' < mu M0)))) → (∀ (a : Nat) (i : Int), a ≠ 598 → a ≠ 602 → a ≠ 603 → a ≠ 604 → a ≠ 605 → a ≠ 624 → a ≠ 670 → a ≠ 671 → a ≠ 672 → a ≠ 673 → a ≠ 674 → a ≠ 675 → a ≠ 676 → a ≠ 677 → a ≠ 678 → a ≠ 679 → a ≠ 680 → a ≠ 681 → a ≠ 682 → a ≠ 683 → a ≠ 684 → a ≠ 685 → a ≠ 686 → a ≠ 687 → M' a i = M0 a i) → (∀ (i : Int), i ≠ 6 → i ≠ 10 → i ≠ 11 → i ≠ 12 → i ≠ 59 → i ≠ 60 → i ≠ 61 → i ≠ 62 → i ≠ 63 → i ≠ 64 → i ≠ 65 → i ≠ 66 → i ≠ 110 → i ≠ 112 → i ≠ 122 → i ≠ 131 → i ≠ 132 → i ≠ 134 → i ≠ 135 → i ≠ 136 → i ≠ 137 → i ≠ 138 → i ≠ 139 → i ≠ 143 → i ≠ 145 → M' 598 i = M0 598 i) → Q none M') : ∀ (M : jm) (a : Int) (o : Int), RI M → RH M → RF M → (∀ (a : Nat) (i : Int), a ≠ 598 → a ≠ 602 → a ≠ 603 → a ≠ 604 → a ≠ 605 → a ≠ 624 → a ≠ 670 → a ≠ 671 → a ≠ 672 → a ≠ 673 → a ≠ 674 → a ≠ 675 → a ≠ 676 → a ≠ 677 → a ≠ 678 → a ≠ 679 → a ≠ 680 → a ≠ 681 → a ≠ 682 → a ≠ 683 → a ≠ 684 → a ≠ 685 → a ≠ 686 → a ≠ 687 → M a i = M0 a i) → (∀ (i : Int), i ≠ 6 → i ≠ 10 → i ≠ 11 → i ≠ 12 → i ≠ 59 → i ≠ 60 → i ≠ 61 → i ≠ 62 → i ≠ 63 → i ≠ 64 → i ≠ 65 → i ≠ 66 → i ≠ 110 → i ≠ 112 → i ≠ 122 → i ≠ 131 → i ≠ 132 → i ≠ 134 → i ≠ 135 → i ≠ 136 → i ≠ 137 → i ≠ 138 → i ≠ 139 → i ≠ 143 → i ≠ 145 → M 598 i = M0 598 i) → (-9223372036854775808) ≤ a ∧ a ≤ 9223372036854775807 → 0 ≤ o ∧ o ≤ 1000 → MX M ht n → FRS M ht n (M 598 122) → 1 ≤ M 598 122 ∧ M 598 122 ≤ 8 → AS M L → L ≤ 1999999999 → (0 ≤ M 598 132 ∧ M 598 132 < n) → M 598 131 = ht (M 598 132) → o = M 654 (M 598 132) → a = M 655 (M 598 132) → (M 598 135 = 0 ∧ M 598 136 = 0) → M = M0 → o = 11 → jr A 9 xm_380 403 [(2, .long (Int64.ofInt (a))), (1, .int (Int32.ofInt (o))), (0, .ref (598))] [] M Q := by
    intro M a o hI_M hH_M hS_M hF_M hG_M h_a h_o hy0 hy1 hy2 hy3 hy4 hy5 hy6 hy7 hy8 hy9 hy10 hy11
    have hyM := hy10
    have ho := hy11
    have hp0 := hy0
    have hp1 := hy1
    have hp2 := hy2
    have hp3 := hy3
    have hp4 := hy4
    have hp5 := hy5
    have hp6 := hy6
    have hp7 := hy7
    have hp8 := hy8
    have hp9 := hy9
    subst hyM
    have p0 := hp0
    have p1 := hp1
    have p2 := hp2
    have p3 := hp3
    have p4 := hp4
    have p5 := hp5
    have p6 := hp6
    have p7 := hp7
    have p8 := hp8
    have p9 := hp9
    have hMX := p0
    have hFR := p1
    have hAS := p3
    obtain ⟨P, hP⟩ : ∃ z, M 598 132 = z := ⟨_, rfl⟩
    rw [hP] at p5 p6 p7 p8
    have nb := hMX.1
    have nb2 := hMX.2.1
    obtain ⟨⟨q1, q2, q3, q4, q5, q6⟩, q7, q8, q9⟩ := hMX.2.2.1 P p5.1 p5.2
    rw [← p7] at q3 q4 q5 q6 q7 q8 q9
    rw [← p8] at q7 q8 q9
    have nd : ndo o = 1 := by
      first | (rw [ho]; decide) | (rcases ho with z | z <;> rw [z] <;> decide)
    have dl : dlo o = 0 := by
      first | (rw [ho]; decide) | (rcases ho with z | z <;> rw [z] <;> decide)
    rw [dl] at q4
    rw [nd] at q5
    clear q7
    have pn : P + 1 < n := by
      by_cases y : P = n - 1
      · exfalso
        have z2 := hMX.2.2.2.2
        rw [← y, ← p7] at z2
        omega
      · omega
    have cN : cr (M 654) (P + 1) = 0 := MX.cr0 hMX (by omega) pn (by rw [show P + 1 - 1 = P by omega, ← p7]; omega)
    obtain ⟨Fv, hFv⟩ : ∃ z, M 598 122 = z := ⟨_, rfl⟩
    obtain ⟨hv, hhv⟩ : ∃ z, M 598 131 = z := ⟨_, rfl⟩
    rw [hhv] at p6
    clear q3
    obtain ⟨st, hst⟩ : ∃ z, M 598 143 = z := ⟨_, rfl⟩
    have bst : (0 : Int) ≤ st ∧ st ≤ 300 := by rw [← hst]; exact hI_M 598 143 (by decide)
    have cl := cr_le (M 654) P
    refine jr.aload_n rfl rfl ?_
    refine jr.getf (i := 130) (v := .ref 686) rfl rfl (by decide) rfl (by decide) rfl rfl rfl rfl ?_
    refine jr.aload_n rfl rfl ?_
    refine jr.getf (i := 131) (x := hv) (v := .int (Int32.ofInt (hv))) rfl rfl (by decide) rfl (by decide) rfl rfl hhv rfl ?_
    refine jr.iconst rfl ?_
    refine jr.isub rfl ?_
    refine jr.aload_n rfl rfl ?_
    refine jr.getf (i := 130) (v := .ref 686) rfl rfl (by decide) rfl (by decide) rfl rfl rfl rfl ?_
    refine jr.aload_n rfl rfl ?_
    refine jr.getf (i := 131) (x := hv) (v := .int (Int32.ofInt (hv))) rfl rfl (by decide) rfl (by decide) rfl rfl hhv rfl ?_
    refine jr.iconst rfl ?_
    refine jr.isub rfl ?_
    obtain ⟨v1, e1⟩ : ∃ z, M 686 (hv - 1) = z := ⟨_, rfl⟩
    have b1 : (-9223372036854775808) ≤ v1 ∧ v1 ≤ 9223372036854775807 := by rw [← e1]; exact (by have q := hI_M 686 (hv - 1) (by decide); rw [xri_row rfl rfl] at q; exact q)
    refine jr.lald (i := (hv - 1)) (x := v1) rfl (by decide) rfl (by decide) (by omega) (by omega) e1 ?_
    refine jr.lconst (x := 0) rfl (by decide) ?_
    refine jr.lcmp_ne rfl rfl rfl (by omega) (by omega) (fun h425 => ?_) (fun h425 => ?_)
    · refine jr.lconst (x := 0) rfl (by decide) ?_
      refine jr.last (i := (hv - 1)) (x := 0) rfl (by decide) rfl (by decide) (by omega) (by omega) ?_
      refine jr.goto rfl rfl ?_
      have y2 : (ju M 686 (hv - 1) 0) 598 122 = Fv := ((ju_c _ _ (by decide)).trans hFv)
      obtain ⟨v3, e3⟩ : ∃ z, M 598 136 = z := ⟨_, rfl⟩
      have b3 : 0 ≤ v3 ∧ v3 ≤ 1 := by rw [← e3]; exact hI_M 598 136 (by decide)
      obtain ⟨v4, e4⟩ : ∃ z, M 598 135 = z := ⟨_, rfl⟩
      have b4 : 0 ≤ v4 ∧ v4 ≤ 8 := by rw [← e4]; exact hI_M 598 135 (by decide)
      refine jr.pick [2] rfl rfl ?_
      exact r_act_L487 (L := L) (n := n) (ht := ht) q (ju M 686 (hv - 1) 0)  (RI.u hI_M (a := 686) (i := (hv - 1)) (by rw [xri_row rfl rfl]; show (-9223372036854775808 : Int) ≤ _ ∧ _ ≤ (9223372036854775807 : Int); omega)) (RH.o hH_M (by decide) (by decide) (by decide)) (RF.o hS_M (by decide) (by decide))  (fun a i f598 f602 f603 f604 f605 f624 f670 f671 f672 f673 f674 f675 f676 f677 f678 f679 f680 f681 f682 f683 f684 f685 f686 f687 => ((ju_c _ _ f686).trans (hF_M a i f598 f602 f603 f604 f605 f624 f670 f671 f672 f673 f674 f675 f676 f677 f678 f679 f680 f681 f682 f683 f684 f685 f686 f687))) (fun i g6 g10 g11 g12 g59 g60 g61 g62 g63 g64 g65 g66 g110 g112 g122 g131 g132 g134 g135 g136 g137 g138 g139 g143 g145 => ((ju_c _ _ (by decide)).trans (hG_M i g6 g10 g11 g12 g59 g60 g61 g62 g63 g64 g65 g66 g110 g112 g122 g131 g132 g134 g135 g136 g137 g138 g139 g143 g145)))  (FRS.fr hFR (fun i => ((ju_c _ _ (by decide)).trans (rfl))) (fun i => ((ju_c _ _ (by decide)).trans (rfl))) (fun i => ((ju_c _ _ (by decide)).trans (rfl))) ((ju_c _ _ (by decide)).trans (rfl)) (by omega)) (AS.up (AS.o hAS (by decide) (Or.inl (by decide))) (by omega)) (by rw [((ju_c _ _ (by decide)).trans hFv)] <;> omega) (phi.fr (M := M) (M' := (ju M 686 (hv - 1) 0)) ((ju_c _ _ (by decide)).trans (rfl)) (fun i => ((ju_c _ _ (by decide)).trans (rfl)))) (by rw [((ju_c _ _ (by decide)).trans e3)] <;> omega) (by rw [((ju_c _ _ (by decide)).trans hP)] <;> omega) (by omega) (fun _ => by rw [((ju_c _ _ (by decide)).trans hhv), hP, q4]; omega) (by rw [((ju_c _ _ (by decide)).trans hst), ((ju_c _ _ (by decide)).trans e4), hst, hP]; first | (exact Or.inl ⟨by omega, cN⟩) | (exact Or.inr ⟨by omega, by omega⟩))
    · refine jr.lconst (x := 1) rfl (by decide) ?_
      refine jr.goto rfl rfl ?_
      refine jr.last (i := (hv - 1)) (x := 1) rfl (by decide) rfl (by decide) (by omega) (by omega) ?_
      refine jr.goto rfl rfl ?_
      have y5 : (ju M 686 (hv - 1) 1) 598 122 = Fv := ((ju_c _ _ (by decide)).trans hFv)
      obtain ⟨v6, e6⟩ : ∃ z, M 598 136 = z := ⟨_, rfl⟩
      have b6 : 0 ≤ v6 ∧ v6 ≤ 1 := by rw [← e6]; exact hI_M 598 136 (by decide)
      obtain ⟨v7, e7⟩ : ∃ z, M 598 135 = z := ⟨_, rfl⟩
      have b7 : 0 ≤ v7 ∧ v7 ≤ 8 := by rw [← e7]; exact hI_M 598 135 (by decide)
      refine jr.pick [2] rfl rfl ?_
      exact r_act_L487 (L := L) (n := n) (ht := ht) q (ju M 686 (hv - 1) 1)  (RI.u hI_M (a := 686) (i := (hv - 1)) (by rw [xri_row rfl rfl]; show (-9223372036854775808 : Int) ≤ _ ∧ _ ≤ (9223372036854775807 : Int); omega)) (RH.o hH_M (by decide) (by decide) (by decide)) (RF.o hS_M (by decide) (by decide))  (fun a i f598 f602 f603 f604 f605 f624 f670 f671 f672 f673 f674 f675 f676 f677 f678 f679 f680 f681 f682 f683 f684 f685 f686 f687 => ((ju_c _ _ f686).trans (hF_M a i f598 f602 f603 f604 f605 f624 f670 f671 f672 f673 f674 f675 f676 f677 f678 f679 f680 f681 f682 f683 f684 f685 f686 f687))) (fun i g6 g10 g11 g12 g59 g60 g61 g62 g63 g64 g65 g66 g110 g112 g122 g131 g132 g134 g135 g136 g137 g138 g139 g143 g145 => ((ju_c _ _ (by decide)).trans (hG_M i g6 g10 g11 g12 g59 g60 g61 g62 g63 g64 g65 g66 g110 g112 g122 g131 g132 g134 g135 g136 g137 g138 g139 g143 g145)))  (FRS.fr hFR (fun i => ((ju_c _ _ (by decide)).trans (rfl))) (fun i => ((ju_c _ _ (by decide)).trans (rfl))) (fun i => ((ju_c _ _ (by decide)).trans (rfl))) ((ju_c _ _ (by decide)).trans (rfl)) (by omega)) (AS.up (AS.o hAS (by decide) (Or.inl (by decide))) (by omega)) (by rw [((ju_c _ _ (by decide)).trans hFv)] <;> omega) (phi.fr (M := M) (M' := (ju M 686 (hv - 1) 1)) ((ju_c _ _ (by decide)).trans (rfl)) (fun i => ((ju_c _ _ (by decide)).trans (rfl)))) (by rw [((ju_c _ _ (by decide)).trans e6)] <;> omega) (by rw [((ju_c _ _ (by decide)).trans hP)] <;> omega) (by omega) (fun _ => by rw [((ju_c _ _ (by decide)).trans hhv), hP, q4]; omega) (by rw [((ju_c _ _ (by decide)).trans hst), ((ju_c _ _ (by decide)).trans e7), hst, hP]; first | (exact Or.inl ⟨by omega, cN⟩) | (exact Or.inr ⟨by omega, by omega⟩))
theorem r_act_L377 {A : Nat → Option (Nat × (Nat → Int32))} {Q : Option Value → jm → Prop} {L n : Int} {ht : Int → Int} {M0 : jm} (q : ∀ (M' : jm), RI M' → RH M' → RF M' → AS M' (L + 1) → ((M' 598 136 = 1 ∧ M' 598 135 = 0) ∨ (M' 598 136 = 0 ∧ FRS M' ht n (M' 598 122) ∧ 1 ≤ M' 598 122 ∧ M' 598 122 ≤ 8 ∧ ((M' 598 135 ≠ 0 ∧ phi M' = phi M0 ∧ M' 598 143 = M0 598 143) ∨ (M' 598 135 = 0 ∧ 0 ≤ M' 598 132 ∧ M' 598 132 < n ∧ M' 598 131 = ht (M' 598 132) ∧ mu M' < mu M0)))) → (∀ (a : Nat) (i : Int), a ≠ 598 → a ≠ 602 → a ≠ 603 → a ≠ 604 → a ≠ 605 → a ≠ 624 → a ≠ 670 → a ≠ 671 → a ≠ 672 → a ≠ 673 → a ≠ 674 → a ≠ 675 → a ≠ 676 → a ≠ 677 → a ≠ 678 → a ≠ 679 → a ≠ 680 → a ≠ 681 → a ≠ 682 → a ≠ 683 → a ≠ 684 → a ≠ 685 → a ≠ 686 → a ≠ 687 → M' a i = M0 a i) → (∀ (i : Int), i ≠ 6 → i ≠ 10 → i ≠ 11 → i ≠ 12 → i ≠ 59 → i ≠ 60 → i ≠ 61 → i ≠ 62 → i ≠ 63 → i ≠ 64 → i ≠ 65 → i ≠ 66 → i ≠ 110 → i ≠ 112 → i ≠ 122 → i ≠ 131 → i ≠ 132 → i ≠ 134 → i ≠ 135 → i ≠ 136 → i ≠ 137 → i ≠ 138 → i ≠ 139 → i ≠ 143 → i ≠ 145 → M' 598 i = M0 598 i) → Q none M') : ∀ (M : jm) (a : Int) (o : Int), RI M → RH M → RF M → (∀ (a : Nat) (i : Int), a ≠ 598 → a ≠ 602 → a ≠ 603 → a ≠ 604 → a ≠ 605 → a ≠ 624 → a ≠ 670 → a ≠ 671 → a ≠ 672 → a ≠ 673 → a ≠ 674 → a ≠ 675 → a ≠ 676 → a ≠ 677 → a ≠ 678 → a ≠ 679 → a ≠ 680 → a ≠ 681 → a ≠ 682 → a ≠ 683 → a ≠ 684 → a ≠ 685 → a ≠ 686 → a ≠ 687 → M a i = M0 a i) → (∀ (i : Int), i ≠ 6 → i ≠ 10 → i ≠ 11 → i ≠ 12 → i ≠ 59 → i ≠ 60 → i ≠ 61 → i ≠ 62 → i ≠ 63 → i ≠ 64 → i ≠ 65 → i ≠ 66 → i ≠ 110 → i ≠ 112 → i ≠ 122 → i ≠ 131 → i ≠ 132 → i ≠ 134 → i ≠ 135 → i ≠ 136 → i ≠ 137 → i ≠ 138 → i ≠ 139 → i ≠ 143 → i ≠ 145 → M 598 i = M0 598 i) → (-9223372036854775808) ≤ a ∧ a ≤ 9223372036854775807 → 0 ≤ o ∧ o ≤ 1000 → MX M ht n → FRS M ht n (M 598 122) → 1 ≤ M 598 122 ∧ M 598 122 ≤ 8 → AS M L → L ≤ 1999999999 → (0 ≤ M 598 132 ∧ M 598 132 < n) → M 598 131 = ht (M 598 132) → o = M 654 (M 598 132) → a = M 655 (M 598 132) → (M 598 135 = 0 ∧ M 598 136 = 0) → M = M0 → o = 10 → jr A 9 xm_380 377 [(2, .long (Int64.ofInt (a))), (1, .int (Int32.ofInt (o))), (0, .ref (598))] [] M Q := by
    intro M a o hI_M hH_M hS_M hF_M hG_M h_a h_o hy0 hy1 hy2 hy3 hy4 hy5 hy6 hy7 hy8 hy9 hy10 hy11
    have hyM := hy10
    have ho := hy11
    have hp0 := hy0
    have hp1 := hy1
    have hp2 := hy2
    have hp3 := hy3
    have hp4 := hy4
    have hp5 := hy5
    have hp6 := hy6
    have hp7 := hy7
    have hp8 := hy8
    have hp9 := hy9
    subst hyM
    have p0 := hp0
    have p1 := hp1
    have p2 := hp2
    have p3 := hp3
    have p4 := hp4
    have p5 := hp5
    have p6 := hp6
    have p7 := hp7
    have p8 := hp8
    have p9 := hp9
    have hMX := p0
    have hFR := p1
    have hAS := p3
    obtain ⟨P, hP⟩ : ∃ z, M 598 132 = z := ⟨_, rfl⟩
    rw [hP] at p5 p6 p7 p8
    have nb := hMX.1
    have nb2 := hMX.2.1
    obtain ⟨⟨q1, q2, q3, q4, q5, q6⟩, q7, q8, q9⟩ := hMX.2.2.1 P p5.1 p5.2
    rw [← p7] at q3 q4 q5 q6 q7 q8 q9
    rw [← p8] at q7 q8 q9
    have nd : ndo o = 1 := by
      first | (rw [ho]; decide) | (rcases ho with z | z <;> rw [z] <;> decide)
    have dl : dlo o = 0 := by
      first | (rw [ho]; decide) | (rcases ho with z | z <;> rw [z] <;> decide)
    rw [dl] at q4
    rw [nd] at q5
    clear q7
    have pn : P + 1 < n := by
      by_cases y : P = n - 1
      · exfalso
        have z2 := hMX.2.2.2.2
        rw [← y, ← p7] at z2
        omega
      · omega
    have cN : cr (M 654) (P + 1) = 0 := MX.cr0 hMX (by omega) pn (by rw [show P + 1 - 1 = P by omega, ← p7]; omega)
    obtain ⟨Fv, hFv⟩ : ∃ z, M 598 122 = z := ⟨_, rfl⟩
    obtain ⟨hv, hhv⟩ : ∃ z, M 598 131 = z := ⟨_, rfl⟩
    rw [hhv] at p6
    clear q3
    obtain ⟨st, hst⟩ : ∃ z, M 598 143 = z := ⟨_, rfl⟩
    have bst : (0 : Int) ≤ st ∧ st ≤ 300 := by rw [← hst]; exact hI_M 598 143 (by decide)
    have cl := cr_le (M 654) P
    refine jr.aload_n rfl rfl ?_
    refine jr.getf (i := 130) (v := .ref 686) rfl rfl (by decide) rfl (by decide) rfl rfl rfl rfl ?_
    refine jr.aload_n rfl rfl ?_
    refine jr.getf (i := 131) (x := hv) (v := .int (Int32.ofInt (hv))) rfl rfl (by decide) rfl (by decide) rfl rfl hhv rfl ?_
    refine jr.iconst rfl ?_
    refine jr.isub rfl ?_
    refine jr.aload_n rfl rfl ?_
    refine jr.getf (i := 130) (v := .ref 686) rfl rfl (by decide) rfl (by decide) rfl rfl rfl rfl ?_
    refine jr.aload_n rfl rfl ?_
    refine jr.getf (i := 131) (x := hv) (v := .int (Int32.ofInt (hv))) rfl rfl (by decide) rfl (by decide) rfl rfl hhv rfl ?_
    refine jr.iconst rfl ?_
    refine jr.isub rfl ?_
    obtain ⟨v1, e1⟩ : ∃ z, M 686 (hv - 1) = z := ⟨_, rfl⟩
    have b1 : (-9223372036854775808) ≤ v1 ∧ v1 ≤ 9223372036854775807 := by rw [← e1]; exact (by have q := hI_M 686 (hv - 1) (by decide); rw [xri_row rfl rfl] at q; exact q)
    refine jr.lald (i := (hv - 1)) (x := v1) rfl (by decide) rfl (by decide) (by omega) (by omega) e1 ?_
    refine jr.lneg rfl ?_
    refine jr.lw (jl_w (-v1)) (jl_w_eq _) ?_
    have b2 : -9223372036854775808 ≤ jl_w (-v1) ∧ jl_w (-v1) ≤ 9223372036854775807 := jbl_any _
    generalize jl_w (-v1) = v2 at b2 ⊢
    refine jr.last (i := (hv - 1)) (x := v2) rfl (by decide) rfl (by decide) (by omega) (by omega) ?_
    refine jr.goto rfl rfl ?_
    have y3 : (ju M 686 (hv - 1) v2) 598 122 = Fv := ((ju_c _ _ (by decide)).trans hFv)
    obtain ⟨v4, e4⟩ : ∃ z, M 598 136 = z := ⟨_, rfl⟩
    have b4 : 0 ≤ v4 ∧ v4 ≤ 1 := by rw [← e4]; exact hI_M 598 136 (by decide)
    obtain ⟨v5, e5⟩ : ∃ z, M 598 135 = z := ⟨_, rfl⟩
    have b5 : 0 ≤ v5 ∧ v5 ≤ 8 := by rw [← e5]; exact hI_M 598 135 (by decide)
    refine jr.pick [2] rfl rfl ?_
    exact r_act_L487 (L := L) (n := n) (ht := ht) q (ju M 686 (hv - 1) v2)  (RI.u hI_M (a := 686) (i := (hv - 1)) (by rw [xri_row rfl rfl]; show (-9223372036854775808 : Int) ≤ _ ∧ _ ≤ (9223372036854775807 : Int); omega)) (RH.o hH_M (by decide) (by decide) (by decide)) (RF.o hS_M (by decide) (by decide))  (fun a i f598 f602 f603 f604 f605 f624 f670 f671 f672 f673 f674 f675 f676 f677 f678 f679 f680 f681 f682 f683 f684 f685 f686 f687 => ((ju_c _ _ f686).trans (hF_M a i f598 f602 f603 f604 f605 f624 f670 f671 f672 f673 f674 f675 f676 f677 f678 f679 f680 f681 f682 f683 f684 f685 f686 f687))) (fun i g6 g10 g11 g12 g59 g60 g61 g62 g63 g64 g65 g66 g110 g112 g122 g131 g132 g134 g135 g136 g137 g138 g139 g143 g145 => ((ju_c _ _ (by decide)).trans (hG_M i g6 g10 g11 g12 g59 g60 g61 g62 g63 g64 g65 g66 g110 g112 g122 g131 g132 g134 g135 g136 g137 g138 g139 g143 g145)))  (FRS.fr hFR (fun i => ((ju_c _ _ (by decide)).trans (rfl))) (fun i => ((ju_c _ _ (by decide)).trans (rfl))) (fun i => ((ju_c _ _ (by decide)).trans (rfl))) ((ju_c _ _ (by decide)).trans (rfl)) (by omega)) (AS.up (AS.o hAS (by decide) (Or.inl (by decide))) (by omega)) (by rw [((ju_c _ _ (by decide)).trans hFv)] <;> omega) (phi.fr (M := M) (M' := (ju M 686 (hv - 1) v2)) ((ju_c _ _ (by decide)).trans (rfl)) (fun i => ((ju_c _ _ (by decide)).trans (rfl)))) (by rw [((ju_c _ _ (by decide)).trans e4)] <;> omega) (by rw [((ju_c _ _ (by decide)).trans hP)] <;> omega) (by omega) (fun _ => by rw [((ju_c _ _ (by decide)).trans hhv), hP, q4]; omega) (by rw [((ju_c _ _ (by decide)).trans hst), ((ju_c _ _ (by decide)).trans e5), hst, hP]; first | (exact Or.inl ⟨by omega, cN⟩) | (exact Or.inr ⟨by omega, by omega⟩))
theorem r_act_L342 {A : Nat → Option (Nat × (Nat → Int32))} {Q : Option Value → jm → Prop} {L n : Int} {ht : Int → Int} {M0 : jm} (q : ∀ (M' : jm), RI M' → RH M' → RF M' → AS M' (L + 1) → ((M' 598 136 = 1 ∧ M' 598 135 = 0) ∨ (M' 598 136 = 0 ∧ FRS M' ht n (M' 598 122) ∧ 1 ≤ M' 598 122 ∧ M' 598 122 ≤ 8 ∧ ((M' 598 135 ≠ 0 ∧ phi M' = phi M0 ∧ M' 598 143 = M0 598 143) ∨ (M' 598 135 = 0 ∧ 0 ≤ M' 598 132 ∧ M' 598 132 < n ∧ M' 598 131 = ht (M' 598 132) ∧ mu M' < mu M0)))) → (∀ (a : Nat) (i : Int), a ≠ 598 → a ≠ 602 → a ≠ 603 → a ≠ 604 → a ≠ 605 → a ≠ 624 → a ≠ 670 → a ≠ 671 → a ≠ 672 → a ≠ 673 → a ≠ 674 → a ≠ 675 → a ≠ 676 → a ≠ 677 → a ≠ 678 → a ≠ 679 → a ≠ 680 → a ≠ 681 → a ≠ 682 → a ≠ 683 → a ≠ 684 → a ≠ 685 → a ≠ 686 → a ≠ 687 → M' a i = M0 a i) → (∀ (i : Int), i ≠ 6 → i ≠ 10 → i ≠ 11 → i ≠ 12 → i ≠ 59 → i ≠ 60 → i ≠ 61 → i ≠ 62 → i ≠ 63 → i ≠ 64 → i ≠ 65 → i ≠ 66 → i ≠ 110 → i ≠ 112 → i ≠ 122 → i ≠ 131 → i ≠ 132 → i ≠ 134 → i ≠ 135 → i ≠ 136 → i ≠ 137 → i ≠ 138 → i ≠ 139 → i ≠ 143 → i ≠ 145 → M' 598 i = M0 598 i) → Q none M') : ∀ (M : jm) (a : Int) (o : Int), RI M → RH M → RF M → (∀ (a : Nat) (i : Int), a ≠ 598 → a ≠ 602 → a ≠ 603 → a ≠ 604 → a ≠ 605 → a ≠ 624 → a ≠ 670 → a ≠ 671 → a ≠ 672 → a ≠ 673 → a ≠ 674 → a ≠ 675 → a ≠ 676 → a ≠ 677 → a ≠ 678 → a ≠ 679 → a ≠ 680 → a ≠ 681 → a ≠ 682 → a ≠ 683 → a ≠ 684 → a ≠ 685 → a ≠ 686 → a ≠ 687 → M a i = M0 a i) → (∀ (i : Int), i ≠ 6 → i ≠ 10 → i ≠ 11 → i ≠ 12 → i ≠ 59 → i ≠ 60 → i ≠ 61 → i ≠ 62 → i ≠ 63 → i ≠ 64 → i ≠ 65 → i ≠ 66 → i ≠ 110 → i ≠ 112 → i ≠ 122 → i ≠ 131 → i ≠ 132 → i ≠ 134 → i ≠ 135 → i ≠ 136 → i ≠ 137 → i ≠ 138 → i ≠ 139 → i ≠ 143 → i ≠ 145 → M 598 i = M0 598 i) → (-9223372036854775808) ≤ a ∧ a ≤ 9223372036854775807 → 0 ≤ o ∧ o ≤ 1000 → MX M ht n → FRS M ht n (M 598 122) → 1 ≤ M 598 122 ∧ M 598 122 ≤ 8 → AS M L → L ≤ 1999999999 → (0 ≤ M 598 132 ∧ M 598 132 < n) → M 598 131 = ht (M 598 132) → o = M 654 (M 598 132) → a = M 655 (M 598 132) → (M 598 135 = 0 ∧ M 598 136 = 0) → M = M0 → o = 9 → jr A 9 xm_380 342 [(2, .long (Int64.ofInt (a))), (1, .int (Int32.ofInt (o))), (0, .ref (598))] [] M Q := by
    intro M a o hI_M hH_M hS_M hF_M hG_M h_a h_o hy0 hy1 hy2 hy3 hy4 hy5 hy6 hy7 hy8 hy9 hy10 hy11
    have hyM := hy10
    have ho := hy11
    have hp0 := hy0
    have hp1 := hy1
    have hp2 := hy2
    have hp3 := hy3
    have hp4 := hy4
    have hp5 := hy5
    have hp6 := hy6
    have hp7 := hy7
    have hp8 := hy8
    have hp9 := hy9
    subst hyM
    have p0 := hp0
    have p1 := hp1
    have p2 := hp2
    have p3 := hp3
    have p4 := hp4
    have p5 := hp5
    have p6 := hp6
    have p7 := hp7
    have p8 := hp8
    have p9 := hp9
    have hMX := p0
    have hFR := p1
    have hAS := p3
    obtain ⟨P, hP⟩ : ∃ z, M 598 132 = z := ⟨_, rfl⟩
    rw [hP] at p5 p6 p7 p8
    have nb := hMX.1
    have nb2 := hMX.2.1
    obtain ⟨⟨q1, q2, q3, q4, q5, q6⟩, q7, q8, q9⟩ := hMX.2.2.1 P p5.1 p5.2
    rw [← p7] at q3 q4 q5 q6 q7 q8 q9
    rw [← p8] at q7 q8 q9
    have nd : ndo o = 1 := by
      first | (rw [ho]; decide) | (rcases ho with z | z <;> rw [z] <;> decide)
    have dl : dlo o = 0 := by
      first | (rw [ho]; decide) | (rcases ho with z | z <;> rw [z] <;> decide)
    rw [dl] at q4
    rw [nd] at q5
    clear q7
    have pn : P + 1 < n := by
      by_cases y : P = n - 1
      · exfalso
        have z2 := hMX.2.2.2.2
        rw [← y, ← p7] at z2
        omega
      · omega
    have cN : cr (M 654) (P + 1) = 0 := MX.cr0 hMX (by omega) pn (by rw [show P + 1 - 1 = P by omega, ← p7]; omega)
    obtain ⟨Fv, hFv⟩ : ∃ z, M 598 122 = z := ⟨_, rfl⟩
    obtain ⟨hv, hhv⟩ : ∃ z, M 598 131 = z := ⟨_, rfl⟩
    rw [hhv] at p6
    clear q3
    obtain ⟨st, hst⟩ : ∃ z, M 598 143 = z := ⟨_, rfl⟩
    have bst : (0 : Int) ≤ st ∧ st ≤ 300 := by rw [← hst]; exact hI_M 598 143 (by decide)
    have cl := cr_le (M 654) P
    refine jr.aload_n rfl rfl ?_
    refine jr.getf (i := 130) (v := .ref 686) rfl rfl (by decide) rfl (by decide) rfl rfl rfl rfl ?_
    refine jr.aload_n rfl rfl ?_
    refine jr.getf (i := 131) (x := hv) (v := .int (Int32.ofInt (hv))) rfl rfl (by decide) rfl (by decide) rfl rfl hhv rfl ?_
    refine jr.iconst rfl ?_
    refine jr.isub rfl ?_
    refine jr.aload_n rfl rfl ?_
    refine jr.getf (i := 130) (v := .ref 686) rfl rfl (by decide) rfl (by decide) rfl rfl rfl rfl ?_
    refine jr.aload_n rfl rfl ?_
    refine jr.getf (i := 131) (x := hv) (v := .int (Int32.ofInt (hv))) rfl rfl (by decide) rfl (by decide) rfl rfl hhv rfl ?_
    refine jr.iconst rfl ?_
    refine jr.isub rfl ?_
    obtain ⟨v1, e1⟩ : ∃ z, M 686 (hv - 1) = z := ⟨_, rfl⟩
    have b1 : (-9223372036854775808) ≤ v1 ∧ v1 ≤ 9223372036854775807 := by rw [← e1]; exact (by have q := hI_M 686 (hv - 1) (by decide); rw [xri_row rfl rfl] at q; exact q)
    refine jr.lald (i := (hv - 1)) (x := v1) rfl (by decide) rfl (by decide) (by omega) (by omega) e1 ?_
    refine jr.lconst (x := 0) rfl (by decide) ?_
    refine jr.lcmp_eq rfl rfl rfl (by omega) (by omega) (fun h364 => ?_) (fun h364 => ?_)
    · refine jr.lconst (x := 0) rfl (by decide) ?_
      refine jr.last (i := (hv - 1)) (x := 0) rfl (by decide) rfl (by decide) (by omega) (by omega) ?_
      refine jr.goto rfl rfl ?_
      have y2 : (ju M 686 (hv - 1) 0) 598 122 = Fv := ((ju_c _ _ (by decide)).trans hFv)
      obtain ⟨v3, e3⟩ : ∃ z, M 598 136 = z := ⟨_, rfl⟩
      have b3 : 0 ≤ v3 ∧ v3 ≤ 1 := by rw [← e3]; exact hI_M 598 136 (by decide)
      obtain ⟨v4, e4⟩ : ∃ z, M 598 135 = z := ⟨_, rfl⟩
      have b4 : 0 ≤ v4 ∧ v4 ≤ 8 := by rw [← e4]; exact hI_M 598 135 (by decide)
      refine jr.pick [2] rfl rfl ?_
      exact r_act_L487 (L := L) (n := n) (ht := ht) q (ju M 686 (hv - 1) 0)  (RI.u hI_M (a := 686) (i := (hv - 1)) (by rw [xri_row rfl rfl]; show (-9223372036854775808 : Int) ≤ _ ∧ _ ≤ (9223372036854775807 : Int); omega)) (RH.o hH_M (by decide) (by decide) (by decide)) (RF.o hS_M (by decide) (by decide))  (fun a i f598 f602 f603 f604 f605 f624 f670 f671 f672 f673 f674 f675 f676 f677 f678 f679 f680 f681 f682 f683 f684 f685 f686 f687 => ((ju_c _ _ f686).trans (hF_M a i f598 f602 f603 f604 f605 f624 f670 f671 f672 f673 f674 f675 f676 f677 f678 f679 f680 f681 f682 f683 f684 f685 f686 f687))) (fun i g6 g10 g11 g12 g59 g60 g61 g62 g63 g64 g65 g66 g110 g112 g122 g131 g132 g134 g135 g136 g137 g138 g139 g143 g145 => ((ju_c _ _ (by decide)).trans (hG_M i g6 g10 g11 g12 g59 g60 g61 g62 g63 g64 g65 g66 g110 g112 g122 g131 g132 g134 g135 g136 g137 g138 g139 g143 g145)))  (FRS.fr hFR (fun i => ((ju_c _ _ (by decide)).trans (rfl))) (fun i => ((ju_c _ _ (by decide)).trans (rfl))) (fun i => ((ju_c _ _ (by decide)).trans (rfl))) ((ju_c _ _ (by decide)).trans (rfl)) (by omega)) (AS.up (AS.o hAS (by decide) (Or.inl (by decide))) (by omega)) (by rw [((ju_c _ _ (by decide)).trans hFv)] <;> omega) (phi.fr (M := M) (M' := (ju M 686 (hv - 1) 0)) ((ju_c _ _ (by decide)).trans (rfl)) (fun i => ((ju_c _ _ (by decide)).trans (rfl)))) (by rw [((ju_c _ _ (by decide)).trans e3)] <;> omega) (by rw [((ju_c _ _ (by decide)).trans hP)] <;> omega) (by omega) (fun _ => by rw [((ju_c _ _ (by decide)).trans hhv), hP, q4]; omega) (by rw [((ju_c _ _ (by decide)).trans hst), ((ju_c _ _ (by decide)).trans e4), hst, hP]; first | (exact Or.inl ⟨by omega, cN⟩) | (exact Or.inr ⟨by omega, by omega⟩))
    · refine jr.lconst (x := 1) rfl (by decide) ?_
      refine jr.goto rfl rfl ?_
      refine jr.last (i := (hv - 1)) (x := 1) rfl (by decide) rfl (by decide) (by omega) (by omega) ?_
      refine jr.goto rfl rfl ?_
      have y5 : (ju M 686 (hv - 1) 1) 598 122 = Fv := ((ju_c _ _ (by decide)).trans hFv)
      obtain ⟨v6, e6⟩ : ∃ z, M 598 136 = z := ⟨_, rfl⟩
      have b6 : 0 ≤ v6 ∧ v6 ≤ 1 := by rw [← e6]; exact hI_M 598 136 (by decide)
      obtain ⟨v7, e7⟩ : ∃ z, M 598 135 = z := ⟨_, rfl⟩
      have b7 : 0 ≤ v7 ∧ v7 ≤ 8 := by rw [← e7]; exact hI_M 598 135 (by decide)
      refine jr.pick [2] rfl rfl ?_
      exact r_act_L487 (L := L) (n := n) (ht := ht) q (ju M 686 (hv - 1) 1)  (RI.u hI_M (a := 686) (i := (hv - 1)) (by rw [xri_row rfl rfl]; show (-9223372036854775808 : Int) ≤ _ ∧ _ ≤ (9223372036854775807 : Int); omega)) (RH.o hH_M (by decide) (by decide) (by decide)) (RF.o hS_M (by decide) (by decide))  (fun a i f598 f602 f603 f604 f605 f624 f670 f671 f672 f673 f674 f675 f676 f677 f678 f679 f680 f681 f682 f683 f684 f685 f686 f687 => ((ju_c _ _ f686).trans (hF_M a i f598 f602 f603 f604 f605 f624 f670 f671 f672 f673 f674 f675 f676 f677 f678 f679 f680 f681 f682 f683 f684 f685 f686 f687))) (fun i g6 g10 g11 g12 g59 g60 g61 g62 g63 g64 g65 g66 g110 g112 g122 g131 g132 g134 g135 g136 g137 g138 g139 g143 g145 => ((ju_c _ _ (by decide)).trans (hG_M i g6 g10 g11 g12 g59 g60 g61 g62 g63 g64 g65 g66 g110 g112 g122 g131 g132 g134 g135 g136 g137 g138 g139 g143 g145)))  (FRS.fr hFR (fun i => ((ju_c _ _ (by decide)).trans (rfl))) (fun i => ((ju_c _ _ (by decide)).trans (rfl))) (fun i => ((ju_c _ _ (by decide)).trans (rfl))) ((ju_c _ _ (by decide)).trans (rfl)) (by omega)) (AS.up (AS.o hAS (by decide) (Or.inl (by decide))) (by omega)) (by rw [((ju_c _ _ (by decide)).trans hFv)] <;> omega) (phi.fr (M := M) (M' := (ju M 686 (hv - 1) 1)) ((ju_c _ _ (by decide)).trans (rfl)) (fun i => ((ju_c _ _ (by decide)).trans (rfl)))) (by rw [((ju_c _ _ (by decide)).trans e6)] <;> omega) (by rw [((ju_c _ _ (by decide)).trans hP)] <;> omega) (by omega) (fun _ => by rw [((ju_c _ _ (by decide)).trans hhv), hP, q4]; omega) (by rw [((ju_c _ _ (by decide)).trans hst), ((ju_c _ _ (by decide)).trans e7), hst, hP]; first | (exact Or.inl ⟨by omega, cN⟩) | (exact Or.inr ⟨by omega, by omega⟩))
theorem r_act_L305 {A : Nat → Option (Nat × (Nat → Int32))} {Q : Option Value → jm → Prop} {L n : Int} {ht : Int → Int} {M0 : jm} (q : ∀ (M' : jm), RI M' → RH M' → RF M' → AS M' (L + 1) → ((M' 598 136 = 1 ∧ M' 598 135 = 0) ∨ (M' 598 136 = 0 ∧ FRS M' ht n (M' 598 122) ∧ 1 ≤ M' 598 122 ∧ M' 598 122 ≤ 8 ∧ ((M' 598 135 ≠ 0 ∧ phi M' = phi M0 ∧ M' 598 143 = M0 598 143) ∨ (M' 598 135 = 0 ∧ 0 ≤ M' 598 132 ∧ M' 598 132 < n ∧ M' 598 131 = ht (M' 598 132) ∧ mu M' < mu M0)))) → (∀ (a : Nat) (i : Int), a ≠ 598 → a ≠ 602 → a ≠ 603 → a ≠ 604 → a ≠ 605 → a ≠ 624 → a ≠ 670 → a ≠ 671 → a ≠ 672 → a ≠ 673 → a ≠ 674 → a ≠ 675 → a ≠ 676 → a ≠ 677 → a ≠ 678 → a ≠ 679 → a ≠ 680 → a ≠ 681 → a ≠ 682 → a ≠ 683 → a ≠ 684 → a ≠ 685 → a ≠ 686 → a ≠ 687 → M' a i = M0 a i) → (∀ (i : Int), i ≠ 6 → i ≠ 10 → i ≠ 11 → i ≠ 12 → i ≠ 59 → i ≠ 60 → i ≠ 61 → i ≠ 62 → i ≠ 63 → i ≠ 64 → i ≠ 65 → i ≠ 66 → i ≠ 110 → i ≠ 112 → i ≠ 122 → i ≠ 131 → i ≠ 132 → i ≠ 134 → i ≠ 135 → i ≠ 136 → i ≠ 137 → i ≠ 138 → i ≠ 139 → i ≠ 143 → i ≠ 145 → M' 598 i = M0 598 i) → Q none M') : ∀ (M : jm) (a : Int) (o : Int), RI M → RH M → RF M → (∀ (a : Nat) (i : Int), a ≠ 598 → a ≠ 602 → a ≠ 603 → a ≠ 604 → a ≠ 605 → a ≠ 624 → a ≠ 670 → a ≠ 671 → a ≠ 672 → a ≠ 673 → a ≠ 674 → a ≠ 675 → a ≠ 676 → a ≠ 677 → a ≠ 678 → a ≠ 679 → a ≠ 680 → a ≠ 681 → a ≠ 682 → a ≠ 683 → a ≠ 684 → a ≠ 685 → a ≠ 686 → a ≠ 687 → M a i = M0 a i) → (∀ (i : Int), i ≠ 6 → i ≠ 10 → i ≠ 11 → i ≠ 12 → i ≠ 59 → i ≠ 60 → i ≠ 61 → i ≠ 62 → i ≠ 63 → i ≠ 64 → i ≠ 65 → i ≠ 66 → i ≠ 110 → i ≠ 112 → i ≠ 122 → i ≠ 131 → i ≠ 132 → i ≠ 134 → i ≠ 135 → i ≠ 136 → i ≠ 137 → i ≠ 138 → i ≠ 139 → i ≠ 143 → i ≠ 145 → M 598 i = M0 598 i) → (-9223372036854775808) ≤ a ∧ a ≤ 9223372036854775807 → 0 ≤ o ∧ o ≤ 1000 → MX M ht n → FRS M ht n (M 598 122) → 1 ≤ M 598 122 ∧ M 598 122 ≤ 8 → AS M L → L ≤ 1999999999 → (0 ≤ M 598 132 ∧ M 598 132 < n) → M 598 131 = ht (M 598 132) → o = M 654 (M 598 132) → a = M 655 (M 598 132) → (M 598 135 = 0 ∧ M 598 136 = 0) → M = M0 → o = 6 → jr A 9 xm_380 305 [(2, .long (Int64.ofInt (a))), (1, .int (Int32.ofInt (o))), (0, .ref (598))] [] M Q := by
    intro M a o hI_M hH_M hS_M hF_M hG_M h_a h_o hy0 hy1 hy2 hy3 hy4 hy5 hy6 hy7 hy8 hy9 hy10 hy11
    have hyM := hy10
    have ho := hy11
    have hp0 := hy0
    have hp1 := hy1
    have hp2 := hy2
    have hp3 := hy3
    have hp4 := hy4
    have hp5 := hy5
    have hp6 := hy6
    have hp7 := hy7
    have hp8 := hy8
    have hp9 := hy9
    subst hyM
    have p0 := hp0
    have p1 := hp1
    have p2 := hp2
    have p3 := hp3
    have p4 := hp4
    have p5 := hp5
    have p6 := hp6
    have p7 := hp7
    have p8 := hp8
    have p9 := hp9
    have hMX := p0
    have hFR := p1
    have hAS := p3
    obtain ⟨P, hP⟩ : ∃ z, M 598 132 = z := ⟨_, rfl⟩
    rw [hP] at p5 p6 p7 p8
    have nb := hMX.1
    have nb2 := hMX.2.1
    obtain ⟨⟨q1, q2, q3, q4, q5, q6⟩, q7, q8, q9⟩ := hMX.2.2.1 P p5.1 p5.2
    rw [← p7] at q3 q4 q5 q6 q7 q8 q9
    rw [← p8] at q7 q8 q9
    have nd : ndo o = 0 := by
      first | (rw [ho]; decide) | (rcases ho with z | z <;> rw [z] <;> decide)
    have dl : dlo o = 1 := by
      first | (rw [ho]; decide) | (rcases ho with z | z <;> rw [z] <;> decide)
    rw [dl] at q4
    rw [nd] at q5
    clear q7
    have pn : P + 1 < n := by
      by_cases y : P = n - 1
      · exfalso
        have z2 := hMX.2.2.2.2
        rw [← y, ← p7] at z2
        omega
      · omega
    have cN : cr (M 654) (P + 1) = 0 := MX.cr0 hMX (by omega) pn (by rw [show P + 1 - 1 = P by omega, ← p7]; omega)
    obtain ⟨Fv, hFv⟩ : ∃ z, M 598 122 = z := ⟨_, rfl⟩
    obtain ⟨hv, hhv⟩ : ∃ z, M 598 131 = z := ⟨_, rfl⟩
    rw [hhv] at p6
    clear q3
    obtain ⟨st, hst⟩ : ∃ z, M 598 143 = z := ⟨_, rfl⟩
    have bst : (0 : Int) ≤ st ∧ st ≤ 300 := by rw [← hst]; exact hI_M 598 143 (by decide)
    have cl := cr_le (M 654) P
    refine jr.aload_n rfl rfl ?_
    refine jr.getf (i := 130) (v := .ref 686) rfl rfl (by decide) rfl (by decide) rfl rfl rfl rfl ?_
    refine jr.aload_n rfl rfl ?_
    refine jr.getf (i := 131) (x := hv) (v := .int (Int32.ofInt (hv))) rfl rfl (by decide) rfl (by decide) rfl rfl hhv rfl ?_
    refine jr.aload_n rfl rfl ?_
    refine jr.lload_n rfl rfl ?_
    refine jr.l2i rfl ?_
    refine jr.iw (j_w a) (j_w_eq _) ?_
    have b1 : -2147483648 ≤ j_w a ∧ j_w a ≤ 2147483647 := jb_any _
    generalize j_w a = v1 at b1 ⊢
    refine jr_v rfl rfl (Or.inl rfl) rfl rfl (by decide) rfl ⟨rfl, Nat.le_of_ble_eq_true rfl, Nat.le_of_ble_eq_true rfl⟩ rfl (jc.deep (r_first hI_M hH_M hS_M (Kp.rfl _) (by omega)  (fun r2 M2 hI_M2 hH_M2 hS_M2 ht_M2 z2 w2_0 w2_1 w2_2 => ?_)) (by decide))
    refine jr.iconst rfl ?_
    refine jr.icmp_ne rfl rfl (by omega) (by omega) (fun h320 => ?_) (fun h320 => ?_)
    · have sx320 : (0 : Int) ≤ r2 := by omega
      refine jr.lconst (x := 1) rfl (by decide) ?_
      refine jr.last (i := hv) (x := 1) rfl (by decide) rfl (by decide) (by omega) (by omega) ?_
      refine jr.aload_n rfl rfl ?_
      refine jr.dup rfl rfl ?_
      have e3 : M2 598 131 = hv := ((w2_2 131 (by decide) (by decide) (by decide) (by decide)).trans hhv)
      refine jr.getf (i := 131) (x := hv) (v := .int (Int32.ofInt (hv))) rfl rfl (by decide) rfl (by decide) rfl rfl ((ju_c _ _ (by decide)).trans e3) rfl ?_
      refine jr.iconst rfl ?_
      refine jr.iadd rfl ?_
      refine jr.putf (i := 131) (x := (hv + 1)) rfl rfl (by decide) rfl (by decide) rfl rfl rfl rfl rfl ?_
      refine jr.goto rfl rfl ?_
      have e4 : M2 598 122 = Fv := ((w2_2 122 (by decide) (by decide) (by decide) (by decide)).trans hFv)
      have y5 : (ju (ju M2 686 hv 1) 598 131 (hv + 1)) 598 122 = Fv := ((ju_i _ _ (by decide)).trans ((ju_c _ _ (by decide)).trans e4))
      obtain ⟨v6, e6⟩ : ∃ z, M 598 136 = z := ⟨_, rfl⟩
      have b6 : 0 ≤ v6 ∧ v6 ≤ 1 := by rw [← e6]; exact hI_M 598 136 (by decide)
      have e7 : M2 598 136 = v6 := ((w2_2 136 (by decide) (by decide) (by decide) (by decide)).trans e6)
      have e8 : M2 598 132 = P := ((w2_2 132 (by decide) (by decide) (by decide) (by decide)).trans hP)
      obtain ⟨v9, e9⟩ : ∃ z, M 598 135 = z := ⟨_, rfl⟩
      have b9 : 0 ≤ v9 ∧ v9 ≤ 8 := by rw [← e9]; exact hI_M 598 135 (by decide)
      have e10 : M2 598 135 = v9 := ((w2_2 135 (by decide) (by decide) (by decide) (by decide)).trans e9)
      have e11 : M2 598 143 = st := ((w2_2 143 (by decide) (by decide) (by decide) (by decide)).trans hst)
      refine jr.pick [2] rfl rfl ?_
      exact r_act_L487 (L := L) (n := n) (ht := ht) q (ju (ju M2 686 hv 1) 598 131 (hv + 1))  (RI.u (RI.u hI_M2 (a := 686) (i := hv) (by rw [xri_row rfl rfl]; show (-9223372036854775808 : Int) ≤ _ ∧ _ ≤ (9223372036854775807 : Int); omega)) (a := 598) (i := 131) (show (0 : Int) ≤ _ ∧ _ ≤ (400 : Int) from by omega)) (RH.o (RH.o hH_M2 (by decide) (by decide) (by decide)) (by decide) (by decide) (by decide)) (RF.o (RF.o hS_M2 (by decide) (by decide)) (by decide) (by decide))  (fun a i f598 f602 f603 f604 f605 f624 f670 f671 f672 f673 f674 f675 f676 f677 f678 f679 f680 f681 f682 f683 f684 f685 f686 f687 => ((ju_c _ _ f598).trans ((ju_c _ _ f686).trans ((w2_1 a i f598 f603 f604 f605).trans (hF_M a i f598 f602 f603 f604 f605 f624 f670 f671 f672 f673 f674 f675 f676 f677 f678 f679 f680 f681 f682 f683 f684 f685 f686 f687))))) (fun i g6 g10 g11 g12 g59 g60 g61 g62 g63 g64 g65 g66 g110 g112 g122 g131 g132 g134 g135 g136 g137 g138 g139 g143 g145 => ((ju_i _ _ g131).trans ((ju_c _ _ (by decide)).trans ((w2_2 i g6 g10 g11 g12).trans (hG_M i g6 g10 g11 g12 g59 g60 g61 g62 g63 g64 g65 g66 g110 g112 g122 g131 g132 g134 g135 g136 g137 g138 g139 g143 g145)))))  (FRS.fr hFR (fun i => ((ju_c _ _ (by decide)).trans ((ju_c _ _ (by decide)).trans ((w2_1 679 i (by decide) (by decide) (by decide) (by decide)).trans (rfl))))) (fun i => ((ju_c _ _ (by decide)).trans ((ju_c _ _ (by decide)).trans ((w2_1 681 i (by decide) (by decide) (by decide) (by decide)).trans (rfl))))) (fun i => ((ju_c _ _ (by decide)).trans ((ju_c _ _ (by decide)).trans ((w2_1 654 i (by decide) (by decide) (by decide) (by decide)).trans (rfl))))) ((ju_i _ _ (by decide)).trans ((ju_c _ _ (by decide)).trans ((w2_2 82 (by decide) (by decide) (by decide) (by decide)).trans (rfl)))) (by omega)) (AS.up (AS.o (AS.o (AS.fr hAS (fun i => (ht_M2 685 i rfl)) (ht_M2 598 112 rfl)) (by decide) (Or.inl (by decide))) (by decide) (Or.inr (by decide))) (by omega)) (by rw [((ju_i _ _ (by decide)).trans ((ju_c _ _ (by decide)).trans e4))] <;> omega) (phi.fr (M := M) (M' := (ju (ju M2 686 hv 1) 598 131 (hv + 1))) ((ju_i _ _ (by decide)).trans ((ju_c _ _ (by decide)).trans ((w2_2 122 (by decide) (by decide) (by decide) (by decide)).trans (rfl)))) (fun i => ((ju_c _ _ (by decide)).trans ((ju_c _ _ (by decide)).trans ((w2_1 680 i (by decide) (by decide) (by decide) (by decide)).trans (rfl)))))) (by rw [((ju_i _ _ (by decide)).trans ((ju_c _ _ (by decide)).trans e7))] <;> omega) (by rw [((ju_i _ _ (by decide)).trans ((ju_c _ _ (by decide)).trans e8))] <;> omega) (by omega) (fun _ => by rw [(ju_same _ _ _ _), hP, q4]; omega) (by rw [((ju_i _ _ (by decide)).trans ((ju_c _ _ (by decide)).trans e11)), ((ju_i _ _ (by decide)).trans ((ju_c _ _ (by decide)).trans e10)), hst, hP]; first | (exact Or.inl ⟨by omega, cN⟩) | (exact Or.inr ⟨by omega, by omega⟩))
    · refine jr.lconst (x := 0) rfl (by decide) ?_
      refine jr.goto rfl rfl ?_
      refine jr.last (i := hv) (x := 0) rfl (by decide) rfl (by decide) (by omega) (by omega) ?_
      refine jr.aload_n rfl rfl ?_
      refine jr.dup rfl rfl ?_
      have e12 : M2 598 131 = hv := ((w2_2 131 (by decide) (by decide) (by decide) (by decide)).trans hhv)
      refine jr.getf (i := 131) (x := hv) (v := .int (Int32.ofInt (hv))) rfl rfl (by decide) rfl (by decide) rfl rfl ((ju_c _ _ (by decide)).trans e12) rfl ?_
      refine jr.iconst rfl ?_
      refine jr.iadd rfl ?_
      refine jr.putf (i := 131) (x := (hv + 1)) rfl rfl (by decide) rfl (by decide) rfl rfl rfl rfl rfl ?_
      refine jr.goto rfl rfl ?_
      have e13 : M2 598 122 = Fv := ((w2_2 122 (by decide) (by decide) (by decide) (by decide)).trans hFv)
      have y14 : (ju (ju M2 686 hv 0) 598 131 (hv + 1)) 598 122 = Fv := ((ju_i _ _ (by decide)).trans ((ju_c _ _ (by decide)).trans e13))
      obtain ⟨v15, e15⟩ : ∃ z, M 598 136 = z := ⟨_, rfl⟩
      have b15 : 0 ≤ v15 ∧ v15 ≤ 1 := by rw [← e15]; exact hI_M 598 136 (by decide)
      have e16 : M2 598 136 = v15 := ((w2_2 136 (by decide) (by decide) (by decide) (by decide)).trans e15)
      have e17 : M2 598 132 = P := ((w2_2 132 (by decide) (by decide) (by decide) (by decide)).trans hP)
      obtain ⟨v18, e18⟩ : ∃ z, M 598 135 = z := ⟨_, rfl⟩
      have b18 : 0 ≤ v18 ∧ v18 ≤ 8 := by rw [← e18]; exact hI_M 598 135 (by decide)
      have e19 : M2 598 135 = v18 := ((w2_2 135 (by decide) (by decide) (by decide) (by decide)).trans e18)
      have e20 : M2 598 143 = st := ((w2_2 143 (by decide) (by decide) (by decide) (by decide)).trans hst)
      refine jr.pick [2] rfl rfl ?_
      exact r_act_L487 (L := L) (n := n) (ht := ht) q (ju (ju M2 686 hv 0) 598 131 (hv + 1))  (RI.u (RI.u hI_M2 (a := 686) (i := hv) (by rw [xri_row rfl rfl]; show (-9223372036854775808 : Int) ≤ _ ∧ _ ≤ (9223372036854775807 : Int); omega)) (a := 598) (i := 131) (show (0 : Int) ≤ _ ∧ _ ≤ (400 : Int) from by omega)) (RH.o (RH.o hH_M2 (by decide) (by decide) (by decide)) (by decide) (by decide) (by decide)) (RF.o (RF.o hS_M2 (by decide) (by decide)) (by decide) (by decide))  (fun a i f598 f602 f603 f604 f605 f624 f670 f671 f672 f673 f674 f675 f676 f677 f678 f679 f680 f681 f682 f683 f684 f685 f686 f687 => ((ju_c _ _ f598).trans ((ju_c _ _ f686).trans ((w2_1 a i f598 f603 f604 f605).trans (hF_M a i f598 f602 f603 f604 f605 f624 f670 f671 f672 f673 f674 f675 f676 f677 f678 f679 f680 f681 f682 f683 f684 f685 f686 f687))))) (fun i g6 g10 g11 g12 g59 g60 g61 g62 g63 g64 g65 g66 g110 g112 g122 g131 g132 g134 g135 g136 g137 g138 g139 g143 g145 => ((ju_i _ _ g131).trans ((ju_c _ _ (by decide)).trans ((w2_2 i g6 g10 g11 g12).trans (hG_M i g6 g10 g11 g12 g59 g60 g61 g62 g63 g64 g65 g66 g110 g112 g122 g131 g132 g134 g135 g136 g137 g138 g139 g143 g145)))))  (FRS.fr hFR (fun i => ((ju_c _ _ (by decide)).trans ((ju_c _ _ (by decide)).trans ((w2_1 679 i (by decide) (by decide) (by decide) (by decide)).trans (rfl))))) (fun i => ((ju_c _ _ (by decide)).trans ((ju_c _ _ (by decide)).trans ((w2_1 681 i (by decide) (by decide) (by decide) (by decide)).trans (rfl))))) (fun i => ((ju_c _ _ (by decide)).trans ((ju_c _ _ (by decide)).trans ((w2_1 654 i (by decide) (by decide) (by decide) (by decide)).trans (rfl))))) ((ju_i _ _ (by decide)).trans ((ju_c _ _ (by decide)).trans ((w2_2 82 (by decide) (by decide) (by decide) (by decide)).trans (rfl)))) (by omega)) (AS.up (AS.o (AS.o (AS.fr hAS (fun i => (ht_M2 685 i rfl)) (ht_M2 598 112 rfl)) (by decide) (Or.inl (by decide))) (by decide) (Or.inr (by decide))) (by omega)) (by rw [((ju_i _ _ (by decide)).trans ((ju_c _ _ (by decide)).trans e13))] <;> omega) (phi.fr (M := M) (M' := (ju (ju M2 686 hv 0) 598 131 (hv + 1))) ((ju_i _ _ (by decide)).trans ((ju_c _ _ (by decide)).trans ((w2_2 122 (by decide) (by decide) (by decide) (by decide)).trans (rfl)))) (fun i => ((ju_c _ _ (by decide)).trans ((ju_c _ _ (by decide)).trans ((w2_1 680 i (by decide) (by decide) (by decide) (by decide)).trans (rfl)))))) (by rw [((ju_i _ _ (by decide)).trans ((ju_c _ _ (by decide)).trans e16))] <;> omega) (by rw [((ju_i _ _ (by decide)).trans ((ju_c _ _ (by decide)).trans e17))] <;> omega) (by omega) (fun _ => by rw [(ju_same _ _ _ _), hP, q4]; omega) (by rw [((ju_i _ _ (by decide)).trans ((ju_c _ _ (by decide)).trans e20)), ((ju_i _ _ (by decide)).trans ((ju_c _ _ (by decide)).trans e19)), hst, hP]; first | (exact Or.inl ⟨by omega, cN⟩) | (exact Or.inr ⟨by omega, by omega⟩))
theorem r_act_L269 {A : Nat → Option (Nat × (Nat → Int32))} {Q : Option Value → jm → Prop} {L n : Int} {ht : Int → Int} {M0 : jm} (q : ∀ (M' : jm), RI M' → RH M' → RF M' → AS M' (L + 1) → ((M' 598 136 = 1 ∧ M' 598 135 = 0) ∨ (M' 598 136 = 0 ∧ FRS M' ht n (M' 598 122) ∧ 1 ≤ M' 598 122 ∧ M' 598 122 ≤ 8 ∧ ((M' 598 135 ≠ 0 ∧ phi M' = phi M0 ∧ M' 598 143 = M0 598 143) ∨ (M' 598 135 = 0 ∧ 0 ≤ M' 598 132 ∧ M' 598 132 < n ∧ M' 598 131 = ht (M' 598 132) ∧ mu M' < mu M0)))) → (∀ (a : Nat) (i : Int), a ≠ 598 → a ≠ 602 → a ≠ 603 → a ≠ 604 → a ≠ 605 → a ≠ 624 → a ≠ 670 → a ≠ 671 → a ≠ 672 → a ≠ 673 → a ≠ 674 → a ≠ 675 → a ≠ 676 → a ≠ 677 → a ≠ 678 → a ≠ 679 → a ≠ 680 → a ≠ 681 → a ≠ 682 → a ≠ 683 → a ≠ 684 → a ≠ 685 → a ≠ 686 → a ≠ 687 → M' a i = M0 a i) → (∀ (i : Int), i ≠ 6 → i ≠ 10 → i ≠ 11 → i ≠ 12 → i ≠ 59 → i ≠ 60 → i ≠ 61 → i ≠ 62 → i ≠ 63 → i ≠ 64 → i ≠ 65 → i ≠ 66 → i ≠ 110 → i ≠ 112 → i ≠ 122 → i ≠ 131 → i ≠ 132 → i ≠ 134 → i ≠ 135 → i ≠ 136 → i ≠ 137 → i ≠ 138 → i ≠ 139 → i ≠ 143 → i ≠ 145 → M' 598 i = M0 598 i) → Q none M') : ∀ (M : jm) (a : Int) (o : Int), RI M → RH M → RF M → (∀ (a : Nat) (i : Int), a ≠ 598 → a ≠ 602 → a ≠ 603 → a ≠ 604 → a ≠ 605 → a ≠ 624 → a ≠ 670 → a ≠ 671 → a ≠ 672 → a ≠ 673 → a ≠ 674 → a ≠ 675 → a ≠ 676 → a ≠ 677 → a ≠ 678 → a ≠ 679 → a ≠ 680 → a ≠ 681 → a ≠ 682 → a ≠ 683 → a ≠ 684 → a ≠ 685 → a ≠ 686 → a ≠ 687 → M a i = M0 a i) → (∀ (i : Int), i ≠ 6 → i ≠ 10 → i ≠ 11 → i ≠ 12 → i ≠ 59 → i ≠ 60 → i ≠ 61 → i ≠ 62 → i ≠ 63 → i ≠ 64 → i ≠ 65 → i ≠ 66 → i ≠ 110 → i ≠ 112 → i ≠ 122 → i ≠ 131 → i ≠ 132 → i ≠ 134 → i ≠ 135 → i ≠ 136 → i ≠ 137 → i ≠ 138 → i ≠ 139 → i ≠ 143 → i ≠ 145 → M 598 i = M0 598 i) → (-9223372036854775808) ≤ a ∧ a ≤ 9223372036854775807 → 0 ≤ o ∧ o ≤ 1000 → MX M ht n → FRS M ht n (M 598 122) → 1 ≤ M 598 122 ∧ M 598 122 ≤ 8 → AS M L → L ≤ 1999999999 → (0 ≤ M 598 132 ∧ M 598 132 < n) → M 598 131 = ht (M 598 132) → o = M 654 (M 598 132) → a = M 655 (M 598 132) → (M 598 135 = 0 ∧ M 598 136 = 0) → M = M0 → o = 5 → jr A 9 xm_380 269 [(2, .long (Int64.ofInt (a))), (1, .int (Int32.ofInt (o))), (0, .ref (598))] [] M Q := by
    intro M a o hI_M hH_M hS_M hF_M hG_M h_a h_o hy0 hy1 hy2 hy3 hy4 hy5 hy6 hy7 hy8 hy9 hy10 hy11
    have hyM := hy10
    have ho := hy11
    have hp0 := hy0
    have hp1 := hy1
    have hp2 := hy2
    have hp3 := hy3
    have hp4 := hy4
    have hp5 := hy5
    have hp6 := hy6
    have hp7 := hy7
    have hp8 := hy8
    have hp9 := hy9
    subst hyM
    have p0 := hp0
    have p1 := hp1
    have p2 := hp2
    have p3 := hp3
    have p4 := hp4
    have p5 := hp5
    have p6 := hp6
    have p7 := hp7
    have p8 := hp8
    have p9 := hp9
    have hMX := p0
    have hFR := p1
    have hAS := p3
    obtain ⟨P, hP⟩ : ∃ z, M 598 132 = z := ⟨_, rfl⟩
    rw [hP] at p5 p6 p7 p8
    have nb := hMX.1
    have nb2 := hMX.2.1
    obtain ⟨⟨q1, q2, q3, q4, q5, q6⟩, q7, q8, q9⟩ := hMX.2.2.1 P p5.1 p5.2
    rw [← p7] at q3 q4 q5 q6 q7 q8 q9
    rw [← p8] at q7 q8 q9
    have nd : ndo o = 0 := by
      first | (rw [ho]; decide) | (rcases ho with z | z <;> rw [z] <;> decide)
    have dl : dlo o = 1 := by
      first | (rw [ho]; decide) | (rcases ho with z | z <;> rw [z] <;> decide)
    rw [dl] at q4
    rw [nd] at q5
    clear q7
    have pn : P + 1 < n := by
      by_cases y : P = n - 1
      · exfalso
        have z2 := hMX.2.2.2.2
        rw [← y, ← p7] at z2
        omega
      · omega
    have cN : cr (M 654) (P + 1) = 0 := MX.cr0 hMX (by omega) pn (by rw [show P + 1 - 1 = P by omega, ← p7]; omega)
    have fv : 0 ≤ a ∧ a ≤ 218 := by
      obtain ⟨k, f, e, f0, f1, k0, k1, k2, k3⟩ := q8 ho
      omega
    obtain ⟨Fv, hFv⟩ : ∃ z, M 598 122 = z := ⟨_, rfl⟩
    obtain ⟨hv, hhv⟩ : ∃ z, M 598 131 = z := ⟨_, rfl⟩
    rw [hhv] at p6
    clear q3
    obtain ⟨st, hst⟩ : ∃ z, M 598 143 = z := ⟨_, rfl⟩
    have bst : (0 : Int) ≤ st ∧ st ≤ 300 := by rw [← hst]; exact hI_M 598 143 (by decide)
    have cl := cr_le (M 654) P
    refine jr.aload_n rfl rfl ?_
    refine jr.getf (i := 130) (v := .ref 686) rfl rfl (by decide) rfl (by decide) rfl rfl rfl rfl ?_
    refine jr.aload_n rfl rfl ?_
    refine jr.getf (i := 131) (x := hv) (v := .int (Int32.ofInt (hv))) rfl rfl (by decide) rfl (by decide) rfl rfl hhv rfl ?_
    refine jr.aload_n rfl rfl ?_
    refine jr.lload_n rfl rfl ?_
    refine jr.l2i rfl ?_
    refine jr.bipush rfl (by decide) ?_
    refine jr.idiv rfl (by decide) ?_
    have b1 : j_div a 16 = a / 16 := j_div_ex (by omega) (by omega)
    generalize j_div a 16 = v1 at b1 ⊢
    refine jr.lload_n rfl rfl ?_
    refine jr.l2i rfl ?_
    refine jr.bipush rfl (by decide) ?_
    refine jr.irem rfl (by decide) ?_
    have b2 : j_rem a 16 = a % 16 := j_rem_ex (by omega) (by omega)
    generalize j_rem a 16 = v2 at b2 ⊢
    refine jr_v rfl rfl (Or.inl rfl) rfl rfl (by decide) rfl ⟨rfl, Nat.le_of_ble_eq_true rfl, Nat.le_of_ble_eq_true rfl⟩ rfl (jc.deep (r_fieldOf hI_M hH_M hS_M  (by omega) (by omega) (by obtain ⟨k, f, e, f0, f1, k0, k1, k2, k3⟩ := q8 (by omega); have e1 : v1 = k := (by omega); have e2 : v2 = f := (by omega); rw [e1, e2]; exact ⟨k2, k3⟩) (fun r3 M3 hI_M3 hH_M3 hS_M3  z3 w3_0 w3_1 => ?_)) (by decide))
    refine jr.last (i := hv) (x := r3) rfl (by decide) rfl (by decide) (by omega) (by omega) ?_
    refine jr.aload_n rfl rfl ?_
    refine jr.dup rfl rfl ?_
    have e4 : M3 598 131 = hv := ((w3_1 131 (by decide) (by decide) (by decide) (by decide) (by decide)).trans hhv)
    refine jr.getf (i := 131) (x := hv) (v := .int (Int32.ofInt (hv))) rfl rfl (by decide) rfl (by decide) rfl rfl ((ju_c _ _ (by decide)).trans e4) rfl ?_
    refine jr.iconst rfl ?_
    refine jr.iadd rfl ?_
    refine jr.putf (i := 131) (x := (hv + 1)) rfl rfl (by decide) rfl (by decide) rfl rfl rfl rfl rfl ?_
    refine jr.goto rfl rfl ?_
    have e5 : M3 598 122 = Fv := ((w3_1 122 (by decide) (by decide) (by decide) (by decide) (by decide)).trans hFv)
    have y6 : (ju (ju M3 686 hv r3) 598 131 (hv + 1)) 598 122 = Fv := ((ju_i _ _ (by decide)).trans ((ju_c _ _ (by decide)).trans e5))
    obtain ⟨v7, e7⟩ : ∃ z, M 598 136 = z := ⟨_, rfl⟩
    have b7 : 0 ≤ v7 ∧ v7 ≤ 1 := by rw [← e7]; exact hI_M 598 136 (by decide)
    have e8 : M3 598 136 = v7 := ((w3_1 136 (by decide) (by decide) (by decide) (by decide) (by decide)).trans e7)
    have e9 : M3 598 132 = P := ((w3_1 132 (by decide) (by decide) (by decide) (by decide) (by decide)).trans hP)
    obtain ⟨v10, e10⟩ : ∃ z, M3 598 135 = z := ⟨_, rfl⟩
    have b10 : 0 ≤ v10 ∧ v10 ≤ 8 := by rw [← e10]; exact hI_M3 598 135 (by decide)
    have e11 : M3 598 143 = st := ((w3_1 143 (by decide) (by decide) (by decide) (by decide) (by decide)).trans hst)
    refine jr.pick [2] rfl rfl ?_
    exact r_act_L487 (L := L) (n := n) (ht := ht) q (ju (ju M3 686 hv r3) 598 131 (hv + 1))  (RI.u (RI.u hI_M3 (a := 686) (i := hv) (by rw [xri_row rfl rfl]; show (-9223372036854775808 : Int) ≤ _ ∧ _ ≤ (9223372036854775807 : Int); omega)) (a := 598) (i := 131) (show (0 : Int) ≤ _ ∧ _ ≤ (400 : Int) from by omega)) (RH.o (RH.o hH_M3 (by decide) (by decide) (by decide)) (by decide) (by decide) (by decide)) (RF.o (RF.o hS_M3 (by decide) (by decide)) (by decide) (by decide))  (fun a i f598 f602 f603 f604 f605 f624 f670 f671 f672 f673 f674 f675 f676 f677 f678 f679 f680 f681 f682 f683 f684 f685 f686 f687 => ((ju_c _ _ f598).trans ((ju_c _ _ f686).trans ((w3_0 a i f598 f603 f604 f605).trans (hF_M a i f598 f602 f603 f604 f605 f624 f670 f671 f672 f673 f674 f675 f676 f677 f678 f679 f680 f681 f682 f683 f684 f685 f686 f687))))) (fun i g6 g10 g11 g12 g59 g60 g61 g62 g63 g64 g65 g66 g110 g112 g122 g131 g132 g134 g135 g136 g137 g138 g139 g143 g145 => ((ju_i _ _ g131).trans ((ju_c _ _ (by decide)).trans ((w3_1 i g6 g10 g11 g12 g135).trans (hG_M i g6 g10 g11 g12 g59 g60 g61 g62 g63 g64 g65 g66 g110 g112 g122 g131 g132 g134 g135 g136 g137 g138 g139 g143 g145)))))  (FRS.fr hFR (fun i => ((ju_c _ _ (by decide)).trans ((ju_c _ _ (by decide)).trans ((w3_0 679 i (by decide) (by decide) (by decide) (by decide)).trans (rfl))))) (fun i => ((ju_c _ _ (by decide)).trans ((ju_c _ _ (by decide)).trans ((w3_0 681 i (by decide) (by decide) (by decide) (by decide)).trans (rfl))))) (fun i => ((ju_c _ _ (by decide)).trans ((ju_c _ _ (by decide)).trans ((w3_0 654 i (by decide) (by decide) (by decide) (by decide)).trans (rfl))))) ((ju_i _ _ (by decide)).trans ((ju_c _ _ (by decide)).trans ((w3_1 82 (by decide) (by decide) (by decide) (by decide) (by decide)).trans (rfl)))) (by omega)) (AS.up (AS.o (AS.o (AS.fr hAS (fun i => w3_0 685 i (by decide) (by decide) (by decide) (by decide)) (w3_1 112 (by decide) (by decide) (by decide) (by decide) (by decide))) (by decide) (Or.inl (by decide))) (by decide) (Or.inr (by decide))) (by omega)) (by rw [((ju_i _ _ (by decide)).trans ((ju_c _ _ (by decide)).trans e5))] <;> omega) (phi.fr (M := M) (M' := (ju (ju M3 686 hv r3) 598 131 (hv + 1))) ((ju_i _ _ (by decide)).trans ((ju_c _ _ (by decide)).trans ((w3_1 122 (by decide) (by decide) (by decide) (by decide) (by decide)).trans (rfl)))) (fun i => ((ju_c _ _ (by decide)).trans ((ju_c _ _ (by decide)).trans ((w3_0 680 i (by decide) (by decide) (by decide) (by decide)).trans (rfl)))))) (by rw [((ju_i _ _ (by decide)).trans ((ju_c _ _ (by decide)).trans e8))] <;> omega) (by rw [((ju_i _ _ (by decide)).trans ((ju_c _ _ (by decide)).trans e9))] <;> omega) (by omega) (fun _ => by rw [(ju_same _ _ _ _), hP, q4]; omega) (by rw [((ju_i _ _ (by decide)).trans ((ju_c _ _ (by decide)).trans e11)), ((ju_i _ _ (by decide)).trans ((ju_c _ _ (by decide)).trans e10)), hst, hP]; first | (exact Or.inl ⟨by omega, cN⟩) | (exact Or.inr ⟨by omega, by omega⟩))
theorem r_act_L246 {A : Nat → Option (Nat × (Nat → Int32))} {Q : Option Value → jm → Prop} {L n : Int} {ht : Int → Int} {M0 : jm} (q : ∀ (M' : jm), RI M' → RH M' → RF M' → AS M' (L + 1) → ((M' 598 136 = 1 ∧ M' 598 135 = 0) ∨ (M' 598 136 = 0 ∧ FRS M' ht n (M' 598 122) ∧ 1 ≤ M' 598 122 ∧ M' 598 122 ≤ 8 ∧ ((M' 598 135 ≠ 0 ∧ phi M' = phi M0 ∧ M' 598 143 = M0 598 143) ∨ (M' 598 135 = 0 ∧ 0 ≤ M' 598 132 ∧ M' 598 132 < n ∧ M' 598 131 = ht (M' 598 132) ∧ mu M' < mu M0)))) → (∀ (a : Nat) (i : Int), a ≠ 598 → a ≠ 602 → a ≠ 603 → a ≠ 604 → a ≠ 605 → a ≠ 624 → a ≠ 670 → a ≠ 671 → a ≠ 672 → a ≠ 673 → a ≠ 674 → a ≠ 675 → a ≠ 676 → a ≠ 677 → a ≠ 678 → a ≠ 679 → a ≠ 680 → a ≠ 681 → a ≠ 682 → a ≠ 683 → a ≠ 684 → a ≠ 685 → a ≠ 686 → a ≠ 687 → M' a i = M0 a i) → (∀ (i : Int), i ≠ 6 → i ≠ 10 → i ≠ 11 → i ≠ 12 → i ≠ 59 → i ≠ 60 → i ≠ 61 → i ≠ 62 → i ≠ 63 → i ≠ 64 → i ≠ 65 → i ≠ 66 → i ≠ 110 → i ≠ 112 → i ≠ 122 → i ≠ 131 → i ≠ 132 → i ≠ 134 → i ≠ 135 → i ≠ 136 → i ≠ 137 → i ≠ 138 → i ≠ 139 → i ≠ 143 → i ≠ 145 → M' 598 i = M0 598 i) → Q none M') : ∀ (M : jm) (a : Int) (o : Int), RI M → RH M → RF M → (∀ (a : Nat) (i : Int), a ≠ 598 → a ≠ 602 → a ≠ 603 → a ≠ 604 → a ≠ 605 → a ≠ 624 → a ≠ 670 → a ≠ 671 → a ≠ 672 → a ≠ 673 → a ≠ 674 → a ≠ 675 → a ≠ 676 → a ≠ 677 → a ≠ 678 → a ≠ 679 → a ≠ 680 → a ≠ 681 → a ≠ 682 → a ≠ 683 → a ≠ 684 → a ≠ 685 → a ≠ 686 → a ≠ 687 → M a i = M0 a i) → (∀ (i : Int), i ≠ 6 → i ≠ 10 → i ≠ 11 → i ≠ 12 → i ≠ 59 → i ≠ 60 → i ≠ 61 → i ≠ 62 → i ≠ 63 → i ≠ 64 → i ≠ 65 → i ≠ 66 → i ≠ 110 → i ≠ 112 → i ≠ 122 → i ≠ 131 → i ≠ 132 → i ≠ 134 → i ≠ 135 → i ≠ 136 → i ≠ 137 → i ≠ 138 → i ≠ 139 → i ≠ 143 → i ≠ 145 → M 598 i = M0 598 i) → (-9223372036854775808) ≤ a ∧ a ≤ 9223372036854775807 → 0 ≤ o ∧ o ≤ 1000 → MX M ht n → FRS M ht n (M 598 122) → 1 ≤ M 598 122 ∧ M 598 122 ≤ 8 → AS M L → L ≤ 1999999999 → (0 ≤ M 598 132 ∧ M 598 132 < n) → M 598 131 = ht (M 598 132) → o = M 654 (M 598 132) → a = M 655 (M 598 132) → (M 598 135 = 0 ∧ M 598 136 = 0) → M = M0 → o = 4 → jr A 9 xm_380 246 [(2, .long (Int64.ofInt (a))), (1, .int (Int32.ofInt (o))), (0, .ref (598))] [] M Q := by
    intro M a o hI_M hH_M hS_M hF_M hG_M h_a h_o hy0 hy1 hy2 hy3 hy4 hy5 hy6 hy7 hy8 hy9 hy10 hy11
    have hyM := hy10
    have ho := hy11
    have hp0 := hy0
    have hp1 := hy1
    have hp2 := hy2
    have hp3 := hy3
    have hp4 := hy4
    have hp5 := hy5
    have hp6 := hy6
    have hp7 := hy7
    have hp8 := hy8
    have hp9 := hy9
    subst hyM
    have p0 := hp0
    have p1 := hp1
    have p2 := hp2
    have p3 := hp3
    have p4 := hp4
    have p5 := hp5
    have p6 := hp6
    have p7 := hp7
    have p8 := hp8
    have p9 := hp9
    have hMX := p0
    have hFR := p1
    have hAS := p3
    obtain ⟨P, hP⟩ : ∃ z, M 598 132 = z := ⟨_, rfl⟩
    rw [hP] at p5 p6 p7 p8
    have nb := hMX.1
    have nb2 := hMX.2.1
    obtain ⟨⟨q1, q2, q3, q4, q5, q6⟩, q7, q8, q9⟩ := hMX.2.2.1 P p5.1 p5.2
    rw [← p7] at q3 q4 q5 q6 q7 q8 q9
    rw [← p8] at q7 q8 q9
    have nd : ndo o = 0 := by
      first | (rw [ho]; decide) | (rcases ho with z | z <;> rw [z] <;> decide)
    have dl : dlo o = 1 := by
      first | (rw [ho]; decide) | (rcases ho with z | z <;> rw [z] <;> decide)
    rw [dl] at q4
    rw [nd] at q5
    clear q7
    have pn : P + 1 < n := by
      by_cases y : P = n - 1
      · exfalso
        have z2 := hMX.2.2.2.2
        rw [← y, ← p7] at z2
        omega
      · omega
    have cN : cr (M 654) (P + 1) = 0 := MX.cr0 hMX (by omega) pn (by rw [show P + 1 - 1 = P by omega, ← p7]; omega)
    obtain ⟨Fv, hFv⟩ : ∃ z, M 598 122 = z := ⟨_, rfl⟩
    obtain ⟨hv, hhv⟩ : ∃ z, M 598 131 = z := ⟨_, rfl⟩
    rw [hhv] at p6
    clear q3
    obtain ⟨st, hst⟩ : ∃ z, M 598 143 = z := ⟨_, rfl⟩
    have bst : (0 : Int) ≤ st ∧ st ≤ 300 := by rw [← hst]; exact hI_M 598 143 (by decide)
    have cl := cr_le (M 654) P
    refine jr.aload_n rfl rfl ?_
    refine jr.getf (i := 130) (v := .ref 686) rfl rfl (by decide) rfl (by decide) rfl rfl rfl rfl ?_
    refine jr.aload_n rfl rfl ?_
    refine jr.getf (i := 131) (x := hv) (v := .int (Int32.ofInt (hv))) rfl rfl (by decide) rfl (by decide) rfl rfl hhv rfl ?_
    refine jr.lload_n rfl rfl ?_
    refine jr.last (i := hv) (x := a) rfl (by decide) rfl (by decide) (by omega) (by omega) ?_
    refine jr.aload_n rfl rfl ?_
    refine jr.dup rfl rfl ?_
    refine jr.getf (i := 131) (x := hv) (v := .int (Int32.ofInt (hv))) rfl rfl (by decide) rfl (by decide) rfl rfl ((ju_c _ _ (by decide)).trans hhv) rfl ?_
    refine jr.iconst rfl ?_
    refine jr.iadd rfl ?_
    refine jr.putf (i := 131) (x := (hv + 1)) rfl rfl (by decide) rfl (by decide) rfl rfl rfl rfl rfl ?_
    refine jr.goto rfl rfl ?_
    have y1 : (ju (ju M 686 hv a) 598 131 (hv + 1)) 598 122 = Fv := ((ju_i _ _ (by decide)).trans ((ju_c _ _ (by decide)).trans hFv))
    obtain ⟨v2, e2⟩ : ∃ z, M 598 136 = z := ⟨_, rfl⟩
    have b2 : 0 ≤ v2 ∧ v2 ≤ 1 := by rw [← e2]; exact hI_M 598 136 (by decide)
    obtain ⟨v3, e3⟩ : ∃ z, M 598 135 = z := ⟨_, rfl⟩
    have b3 : 0 ≤ v3 ∧ v3 ≤ 8 := by rw [← e3]; exact hI_M 598 135 (by decide)
    refine jr.pick [2] rfl rfl ?_
    exact r_act_L487 (L := L) (n := n) (ht := ht) q (ju (ju M 686 hv a) 598 131 (hv + 1))  (RI.u (RI.u hI_M (a := 686) (i := hv) (by rw [xri_row rfl rfl]; show (-9223372036854775808 : Int) ≤ _ ∧ _ ≤ (9223372036854775807 : Int); omega)) (a := 598) (i := 131) (show (0 : Int) ≤ _ ∧ _ ≤ (400 : Int) from by omega)) (RH.o (RH.o hH_M (by decide) (by decide) (by decide)) (by decide) (by decide) (by decide)) (RF.o (RF.o hS_M (by decide) (by decide)) (by decide) (by decide))  (fun a i f598 f602 f603 f604 f605 f624 f670 f671 f672 f673 f674 f675 f676 f677 f678 f679 f680 f681 f682 f683 f684 f685 f686 f687 => ((ju_c _ _ f598).trans ((ju_c _ _ f686).trans (hF_M a i f598 f602 f603 f604 f605 f624 f670 f671 f672 f673 f674 f675 f676 f677 f678 f679 f680 f681 f682 f683 f684 f685 f686 f687)))) (fun i g6 g10 g11 g12 g59 g60 g61 g62 g63 g64 g65 g66 g110 g112 g122 g131 g132 g134 g135 g136 g137 g138 g139 g143 g145 => ((ju_i _ _ g131).trans ((ju_c _ _ (by decide)).trans (hG_M i g6 g10 g11 g12 g59 g60 g61 g62 g63 g64 g65 g66 g110 g112 g122 g131 g132 g134 g135 g136 g137 g138 g139 g143 g145))))  (FRS.fr hFR (fun i => ((ju_c _ _ (by decide)).trans ((ju_c _ _ (by decide)).trans (rfl)))) (fun i => ((ju_c _ _ (by decide)).trans ((ju_c _ _ (by decide)).trans (rfl)))) (fun i => ((ju_c _ _ (by decide)).trans ((ju_c _ _ (by decide)).trans (rfl)))) ((ju_i _ _ (by decide)).trans ((ju_c _ _ (by decide)).trans (rfl))) (by omega)) (AS.up (AS.o (AS.o hAS (by decide) (Or.inl (by decide))) (by decide) (Or.inr (by decide))) (by omega)) (by rw [((ju_i _ _ (by decide)).trans ((ju_c _ _ (by decide)).trans hFv))] <;> omega) (phi.fr (M := M) (M' := (ju (ju M 686 hv a) 598 131 (hv + 1))) ((ju_i _ _ (by decide)).trans ((ju_c _ _ (by decide)).trans (rfl))) (fun i => ((ju_c _ _ (by decide)).trans ((ju_c _ _ (by decide)).trans (rfl))))) (by rw [((ju_i _ _ (by decide)).trans ((ju_c _ _ (by decide)).trans e2))] <;> omega) (by rw [((ju_i _ _ (by decide)).trans ((ju_c _ _ (by decide)).trans hP))] <;> omega) (by omega) (fun _ => by rw [(ju_same _ _ _ _), hP, q4]; omega) (by rw [((ju_i _ _ (by decide)).trans ((ju_c _ _ (by decide)).trans hst)), ((ju_i _ _ (by decide)).trans ((ju_c _ _ (by decide)).trans e3)), hst, hP]; first | (exact Or.inl ⟨by omega, cN⟩) | (exact Or.inr ⟨by omega, by omega⟩))
theorem r_act_L166 {A : Nat → Option (Nat × (Nat → Int32))} {Q : Option Value → jm → Prop} {L n : Int} {ht : Int → Int} {M0 : jm} (q : ∀ (M' : jm), RI M' → RH M' → RF M' → AS M' (L + 1) → ((M' 598 136 = 1 ∧ M' 598 135 = 0) ∨ (M' 598 136 = 0 ∧ FRS M' ht n (M' 598 122) ∧ 1 ≤ M' 598 122 ∧ M' 598 122 ≤ 8 ∧ ((M' 598 135 ≠ 0 ∧ phi M' = phi M0 ∧ M' 598 143 = M0 598 143) ∨ (M' 598 135 = 0 ∧ 0 ≤ M' 598 132 ∧ M' 598 132 < n ∧ M' 598 131 = ht (M' 598 132) ∧ mu M' < mu M0)))) → (∀ (a : Nat) (i : Int), a ≠ 598 → a ≠ 602 → a ≠ 603 → a ≠ 604 → a ≠ 605 → a ≠ 624 → a ≠ 670 → a ≠ 671 → a ≠ 672 → a ≠ 673 → a ≠ 674 → a ≠ 675 → a ≠ 676 → a ≠ 677 → a ≠ 678 → a ≠ 679 → a ≠ 680 → a ≠ 681 → a ≠ 682 → a ≠ 683 → a ≠ 684 → a ≠ 685 → a ≠ 686 → a ≠ 687 → M' a i = M0 a i) → (∀ (i : Int), i ≠ 6 → i ≠ 10 → i ≠ 11 → i ≠ 12 → i ≠ 59 → i ≠ 60 → i ≠ 61 → i ≠ 62 → i ≠ 63 → i ≠ 64 → i ≠ 65 → i ≠ 66 → i ≠ 110 → i ≠ 112 → i ≠ 122 → i ≠ 131 → i ≠ 132 → i ≠ 134 → i ≠ 135 → i ≠ 136 → i ≠ 137 → i ≠ 138 → i ≠ 139 → i ≠ 143 → i ≠ 145 → M' 598 i = M0 598 i) → Q none M') : ∀ (M : jm) (a : Int) (o : Int), RI M → RH M → RF M → (∀ (a : Nat) (i : Int), a ≠ 598 → a ≠ 602 → a ≠ 603 → a ≠ 604 → a ≠ 605 → a ≠ 624 → a ≠ 670 → a ≠ 671 → a ≠ 672 → a ≠ 673 → a ≠ 674 → a ≠ 675 → a ≠ 676 → a ≠ 677 → a ≠ 678 → a ≠ 679 → a ≠ 680 → a ≠ 681 → a ≠ 682 → a ≠ 683 → a ≠ 684 → a ≠ 685 → a ≠ 686 → a ≠ 687 → M a i = M0 a i) → (∀ (i : Int), i ≠ 6 → i ≠ 10 → i ≠ 11 → i ≠ 12 → i ≠ 59 → i ≠ 60 → i ≠ 61 → i ≠ 62 → i ≠ 63 → i ≠ 64 → i ≠ 65 → i ≠ 66 → i ≠ 110 → i ≠ 112 → i ≠ 122 → i ≠ 131 → i ≠ 132 → i ≠ 134 → i ≠ 135 → i ≠ 136 → i ≠ 137 → i ≠ 138 → i ≠ 139 → i ≠ 143 → i ≠ 145 → M 598 i = M0 598 i) → (-9223372036854775808) ≤ a ∧ a ≤ 9223372036854775807 → 0 ≤ o ∧ o ≤ 1000 → MX M ht n → FRS M ht n (M 598 122) → 1 ≤ M 598 122 ∧ M 598 122 ≤ 8 → AS M L → L ≤ 1999999999 → (0 ≤ M 598 132 ∧ M 598 132 < n) → M 598 131 = ht (M 598 132) → o = M 654 (M 598 132) → a = M 655 (M 598 132) → (M 598 135 = 0 ∧ M 598 136 = 0) → M = M0 → (o = 7 ∨ o = 8) → jr A 9 xm_380 166 [(2, .long (Int64.ofInt (a))), (1, .int (Int32.ofInt (o))), (0, .ref (598))] [] M Q := by
    intro M a o hI_M hH_M hS_M hF_M hG_M h_a h_o hy0 hy1 hy2 hy3 hy4 hy5 hy6 hy7 hy8 hy9 hy10 hy11
    have hyM := hy10
    have ho := hy11
    have hp0 := hy0
    have hp1 := hy1
    have hp2 := hy2
    have hp3 := hy3
    have hp4 := hy4
    have hp5 := hy5
    have hp6 := hy6
    have hp7 := hy7
    have hp8 := hy8
    have hp9 := hy9
    subst hyM
    have p0 := hp0
    have p1 := hp1
    have p2 := hp2
    have p3 := hp3
    have p4 := hp4
    have p5 := hp5
    have p6 := hp6
    have p7 := hp7
    have p8 := hp8
    have p9 := hp9
    have hMX := p0
    have hFR := p1
    have hAS := p3
    obtain ⟨P, hP⟩ : ∃ z, M 598 132 = z := ⟨_, rfl⟩
    rw [hP] at p5 p6 p7 p8
    have nb := hMX.1
    have nb2 := hMX.2.1
    obtain ⟨⟨q1, q2, q3, q4, q5, q6⟩, q7, q8, q9⟩ := hMX.2.2.1 P p5.1 p5.2
    rw [← p7] at q3 q4 q5 q6 q7 q8 q9
    rw [← p8] at q7 q8 q9
    have nd : ndo o = 1 := by
      first | (rw [ho]; decide) | (rcases ho with z | z <;> rw [z] <;> decide)
    have dl : dlo o = -1 := by
      first | (rw [ho]; decide) | (rcases ho with z | z <;> rw [z] <;> decide)
    rw [dl] at q4
    rw [nd] at q5
    obtain ⟨t1, t2, t3, t4⟩ := (q7 (by unfold jpo; omega)).resolve_left id
    clear q7
    have pn : P + 1 < n := by
      by_cases y : P = n - 1
      · exfalso
        have z2 := hMX.2.2.2.2
        rw [← y, ← p7] at z2
        omega
      · omega
    have cN : cr (M 654) (P + 1) = 0 := MX.cr0 hMX (by omega) pn (by rw [show P + 1 - 1 = P by omega, ← p7]; omega)
    obtain ⟨Fv, hFv⟩ : ∃ z, M 598 122 = z := ⟨_, rfl⟩
    obtain ⟨hv, hhv⟩ : ∃ z, M 598 131 = z := ⟨_, rfl⟩
    rw [hhv] at p6
    clear q3
    obtain ⟨st, hst⟩ : ∃ z, M 598 143 = z := ⟨_, rfl⟩
    have bst : (0 : Int) ≤ st ∧ st ≤ 300 := by rw [← hst]; exact hI_M 598 143 (by decide)
    have cl := cr_le (M 654) P
    refine jr.aload_n rfl rfl ?_
    refine jr.getf (i := 130) (v := .ref 686) rfl rfl (by decide) rfl (by decide) rfl rfl rfl rfl ?_
    refine jr.aload_n rfl rfl ?_
    refine jr.getf (i := 131) (x := hv) (v := .int (Int32.ofInt (hv))) rfl rfl (by decide) rfl (by decide) rfl rfl hhv rfl ?_
    refine jr.iconst rfl ?_
    refine jr.isub rfl ?_
    obtain ⟨v1, e1⟩ : ∃ z, M 686 (hv - 1) = z := ⟨_, rfl⟩
    have b1 : (-9223372036854775808) ≤ v1 ∧ v1 ≤ 9223372036854775807 := by rw [← e1]; exact (by have q := hI_M 686 (hv - 1) (by decide); rw [xri_row rfl rfl] at q; exact q)
    refine jr.lald (i := (hv - 1)) (x := v1) rfl (by decide) rfl (by decide) (by omega) (by omega) e1 ?_
    refine jr.lconst (x := 0) rfl (by decide) ?_
    refine jr.lcmp_eq rfl rfl rfl (by omega) (by omega) (fun h178 => ?_) (fun h178 => ?_)
    · refine jr.iconst rfl ?_
      refine jr.istore rfl (by decide) rfl ?_
      refine jr.iload rfl rfl ?_
      refine jr.iload_n rfl rfl ?_
      refine jr.bipush rfl (by decide) ?_
      refine jr.icmp_ne rfl rfl (by omega) (by omega) (fun h194 => ?_) (fun h194 => ?_)
      · refine jr.iconst rfl ?_
        refine jr.icmp_ne rfl rfl (by omega) (by omega) (fun h => absurd h (by decide)) (fun _ => ?_)
        refine jr.aload_n rfl rfl ?_
        refine jr.getf (i := 130) (v := .ref 686) rfl rfl (by decide) rfl (by decide) rfl rfl rfl rfl ?_
        refine jr.aload_n rfl rfl ?_
        refine jr.getf (i := 131) (x := hv) (v := .int (Int32.ofInt (hv))) rfl rfl (by decide) rfl (by decide) rfl rfl hhv rfl ?_
        refine jr.iconst rfl ?_
        refine jr.isub rfl ?_
        refine jr.iload rfl rfl ?_
        refine jr.if_eq rfl rfl (by omega) (fun _ => ?_) (fun h => absurd (by decide) h)
        refine jr.lconst (x := 0) rfl (by decide) ?_
        refine jr.last (i := (hv - 1)) (x := 0) rfl (by decide) rfl (by decide) (by omega) (by omega) ?_
        refine jr.aload_n rfl rfl ?_
        refine jr.lload_n rfl rfl ?_
        refine jr.l2i rfl ?_
        refine jr.putf (i := 132) (x := a) rfl rfl (by decide) rfl (by decide) rfl rfl rfl rfl rfl ?_
        have y2 : (ju (ju M 686 (hv - 1) 0) 598 132 a) 598 122 = Fv := ((ju_i _ _ (by decide)).trans ((ju_c _ _ (by decide)).trans hFv))
        have y3 : (ju (ju M 686 (hv - 1) 0) 598 132 a) 598 131 = hv := ((ju_i _ _ (by decide)).trans ((ju_c _ _ (by decide)).trans hhv))
        have y4 : (ju (ju M 686 (hv - 1) 0) 598 132 a) 598 132 = a := (ju_same _ _ _ _)
        obtain ⟨v5, e5⟩ : ∃ z, M 598 135 = z := ⟨_, rfl⟩
        have b5 : 0 ≤ v5 ∧ v5 ≤ 8 := by rw [← e5]; exact hI_M 598 135 (by decide)
        have y6 : (ju (ju M 686 (hv - 1) 0) 598 132 a) 598 135 = v5 := ((ju_i _ _ (by decide)).trans ((ju_c _ _ (by decide)).trans e5))
        obtain ⟨v7, e7⟩ : ∃ z, M 598 136 = z := ⟨_, rfl⟩
        have b7 : 0 ≤ v7 ∧ v7 ≤ 1 := by rw [← e7]; exact hI_M 598 136 (by decide)
        have y8 : (ju (ju M 686 (hv - 1) 0) 598 132 a) 598 136 = v7 := ((ju_i _ _ (by decide)).trans ((ju_c _ _ (by decide)).trans e7))
        have y9 : (ju (ju M 686 (hv - 1) 0) 598 132 a) 598 143 = st := ((ju_i _ _ (by decide)).trans ((ju_c _ _ (by decide)).trans hst))
        have hmu := mu.eq hst rfl hP (rfl : cr (M 654) P = cr (M 654) P)
        have zph : phi (ju (ju M 686 (hv - 1) 0) 598 132 a) = phi M := (phi.fr (M := M) (M' := (ju (ju M 686 (hv - 1) 0) 598 132 a)) ((ju_i _ _ (by decide)).trans ((ju_c _ _ (by decide)).trans (rfl))) (fun i => ((ju_c _ _ (by decide)).trans ((ju_c _ _ (by decide)).trans (rfl)))))
        have zm := mu.eq (M := (ju (ju M 686 (hv - 1) 0) 598 132 a)) ((ju_i _ _ (by decide)).trans ((ju_c _ _ (by decide)).trans hst)) zph (ju_same _ _ _ _) (show cr ((ju (ju M 686 (hv - 1) 0) 598 132 a) 654) a = 0 by rw [show (ju (ju M 686 (hv - 1) 0) 598 132 a) 654 = M 654 from funext (fun i => ((ju_c _ _ (by decide)).trans ((ju_c _ _ (by decide)).trans (rfl))))]; exact MX.cr0 hMX (by omega) (by omega) t4)
        exact jr.vreturn rfl rfl (q _ (RI.u (RI.u hI_M (a := 686) (i := (hv - 1)) (by rw [xri_row rfl rfl]; show (-9223372036854775808 : Int) ≤ _ ∧ _ ≤ (9223372036854775807 : Int); omega)) (a := 598) (i := 132) (show (0 : Int) ≤ _ ∧ _ ≤ (2200 : Int) from by omega)) (RH.o (RH.o hH_M (by decide) (by decide) (by decide)) (by decide) (by decide) (by decide)) (RF.o (RF.o hS_M (by decide) (by decide)) (by decide) (by decide))  (AS.up (AS.o (AS.o hAS (by decide) (Or.inl (by decide))) (by decide) (Or.inr (by decide))) (by omega)) (Or.inr ⟨by omega, (FRS.fr hFR (fun i => ((ju_c _ _ (by decide)).trans ((ju_c _ _ (by decide)).trans (rfl)))) (fun i => ((ju_c _ _ (by decide)).trans ((ju_c _ _ (by decide)).trans (rfl)))) (fun i => ((ju_c _ _ (by decide)).trans ((ju_c _ _ (by decide)).trans (rfl)))) ((ju_i _ _ (by decide)).trans ((ju_c _ _ (by decide)).trans (rfl))) (by omega)), by omega, by omega, Or.inr ⟨by omega, by omega, by omega, (by rw [((ju_i _ _ (by decide)).trans ((ju_c _ _ (by decide)).trans hhv)), (ju_same _ _ _ _), t3]; split <;> omega), by omega⟩⟩) (fun a i f598 f602 f603 f604 f605 f624 f670 f671 f672 f673 f674 f675 f676 f677 f678 f679 f680 f681 f682 f683 f684 f685 f686 f687 => ((ju_c _ _ f598).trans ((ju_c _ _ f686).trans (hF_M a i f598 f602 f603 f604 f605 f624 f670 f671 f672 f673 f674 f675 f676 f677 f678 f679 f680 f681 f682 f683 f684 f685 f686 f687)))) (fun i g6 g10 g11 g12 g59 g60 g61 g62 g63 g64 g65 g66 g110 g112 g122 g131 g132 g134 g135 g136 g137 g138 g139 g143 g145 => ((ju_i _ _ g132).trans ((ju_c _ _ (by decide)).trans (hG_M i g6 g10 g11 g12 g59 g60 g61 g62 g63 g64 g65 g66 g110 g112 g122 g131 g132 g134 g135 g136 g137 g138 g139 g143 g145)))))
      · refine jr.iconst rfl ?_
        refine jr.goto rfl rfl ?_
        refine jr.icmp_ne rfl rfl (by omega) (by omega) (fun _ => ?_) (fun h => absurd (by decide) h)
        refine jr.aload_n rfl rfl ?_
        refine jr.dup rfl rfl ?_
        refine jr.getf (i := 131) (x := hv) (v := .int (Int32.ofInt (hv))) rfl rfl (by decide) rfl (by decide) rfl rfl hhv rfl ?_
        refine jr.iconst rfl ?_
        refine jr.isub rfl ?_
        refine jr.putf (i := 131) (x := (hv - 1)) rfl rfl (by decide) rfl (by decide) rfl rfl rfl rfl rfl ?_
        refine jr.goto rfl rfl ?_
        have y10 : (ju M 598 131 (hv - 1)) 598 122 = Fv := ((ju_i _ _ (by decide)).trans hFv)
        obtain ⟨v11, e11⟩ : ∃ z, M 598 136 = z := ⟨_, rfl⟩
        have b11 : 0 ≤ v11 ∧ v11 ≤ 1 := by rw [← e11]; exact hI_M 598 136 (by decide)
        obtain ⟨v12, e12⟩ : ∃ z, M 598 135 = z := ⟨_, rfl⟩
        have b12 : 0 ≤ v12 ∧ v12 ≤ 8 := by rw [← e12]; exact hI_M 598 135 (by decide)
        refine jr.pick [3] rfl rfl ?_
        exact r_act_L487 (L := L) (n := n) (ht := ht) q (ju M 598 131 (hv - 1))  (RI.u hI_M (a := 598) (i := 131) (show (0 : Int) ≤ _ ∧ _ ≤ (400 : Int) from by omega)) (RH.o hH_M (by decide) (by decide) (by decide)) (RF.o hS_M (by decide) (by decide))  (fun a i f598 f602 f603 f604 f605 f624 f670 f671 f672 f673 f674 f675 f676 f677 f678 f679 f680 f681 f682 f683 f684 f685 f686 f687 => ((ju_c _ _ f598).trans (hF_M a i f598 f602 f603 f604 f605 f624 f670 f671 f672 f673 f674 f675 f676 f677 f678 f679 f680 f681 f682 f683 f684 f685 f686 f687))) (fun i g6 g10 g11 g12 g59 g60 g61 g62 g63 g64 g65 g66 g110 g112 g122 g131 g132 g134 g135 g136 g137 g138 g139 g143 g145 => ((ju_i _ _ g131).trans (hG_M i g6 g10 g11 g12 g59 g60 g61 g62 g63 g64 g65 g66 g110 g112 g122 g131 g132 g134 g135 g136 g137 g138 g139 g143 g145)))  (FRS.fr hFR (fun i => ((ju_c _ _ (by decide)).trans (rfl))) (fun i => ((ju_c _ _ (by decide)).trans (rfl))) (fun i => ((ju_c _ _ (by decide)).trans (rfl))) ((ju_i _ _ (by decide)).trans (rfl)) (by omega)) (AS.up (AS.o hAS (by decide) (Or.inr (by decide))) (by omega)) (by rw [((ju_i _ _ (by decide)).trans hFv)] <;> omega) (phi.fr (M := M) (M' := (ju M 598 131 (hv - 1))) ((ju_i _ _ (by decide)).trans (rfl)) (fun i => ((ju_c _ _ (by decide)).trans (rfl)))) (by rw [((ju_i _ _ (by decide)).trans e11)] <;> omega) (by rw [((ju_i _ _ (by decide)).trans hP)] <;> omega) (by omega) (fun _ => by rw [(ju_same _ _ _ _), hP, q4]; omega) (by rw [((ju_i _ _ (by decide)).trans hst), ((ju_i _ _ (by decide)).trans e12), hst, hP]; first | (exact Or.inl ⟨by omega, cN⟩) | (exact Or.inr ⟨by omega, by omega⟩))
    · refine jr.iconst rfl ?_
      refine jr.goto rfl rfl ?_
      refine jr.istore rfl (by decide) rfl ?_
      refine jr.iload rfl rfl ?_
      refine jr.iload_n rfl rfl ?_
      refine jr.bipush rfl (by decide) ?_
      refine jr.icmp_ne rfl rfl (by omega) (by omega) (fun h194 => ?_) (fun h194 => ?_)
      · refine jr.iconst rfl ?_
        refine jr.icmp_ne rfl rfl (by omega) (by omega) (fun _ => ?_) (fun h => absurd (by decide) h)
        refine jr.aload_n rfl rfl ?_
        refine jr.dup rfl rfl ?_
        refine jr.getf (i := 131) (x := hv) (v := .int (Int32.ofInt (hv))) rfl rfl (by decide) rfl (by decide) rfl rfl hhv rfl ?_
        refine jr.iconst rfl ?_
        refine jr.isub rfl ?_
        refine jr.putf (i := 131) (x := (hv - 1)) rfl rfl (by decide) rfl (by decide) rfl rfl rfl rfl rfl ?_
        refine jr.goto rfl rfl ?_
        have y13 : (ju M 598 131 (hv - 1)) 598 122 = Fv := ((ju_i _ _ (by decide)).trans hFv)
        obtain ⟨v14, e14⟩ : ∃ z, M 598 136 = z := ⟨_, rfl⟩
        have b14 : 0 ≤ v14 ∧ v14 ≤ 1 := by rw [← e14]; exact hI_M 598 136 (by decide)
        obtain ⟨v15, e15⟩ : ∃ z, M 598 135 = z := ⟨_, rfl⟩
        have b15 : 0 ≤ v15 ∧ v15 ≤ 8 := by rw [← e15]; exact hI_M 598 135 (by decide)
        refine jr.pick [3] rfl rfl ?_
        exact r_act_L487 (L := L) (n := n) (ht := ht) q (ju M 598 131 (hv - 1))  (RI.u hI_M (a := 598) (i := 131) (show (0 : Int) ≤ _ ∧ _ ≤ (400 : Int) from by omega)) (RH.o hH_M (by decide) (by decide) (by decide)) (RF.o hS_M (by decide) (by decide))  (fun a i f598 f602 f603 f604 f605 f624 f670 f671 f672 f673 f674 f675 f676 f677 f678 f679 f680 f681 f682 f683 f684 f685 f686 f687 => ((ju_c _ _ f598).trans (hF_M a i f598 f602 f603 f604 f605 f624 f670 f671 f672 f673 f674 f675 f676 f677 f678 f679 f680 f681 f682 f683 f684 f685 f686 f687))) (fun i g6 g10 g11 g12 g59 g60 g61 g62 g63 g64 g65 g66 g110 g112 g122 g131 g132 g134 g135 g136 g137 g138 g139 g143 g145 => ((ju_i _ _ g131).trans (hG_M i g6 g10 g11 g12 g59 g60 g61 g62 g63 g64 g65 g66 g110 g112 g122 g131 g132 g134 g135 g136 g137 g138 g139 g143 g145)))  (FRS.fr hFR (fun i => ((ju_c _ _ (by decide)).trans (rfl))) (fun i => ((ju_c _ _ (by decide)).trans (rfl))) (fun i => ((ju_c _ _ (by decide)).trans (rfl))) ((ju_i _ _ (by decide)).trans (rfl)) (by omega)) (AS.up (AS.o hAS (by decide) (Or.inr (by decide))) (by omega)) (by rw [((ju_i _ _ (by decide)).trans hFv)] <;> omega) (phi.fr (M := M) (M' := (ju M 598 131 (hv - 1))) ((ju_i _ _ (by decide)).trans (rfl)) (fun i => ((ju_c _ _ (by decide)).trans (rfl)))) (by rw [((ju_i _ _ (by decide)).trans e14)] <;> omega) (by rw [((ju_i _ _ (by decide)).trans hP)] <;> omega) (by omega) (fun _ => by rw [(ju_same _ _ _ _), hP, q4]; omega) (by rw [((ju_i _ _ (by decide)).trans hst), ((ju_i _ _ (by decide)).trans e15), hst, hP]; first | (exact Or.inl ⟨by omega, cN⟩) | (exact Or.inr ⟨by omega, by omega⟩))
      · refine jr.iconst rfl ?_
        refine jr.goto rfl rfl ?_
        refine jr.icmp_ne rfl rfl (by omega) (by omega) (fun h => absurd h (by decide)) (fun _ => ?_)
        refine jr.aload_n rfl rfl ?_
        refine jr.getf (i := 130) (v := .ref 686) rfl rfl (by decide) rfl (by decide) rfl rfl rfl rfl ?_
        refine jr.aload_n rfl rfl ?_
        refine jr.getf (i := 131) (x := hv) (v := .int (Int32.ofInt (hv))) rfl rfl (by decide) rfl (by decide) rfl rfl hhv rfl ?_
        refine jr.iconst rfl ?_
        refine jr.isub rfl ?_
        refine jr.iload rfl rfl ?_
        refine jr.if_eq rfl rfl (by omega) (fun h => absurd h (by decide)) (fun _ => ?_)
        refine jr.lconst (x := 1) rfl (by decide) ?_
        refine jr.goto rfl rfl ?_
        refine jr.last (i := (hv - 1)) (x := 1) rfl (by decide) rfl (by decide) (by omega) (by omega) ?_
        refine jr.aload_n rfl rfl ?_
        refine jr.lload_n rfl rfl ?_
        refine jr.l2i rfl ?_
        refine jr.putf (i := 132) (x := a) rfl rfl (by decide) rfl (by decide) rfl rfl rfl rfl rfl ?_
        have y16 : (ju (ju M 686 (hv - 1) 1) 598 132 a) 598 122 = Fv := ((ju_i _ _ (by decide)).trans ((ju_c _ _ (by decide)).trans hFv))
        have y17 : (ju (ju M 686 (hv - 1) 1) 598 132 a) 598 131 = hv := ((ju_i _ _ (by decide)).trans ((ju_c _ _ (by decide)).trans hhv))
        have y18 : (ju (ju M 686 (hv - 1) 1) 598 132 a) 598 132 = a := (ju_same _ _ _ _)
        obtain ⟨v19, e19⟩ : ∃ z, M 598 135 = z := ⟨_, rfl⟩
        have b19 : 0 ≤ v19 ∧ v19 ≤ 8 := by rw [← e19]; exact hI_M 598 135 (by decide)
        have y20 : (ju (ju M 686 (hv - 1) 1) 598 132 a) 598 135 = v19 := ((ju_i _ _ (by decide)).trans ((ju_c _ _ (by decide)).trans e19))
        obtain ⟨v21, e21⟩ : ∃ z, M 598 136 = z := ⟨_, rfl⟩
        have b21 : 0 ≤ v21 ∧ v21 ≤ 1 := by rw [← e21]; exact hI_M 598 136 (by decide)
        have y22 : (ju (ju M 686 (hv - 1) 1) 598 132 a) 598 136 = v21 := ((ju_i _ _ (by decide)).trans ((ju_c _ _ (by decide)).trans e21))
        have y23 : (ju (ju M 686 (hv - 1) 1) 598 132 a) 598 143 = st := ((ju_i _ _ (by decide)).trans ((ju_c _ _ (by decide)).trans hst))
        have hmu := mu.eq hst rfl hP (rfl : cr (M 654) P = cr (M 654) P)
        have zph : phi (ju (ju M 686 (hv - 1) 1) 598 132 a) = phi M := (phi.fr (M := M) (M' := (ju (ju M 686 (hv - 1) 1) 598 132 a)) ((ju_i _ _ (by decide)).trans ((ju_c _ _ (by decide)).trans (rfl))) (fun i => ((ju_c _ _ (by decide)).trans ((ju_c _ _ (by decide)).trans (rfl)))))
        have zm := mu.eq (M := (ju (ju M 686 (hv - 1) 1) 598 132 a)) ((ju_i _ _ (by decide)).trans ((ju_c _ _ (by decide)).trans hst)) zph (ju_same _ _ _ _) (show cr ((ju (ju M 686 (hv - 1) 1) 598 132 a) 654) a = 0 by rw [show (ju (ju M 686 (hv - 1) 1) 598 132 a) 654 = M 654 from funext (fun i => ((ju_c _ _ (by decide)).trans ((ju_c _ _ (by decide)).trans (rfl))))]; exact MX.cr0 hMX (by omega) (by omega) t4)
        exact jr.vreturn rfl rfl (q _ (RI.u (RI.u hI_M (a := 686) (i := (hv - 1)) (by rw [xri_row rfl rfl]; show (-9223372036854775808 : Int) ≤ _ ∧ _ ≤ (9223372036854775807 : Int); omega)) (a := 598) (i := 132) (show (0 : Int) ≤ _ ∧ _ ≤ (2200 : Int) from by omega)) (RH.o (RH.o hH_M (by decide) (by decide) (by decide)) (by decide) (by decide) (by decide)) (RF.o (RF.o hS_M (by decide) (by decide)) (by decide) (by decide))  (AS.up (AS.o (AS.o hAS (by decide) (Or.inl (by decide))) (by decide) (Or.inr (by decide))) (by omega)) (Or.inr ⟨by omega, (FRS.fr hFR (fun i => ((ju_c _ _ (by decide)).trans ((ju_c _ _ (by decide)).trans (rfl)))) (fun i => ((ju_c _ _ (by decide)).trans ((ju_c _ _ (by decide)).trans (rfl)))) (fun i => ((ju_c _ _ (by decide)).trans ((ju_c _ _ (by decide)).trans (rfl)))) ((ju_i _ _ (by decide)).trans ((ju_c _ _ (by decide)).trans (rfl))) (by omega)), by omega, by omega, Or.inr ⟨by omega, by omega, by omega, (by rw [((ju_i _ _ (by decide)).trans ((ju_c _ _ (by decide)).trans hhv)), (ju_same _ _ _ _), t3]; split <;> omega), by omega⟩⟩) (fun a i f598 f602 f603 f604 f605 f624 f670 f671 f672 f673 f674 f675 f676 f677 f678 f679 f680 f681 f682 f683 f684 f685 f686 f687 => ((ju_c _ _ f598).trans ((ju_c _ _ f686).trans (hF_M a i f598 f602 f603 f604 f605 f624 f670 f671 f672 f673 f674 f675 f676 f677 f678 f679 f680 f681 f682 f683 f684 f685 f686 f687)))) (fun i g6 g10 g11 g12 g59 g60 g61 g62 g63 g64 g65 g66 g110 g112 g122 g131 g132 g134 g135 g136 g137 g138 g139 g143 g145 => ((ju_i _ _ g132).trans ((ju_c _ _ (by decide)).trans (hG_M i g6 g10 g11 g12 g59 g60 g61 g62 g63 g64 g65 g66 g110 g112 g122 g131 g132 g134 g135 g136 g137 g138 g139 g143 g145)))))
theorem r_act_L132 {A : Nat → Option (Nat × (Nat → Int32))} {Q : Option Value → jm → Prop} {L n : Int} {ht : Int → Int} {M0 : jm} (q : ∀ (M' : jm), RI M' → RH M' → RF M' → AS M' (L + 1) → ((M' 598 136 = 1 ∧ M' 598 135 = 0) ∨ (M' 598 136 = 0 ∧ FRS M' ht n (M' 598 122) ∧ 1 ≤ M' 598 122 ∧ M' 598 122 ≤ 8 ∧ ((M' 598 135 ≠ 0 ∧ phi M' = phi M0 ∧ M' 598 143 = M0 598 143) ∨ (M' 598 135 = 0 ∧ 0 ≤ M' 598 132 ∧ M' 598 132 < n ∧ M' 598 131 = ht (M' 598 132) ∧ mu M' < mu M0)))) → (∀ (a : Nat) (i : Int), a ≠ 598 → a ≠ 602 → a ≠ 603 → a ≠ 604 → a ≠ 605 → a ≠ 624 → a ≠ 670 → a ≠ 671 → a ≠ 672 → a ≠ 673 → a ≠ 674 → a ≠ 675 → a ≠ 676 → a ≠ 677 → a ≠ 678 → a ≠ 679 → a ≠ 680 → a ≠ 681 → a ≠ 682 → a ≠ 683 → a ≠ 684 → a ≠ 685 → a ≠ 686 → a ≠ 687 → M' a i = M0 a i) → (∀ (i : Int), i ≠ 6 → i ≠ 10 → i ≠ 11 → i ≠ 12 → i ≠ 59 → i ≠ 60 → i ≠ 61 → i ≠ 62 → i ≠ 63 → i ≠ 64 → i ≠ 65 → i ≠ 66 → i ≠ 110 → i ≠ 112 → i ≠ 122 → i ≠ 131 → i ≠ 132 → i ≠ 134 → i ≠ 135 → i ≠ 136 → i ≠ 137 → i ≠ 138 → i ≠ 139 → i ≠ 143 → i ≠ 145 → M' 598 i = M0 598 i) → Q none M') : ∀ (M : jm) (a : Int) (o : Int), RI M → RH M → RF M → (∀ (a : Nat) (i : Int), a ≠ 598 → a ≠ 602 → a ≠ 603 → a ≠ 604 → a ≠ 605 → a ≠ 624 → a ≠ 670 → a ≠ 671 → a ≠ 672 → a ≠ 673 → a ≠ 674 → a ≠ 675 → a ≠ 676 → a ≠ 677 → a ≠ 678 → a ≠ 679 → a ≠ 680 → a ≠ 681 → a ≠ 682 → a ≠ 683 → a ≠ 684 → a ≠ 685 → a ≠ 686 → a ≠ 687 → M a i = M0 a i) → (∀ (i : Int), i ≠ 6 → i ≠ 10 → i ≠ 11 → i ≠ 12 → i ≠ 59 → i ≠ 60 → i ≠ 61 → i ≠ 62 → i ≠ 63 → i ≠ 64 → i ≠ 65 → i ≠ 66 → i ≠ 110 → i ≠ 112 → i ≠ 122 → i ≠ 131 → i ≠ 132 → i ≠ 134 → i ≠ 135 → i ≠ 136 → i ≠ 137 → i ≠ 138 → i ≠ 139 → i ≠ 143 → i ≠ 145 → M 598 i = M0 598 i) → (-9223372036854775808) ≤ a ∧ a ≤ 9223372036854775807 → 0 ≤ o ∧ o ≤ 1000 → MX M ht n → FRS M ht n (M 598 122) → 1 ≤ M 598 122 ∧ M 598 122 ≤ 8 → AS M L → L ≤ 1999999999 → (0 ≤ M 598 132 ∧ M 598 132 < n) → M 598 131 = ht (M 598 132) → o = M 654 (M 598 132) → a = M 655 (M 598 132) → (M 598 135 = 0 ∧ M 598 136 = 0) → M = M0 → o = 3 → jr A 9 xm_380 132 [(2, .long (Int64.ofInt (a))), (1, .int (Int32.ofInt (o))), (0, .ref (598))] [] M Q := by
    intro M a o hI_M hH_M hS_M hF_M hG_M h_a h_o hy0 hy1 hy2 hy3 hy4 hy5 hy6 hy7 hy8 hy9 hy10 hy11
    have hyM := hy10
    have ho := hy11
    have hp0 := hy0
    have hp1 := hy1
    have hp2 := hy2
    have hp3 := hy3
    have hp4 := hy4
    have hp5 := hy5
    have hp6 := hy6
    have hp7 := hy7
    have hp8 := hy8
    have hp9 := hy9
    subst hyM
    have p0 := hp0
    have p1 := hp1
    have p2 := hp2
    have p3 := hp3
    have p4 := hp4
    have p5 := hp5
    have p6 := hp6
    have p7 := hp7
    have p8 := hp8
    have p9 := hp9
    have hMX := p0
    have hFR := p1
    have hAS := p3
    obtain ⟨P, hP⟩ : ∃ z, M 598 132 = z := ⟨_, rfl⟩
    rw [hP] at p5 p6 p7 p8
    have nb := hMX.1
    have nb2 := hMX.2.1
    obtain ⟨⟨q1, q2, q3, q4, q5, q6⟩, q7, q8, q9⟩ := hMX.2.2.1 P p5.1 p5.2
    rw [← p7] at q3 q4 q5 q6 q7 q8 q9
    rw [← p8] at q7 q8 q9
    have nd : ndo o = 0 := by
      first | (rw [ho]; decide) | (rcases ho with z | z <;> rw [z] <;> decide)
    have dl : dlo o = 0 := by
      first | (rw [ho]; decide) | (rcases ho with z | z <;> rw [z] <;> decide)
    rw [dl] at q4
    rw [nd] at q5
    have q6 := q6 (by unfold exo; omega)
    clear q7
    obtain ⟨Fv, hFv⟩ : ∃ z, M 598 122 = z := ⟨_, rfl⟩
    obtain ⟨hv, hhv⟩ : ∃ z, M 598 131 = z := ⟨_, rfl⟩
    rw [hhv] at p6
    clear q3
    obtain ⟨st, hst⟩ : ∃ z, M 598 143 = z := ⟨_, rfl⟩
    have bst : (0 : Int) ≤ st ∧ st ≤ 300 := by rw [← hst]; exact hI_M 598 143 (by decide)
    have cl := cr_le (M 654) P
    refine jr.aload_n rfl rfl ?_
    refine jr.getf (i := 122) (x := Fv) (v := .int (Int32.ofInt (Fv))) rfl rfl (by decide) rfl (by decide) rfl rfl hFv rfl ?_
    refine jr.iconst rfl ?_
    refine jr.isub rfl ?_
    refine jr.istore rfl (by decide) rfl ?_
    refine jr.aload_n rfl rfl ?_
    refine jr.getf (i := 124) (v := .ref 680) rfl rfl (by decide) rfl (by decide) rfl rfl rfl rfl ?_
    refine jr.iload rfl rfl ?_
    obtain ⟨v1, e1⟩ : ∃ z, M 680 (Fv - 1) = z := ⟨_, rfl⟩
    have b1 : 0 ≤ v1 ∧ v1 ≤ 1 := by rw [← e1]; exact (by have q := hI_M 680 (Fv - 1) (by decide); rw [xri_row rfl rfl] at q; exact q)
    refine jr.zald (i := (Fv - 1)) (x := v1) rfl (by decide) rfl (by decide) (by omega) (by omega) e1 ?_
    refine jr.if_eq rfl rfl (by omega) (fun h147 => ?_) (fun h147 => ?_)
    · refine jr.aload_n rfl rfl ?_
      refine jr.iconst rfl ?_
      refine jr.iconst rfl ?_
      have y3 : M 598 122 = Fv := hFv
      refine jr_v rfl rfl (Or.inl rfl) rfl rfl (by decide) rfl ⟨rfl, Nat.le_of_ble_eq_true rfl, Nat.le_of_ble_eq_true rfl⟩ rfl (jc.deep (r_leave hI_M hH_M hS_M  (by omega) (by omega) hMX (FRS.fr hFR (fun i => (rfl)) (fun i => (rfl)) (fun i => (rfl)) (rfl) (by omega)) (by rw [hFv]; omega) hAS (by omega) (fun M2 hI_M2 hH_M2 hS_M2  w2_0 w2_1 w2_2 w2_3 => ?_)) (by decide))
      obtain ⟨v4, e4⟩ : ∃ z, M2 598 122 = z := ⟨_, rfl⟩
      have b4 : 0 ≤ v4 ∧ v4 ≤ 9 := by rw [← e4]; exact hI_M2 598 122 (by decide)
      have y5 : M2 598 122 = v4 := e4
      have e6 : M2 598 131 = hv := ((w2_3 131 (by decide) (by decide) (by decide) (by decide) (by decide) (by decide) (by decide)).trans hhv)
      have y7 : M2 598 131 = hv := e6
      obtain ⟨v8, e8⟩ : ∃ z, M2 598 132 = z := ⟨_, rfl⟩
      have b8 : 0 ≤ v8 ∧ v8 ≤ 2200 := by rw [← e8]; exact hI_M2 598 132 (by decide)
      have y9 : M2 598 132 = v8 := e8
      obtain ⟨v10, e10⟩ : ∃ z, M 598 135 = z := ⟨_, rfl⟩
      have b10 : 0 ≤ v10 ∧ v10 ≤ 8 := by rw [← e10]; exact hI_M 598 135 (by decide)
      have e11 : M2 598 135 = v10 := ((w2_3 135 (by decide) (by decide) (by decide) (by decide) (by decide) (by decide) (by decide)).trans e10)
      have y12 : M2 598 135 = v10 := e11
      obtain ⟨v13, e13⟩ : ∃ z, M2 598 136 = z := ⟨_, rfl⟩
      have b13 : 0 ≤ v13 ∧ v13 ≤ 1 := by rw [← e13]; exact hI_M2 598 136 (by decide)
      have y14 : M2 598 136 = v13 := e13
      have e15 : M2 598 143 = st := ((w2_3 143 (by decide) (by decide) (by decide) (by decide) (by decide) (by decide) (by decide)).trans hst)
      have y16 : M2 598 143 = st := e15
      have hmu := mu.eq hst rfl hP (rfl : cr (M 654) P = cr (M 654) P)
      exact jr.vreturn rfl rfl (q _ hI_M2 hH_M2 hS_M2  (AS.up w2_0 (by omega)) (by rcases w2_1 with z | ⟨y1, y2, y3, y4, y5, y6⟩; (exact Or.inl ⟨z, by omega⟩); (have zr := y5; have zc := REr.cr0 y5; obtain ⟨r1, r2, r3, _, _⟩ := y5; have zm := mu.eq (M := M2) (e15) rfl rfl zc; exact Or.inr ⟨by omega, y2, y3, y4, Or.inr ⟨by omega, r1, r2, by rw [e6, r3]; omega, by omega⟩⟩)) (fun a i f598 f602 f603 f604 f605 f624 f670 f671 f672 f673 f674 f675 f676 f677 f678 f679 f680 f681 f682 f683 f684 f685 f686 f687 => ((w2_2 a i f598 f602 f624 f670 f671 f672 f673 f680 f683 f684).trans (hF_M a i f598 f602 f603 f604 f605 f624 f670 f671 f672 f673 f674 f675 f676 f677 f678 f679 f680 f681 f682 f683 f684 f685 f686 f687))) (fun i g6 g10 g11 g12 g59 g60 g61 g62 g63 g64 g65 g66 g110 g112 g122 g131 g132 g134 g135 g136 g137 g138 g139 g143 g145 => ((w2_3 i g112 g122 g132 g134 g136 g137 g138).trans (hG_M i g6 g10 g11 g12 g59 g60 g61 g62 g63 g64 g65 g66 g110 g112 g122 g131 g132 g134 g135 g136 g137 g138 g139 g143 g145))))
    · have sx147 : (1 : Int) ≤ v1 := by omega
      refine jr.aload_n rfl rfl ?_
      refine jr.iload rfl rfl ?_
      have y18 : M 598 122 = Fv := hFv
      refine jr_v rfl rfl (Or.inl rfl) rfl rfl (by decide) rfl ⟨rfl, Nat.le_of_ble_eq_true rfl, Nat.le_of_ble_eq_true rfl⟩ rfl (jc.deep (r_endBehind hI_M hH_M hS_M  (by omega) hMX (FRS.fr hFR (fun i => (rfl)) (fun i => (rfl)) (fun i => (rfl)) (rfl) (by omega)) (by rw [hFv]; omega) hAS (by omega) (by rw [hFv] <;> omega) (fun M17 hI_M17 hH_M17 hS_M17  w17_0 w17_1 w17_2 w17_3 => ?_)) (by decide))
      refine jr.goto rfl rfl ?_
      obtain ⟨v19, e19⟩ : ∃ z, M17 598 122 = z := ⟨_, rfl⟩
      have b19 : 0 ≤ v19 ∧ v19 ≤ 9 := by rw [← e19]; exact hI_M17 598 122 (by decide)
      have y20 : M17 598 122 = v19 := e19
      have e21 : M17 598 131 = hv := ((w17_3 131 (by decide) (by decide) (by decide) (by decide) (by decide) (by decide) (by decide)).trans hhv)
      have y22 : M17 598 131 = hv := e21
      obtain ⟨v23, e23⟩ : ∃ z, M17 598 132 = z := ⟨_, rfl⟩
      have b23 : 0 ≤ v23 ∧ v23 ≤ 2200 := by rw [← e23]; exact hI_M17 598 132 (by decide)
      have y24 : M17 598 132 = v23 := e23
      obtain ⟨v25, e25⟩ : ∃ z, M 598 135 = z := ⟨_, rfl⟩
      have b25 : 0 ≤ v25 ∧ v25 ≤ 8 := by rw [← e25]; exact hI_M 598 135 (by decide)
      have e26 : M17 598 135 = v25 := ((w17_3 135 (by decide) (by decide) (by decide) (by decide) (by decide) (by decide) (by decide)).trans e25)
      have y27 : M17 598 135 = v25 := e26
      obtain ⟨v28, e28⟩ : ∃ z, M17 598 136 = z := ⟨_, rfl⟩
      have b28 : 0 ≤ v28 ∧ v28 ≤ 1 := by rw [← e28]; exact hI_M17 598 136 (by decide)
      have y29 : M17 598 136 = v28 := e28
      have e30 : M17 598 143 = st := ((w17_3 143 (by decide) (by decide) (by decide) (by decide) (by decide) (by decide) (by decide)).trans hst)
      have y31 : M17 598 143 = st := e30
      have hmu := mu.eq hst rfl hP (rfl : cr (M 654) P = cr (M 654) P)
      exact jr.vreturn rfl rfl (q _ hI_M17 hH_M17 hS_M17  (AS.up w17_0 (by omega)) (by rcases w17_1 with z | ⟨y1, y2, y3, y4, y5, y6⟩; (exact Or.inl ⟨z, by omega⟩); (have zr := y5; have zc := REr.cr0 y5; obtain ⟨r1, r2, r3, _, _⟩ := y5; have zm := mu.eq (M := M17) (e30) rfl rfl zc; exact Or.inr ⟨by omega, y2, y3, y4, Or.inr ⟨by omega, r1, r2, by rw [e21, r3]; omega, by omega⟩⟩)) (fun a i f598 f602 f603 f604 f605 f624 f670 f671 f672 f673 f674 f675 f676 f677 f678 f679 f680 f681 f682 f683 f684 f685 f686 f687 => ((w17_2 a i f598 f602 f624 f670 f671 f672 f673 f680 f683 f684).trans (hF_M a i f598 f602 f603 f604 f605 f624 f670 f671 f672 f673 f674 f675 f676 f677 f678 f679 f680 f681 f682 f683 f684 f685 f686 f687))) (fun i g6 g10 g11 g12 g59 g60 g61 g62 g63 g64 g65 g66 g110 g112 g122 g131 g132 g134 g135 g136 g137 g138 g139 g143 g145 => ((w17_3 i g112 g122 g132 g134 g136 g137 g138).trans (hG_M i g6 g10 g11 g12 g59 g60 g61 g62 g63 g64 g65 g66 g110 g112 g122 g131 g132 g134 g135 g136 g137 g138 g139 g143 g145))))
theorem r_act_L125 {A : Nat → Option (Nat × (Nat → Int32))} {Q : Option Value → jm → Prop} {L n : Int} {ht : Int → Int} {M0 : jm} (q : ∀ (M' : jm), RI M' → RH M' → RF M' → AS M' (L + 1) → ((M' 598 136 = 1 ∧ M' 598 135 = 0) ∨ (M' 598 136 = 0 ∧ FRS M' ht n (M' 598 122) ∧ 1 ≤ M' 598 122 ∧ M' 598 122 ≤ 8 ∧ ((M' 598 135 ≠ 0 ∧ phi M' = phi M0 ∧ M' 598 143 = M0 598 143) ∨ (M' 598 135 = 0 ∧ 0 ≤ M' 598 132 ∧ M' 598 132 < n ∧ M' 598 131 = ht (M' 598 132) ∧ mu M' < mu M0)))) → (∀ (a : Nat) (i : Int), a ≠ 598 → a ≠ 602 → a ≠ 603 → a ≠ 604 → a ≠ 605 → a ≠ 624 → a ≠ 670 → a ≠ 671 → a ≠ 672 → a ≠ 673 → a ≠ 674 → a ≠ 675 → a ≠ 676 → a ≠ 677 → a ≠ 678 → a ≠ 679 → a ≠ 680 → a ≠ 681 → a ≠ 682 → a ≠ 683 → a ≠ 684 → a ≠ 685 → a ≠ 686 → a ≠ 687 → M' a i = M0 a i) → (∀ (i : Int), i ≠ 6 → i ≠ 10 → i ≠ 11 → i ≠ 12 → i ≠ 59 → i ≠ 60 → i ≠ 61 → i ≠ 62 → i ≠ 63 → i ≠ 64 → i ≠ 65 → i ≠ 66 → i ≠ 110 → i ≠ 112 → i ≠ 122 → i ≠ 131 → i ≠ 132 → i ≠ 134 → i ≠ 135 → i ≠ 136 → i ≠ 137 → i ≠ 138 → i ≠ 139 → i ≠ 143 → i ≠ 145 → M' 598 i = M0 598 i) → Q none M') : ∀ (M : jm) (a : Int) (o : Int), RI M → RH M → RF M → (∀ (a : Nat) (i : Int), a ≠ 598 → a ≠ 602 → a ≠ 603 → a ≠ 604 → a ≠ 605 → a ≠ 624 → a ≠ 670 → a ≠ 671 → a ≠ 672 → a ≠ 673 → a ≠ 674 → a ≠ 675 → a ≠ 676 → a ≠ 677 → a ≠ 678 → a ≠ 679 → a ≠ 680 → a ≠ 681 → a ≠ 682 → a ≠ 683 → a ≠ 684 → a ≠ 685 → a ≠ 686 → a ≠ 687 → M a i = M0 a i) → (∀ (i : Int), i ≠ 6 → i ≠ 10 → i ≠ 11 → i ≠ 12 → i ≠ 59 → i ≠ 60 → i ≠ 61 → i ≠ 62 → i ≠ 63 → i ≠ 64 → i ≠ 65 → i ≠ 66 → i ≠ 110 → i ≠ 112 → i ≠ 122 → i ≠ 131 → i ≠ 132 → i ≠ 134 → i ≠ 135 → i ≠ 136 → i ≠ 137 → i ≠ 138 → i ≠ 139 → i ≠ 143 → i ≠ 145 → M 598 i = M0 598 i) → (-9223372036854775808) ≤ a ∧ a ≤ 9223372036854775807 → 0 ≤ o ∧ o ≤ 1000 → MX M ht n → FRS M ht n (M 598 122) → 1 ≤ M 598 122 ∧ M 598 122 ≤ 8 → AS M L → L ≤ 1999999999 → (0 ≤ M 598 132 ∧ M 598 132 < n) → M 598 131 = ht (M 598 132) → o = M 654 (M 598 132) → a = M 655 (M 598 132) → (M 598 135 = 0 ∧ M 598 136 = 0) → M = M0 → o = 2 → jr A 9 xm_380 125 [(2, .long (Int64.ofInt (a))), (1, .int (Int32.ofInt (o))), (0, .ref (598))] [] M Q := by
    intro M a o hI_M hH_M hS_M hF_M hG_M h_a h_o hy0 hy1 hy2 hy3 hy4 hy5 hy6 hy7 hy8 hy9 hy10 hy11
    have hyM := hy10
    have ho := hy11
    have hp0 := hy0
    have hp1 := hy1
    have hp2 := hy2
    have hp3 := hy3
    have hp4 := hy4
    have hp5 := hy5
    have hp6 := hy6
    have hp7 := hy7
    have hp8 := hy8
    have hp9 := hy9
    subst hyM
    have p0 := hp0
    have p1 := hp1
    have p2 := hp2
    have p3 := hp3
    have p4 := hp4
    have p5 := hp5
    have p6 := hp6
    have p7 := hp7
    have p8 := hp8
    have p9 := hp9
    have hMX := p0
    have hFR := p1
    have hAS := p3
    obtain ⟨P, hP⟩ : ∃ z, M 598 132 = z := ⟨_, rfl⟩
    rw [hP] at p5 p6 p7 p8
    have nb := hMX.1
    have nb2 := hMX.2.1
    obtain ⟨⟨q1, q2, q3, q4, q5, q6⟩, q7, q8, q9⟩ := hMX.2.2.1 P p5.1 p5.2
    rw [← p7] at q3 q4 q5 q6 q7 q8 q9
    rw [← p8] at q7 q8 q9
    have nd : ndo o = 0 := by
      first | (rw [ho]; decide) | (rcases ho with z | z <;> rw [z] <;> decide)
    have dl : dlo o = 0 := by
      first | (rw [ho]; decide) | (rcases ho with z | z <;> rw [z] <;> decide)
    rw [dl] at q4
    rw [nd] at q5
    have q6 := q6 (by unfold exo; omega)
    obtain ⟨t1, t2, t3, t4⟩ := (q7 (by unfold jpo; omega)).resolve_left id
    clear q7
    obtain ⟨Fv, hFv⟩ : ∃ z, M 598 122 = z := ⟨_, rfl⟩
    obtain ⟨hv, hhv⟩ : ∃ z, M 598 131 = z := ⟨_, rfl⟩
    rw [hhv] at p6
    clear q3
    obtain ⟨st, hst⟩ : ∃ z, M 598 143 = z := ⟨_, rfl⟩
    have bst : (0 : Int) ≤ st ∧ st ≤ 300 := by rw [← hst]; exact hI_M 598 143 (by decide)
    have cl := cr_le (M 654) P
    refine jr.aload_n rfl rfl ?_
    refine jr.lload_n rfl rfl ?_
    refine jr.l2i rfl ?_
    refine jr.putf (i := 132) (x := a) rfl rfl (by decide) rfl (by decide) rfl rfl rfl rfl rfl ?_
    have y1 : (ju M 598 132 a) 598 122 = Fv := ((ju_i _ _ (by decide)).trans hFv)
    have y2 : (ju M 598 132 a) 598 131 = hv := ((ju_i _ _ (by decide)).trans hhv)
    have y3 : (ju M 598 132 a) 598 132 = a := (ju_same _ _ _ _)
    obtain ⟨v4, e4⟩ : ∃ z, M 598 135 = z := ⟨_, rfl⟩
    have b4 : 0 ≤ v4 ∧ v4 ≤ 8 := by rw [← e4]; exact hI_M 598 135 (by decide)
    have y5 : (ju M 598 132 a) 598 135 = v4 := ((ju_i _ _ (by decide)).trans e4)
    obtain ⟨v6, e6⟩ : ∃ z, M 598 136 = z := ⟨_, rfl⟩
    have b6 : 0 ≤ v6 ∧ v6 ≤ 1 := by rw [← e6]; exact hI_M 598 136 (by decide)
    have y7 : (ju M 598 132 a) 598 136 = v6 := ((ju_i _ _ (by decide)).trans e6)
    have y8 : (ju M 598 132 a) 598 143 = st := ((ju_i _ _ (by decide)).trans hst)
    have hmu := mu.eq hst rfl hP (rfl : cr (M 654) P = cr (M 654) P)
    have zph : phi (ju M 598 132 a) = phi M := (phi.fr (M := M) (M' := (ju M 598 132 a)) ((ju_i _ _ (by decide)).trans (rfl)) (fun i => ((ju_c _ _ (by decide)).trans (rfl))))
    have zm := mu.eq (M := (ju M 598 132 a)) ((ju_i _ _ (by decide)).trans hst) zph (ju_same _ _ _ _) (show cr ((ju M 598 132 a) 654) a = 0 by rw [show (ju M 598 132 a) 654 = M 654 from funext (fun i => ((ju_c _ _ (by decide)).trans (rfl)))]; exact MX.cr0 hMX (by omega) (by omega) t4)
    exact jr.vreturn rfl rfl (q _ (RI.u hI_M (a := 598) (i := 132) (show (0 : Int) ≤ _ ∧ _ ≤ (2200 : Int) from by omega)) (RH.o hH_M (by decide) (by decide) (by decide)) (RF.o hS_M (by decide) (by decide))  (AS.up (AS.o hAS (by decide) (Or.inr (by decide))) (by omega)) (Or.inr ⟨by omega, (FRS.fr hFR (fun i => ((ju_c _ _ (by decide)).trans (rfl))) (fun i => ((ju_c _ _ (by decide)).trans (rfl))) (fun i => ((ju_c _ _ (by decide)).trans (rfl))) ((ju_i _ _ (by decide)).trans (rfl)) (by omega)), by omega, by omega, Or.inr ⟨by omega, by omega, by omega, (by rw [((ju_i _ _ (by decide)).trans hhv), (ju_same _ _ _ _), t3]; split <;> omega), by omega⟩⟩) (fun a i f598 f602 f603 f604 f605 f624 f670 f671 f672 f673 f674 f675 f676 f677 f678 f679 f680 f681 f682 f683 f684 f685 f686 f687 => ((ju_c _ _ f598).trans (hF_M a i f598 f602 f603 f604 f605 f624 f670 f671 f672 f673 f674 f675 f676 f677 f678 f679 f680 f681 f682 f683 f684 f685 f686 f687))) (fun i g6 g10 g11 g12 g59 g60 g61 g62 g63 g64 g65 g66 g110 g112 g122 g131 g132 g134 g135 g136 g137 g138 g139 g143 g145 => ((ju_i _ _ g132).trans (hG_M i g6 g10 g11 g12 g59 g60 g61 g62 g63 g64 g65 g66 g110 g112 g122 g131 g132 g134 g135 g136 g137 g138 g139 g143 g145))))
theorem r_act_L94 {A : Nat → Option (Nat × (Nat → Int32))} {Q : Option Value → jm → Prop} {L n : Int} {ht : Int → Int} {M0 : jm} (q : ∀ (M' : jm), RI M' → RH M' → RF M' → AS M' (L + 1) → ((M' 598 136 = 1 ∧ M' 598 135 = 0) ∨ (M' 598 136 = 0 ∧ FRS M' ht n (M' 598 122) ∧ 1 ≤ M' 598 122 ∧ M' 598 122 ≤ 8 ∧ ((M' 598 135 ≠ 0 ∧ phi M' = phi M0 ∧ M' 598 143 = M0 598 143) ∨ (M' 598 135 = 0 ∧ 0 ≤ M' 598 132 ∧ M' 598 132 < n ∧ M' 598 131 = ht (M' 598 132) ∧ mu M' < mu M0)))) → (∀ (a : Nat) (i : Int), a ≠ 598 → a ≠ 602 → a ≠ 603 → a ≠ 604 → a ≠ 605 → a ≠ 624 → a ≠ 670 → a ≠ 671 → a ≠ 672 → a ≠ 673 → a ≠ 674 → a ≠ 675 → a ≠ 676 → a ≠ 677 → a ≠ 678 → a ≠ 679 → a ≠ 680 → a ≠ 681 → a ≠ 682 → a ≠ 683 → a ≠ 684 → a ≠ 685 → a ≠ 686 → a ≠ 687 → M' a i = M0 a i) → (∀ (i : Int), i ≠ 6 → i ≠ 10 → i ≠ 11 → i ≠ 12 → i ≠ 59 → i ≠ 60 → i ≠ 61 → i ≠ 62 → i ≠ 63 → i ≠ 64 → i ≠ 65 → i ≠ 66 → i ≠ 110 → i ≠ 112 → i ≠ 122 → i ≠ 131 → i ≠ 132 → i ≠ 134 → i ≠ 135 → i ≠ 136 → i ≠ 137 → i ≠ 138 → i ≠ 139 → i ≠ 143 → i ≠ 145 → M' 598 i = M0 598 i) → Q none M') : ∀ (M : jm) (a : Int) (o : Int), RI M → RH M → RF M → (∀ (a : Nat) (i : Int), a ≠ 598 → a ≠ 602 → a ≠ 603 → a ≠ 604 → a ≠ 605 → a ≠ 624 → a ≠ 670 → a ≠ 671 → a ≠ 672 → a ≠ 673 → a ≠ 674 → a ≠ 675 → a ≠ 676 → a ≠ 677 → a ≠ 678 → a ≠ 679 → a ≠ 680 → a ≠ 681 → a ≠ 682 → a ≠ 683 → a ≠ 684 → a ≠ 685 → a ≠ 686 → a ≠ 687 → M a i = M0 a i) → (∀ (i : Int), i ≠ 6 → i ≠ 10 → i ≠ 11 → i ≠ 12 → i ≠ 59 → i ≠ 60 → i ≠ 61 → i ≠ 62 → i ≠ 63 → i ≠ 64 → i ≠ 65 → i ≠ 66 → i ≠ 110 → i ≠ 112 → i ≠ 122 → i ≠ 131 → i ≠ 132 → i ≠ 134 → i ≠ 135 → i ≠ 136 → i ≠ 137 → i ≠ 138 → i ≠ 139 → i ≠ 143 → i ≠ 145 → M 598 i = M0 598 i) → (-9223372036854775808) ≤ a ∧ a ≤ 9223372036854775807 → 0 ≤ o ∧ o ≤ 1000 → MX M ht n → FRS M ht n (M 598 122) → 1 ≤ M 598 122 ∧ M 598 122 ≤ 8 → AS M L → L ≤ 1999999999 → (0 ≤ M 598 132 ∧ M 598 132 < n) → M 598 131 = ht (M 598 132) → o = M 654 (M 598 132) → a = M 655 (M 598 132) → (M 598 135 = 0 ∧ M 598 136 = 0) → M = M0 → o = 1 → jr A 9 xm_380 94 [(2, .long (Int64.ofInt (a))), (1, .int (Int32.ofInt (o))), (0, .ref (598))] [] M Q := by
    intro M a o hI_M hH_M hS_M hF_M hG_M h_a h_o hy0 hy1 hy2 hy3 hy4 hy5 hy6 hy7 hy8 hy9 hy10 hy11
    have hyM := hy10
    have ho := hy11
    have hp0 := hy0
    have hp1 := hy1
    have hp2 := hy2
    have hp3 := hy3
    have hp4 := hy4
    have hp5 := hy5
    have hp6 := hy6
    have hp7 := hy7
    have hp8 := hy8
    have hp9 := hy9
    subst hyM
    have p0 := hp0
    have p1 := hp1
    have p2 := hp2
    have p3 := hp3
    have p4 := hp4
    have p5 := hp5
    have p6 := hp6
    have p7 := hp7
    have p8 := hp8
    have p9 := hp9
    have hMX := p0
    have hFR := p1
    have hAS := p3
    obtain ⟨P, hP⟩ : ∃ z, M 598 132 = z := ⟨_, rfl⟩
    rw [hP] at p5 p6 p7 p8
    have nb := hMX.1
    have nb2 := hMX.2.1
    obtain ⟨⟨q1, q2, q3, q4, q5, q6⟩, q7, q8, q9⟩ := hMX.2.2.1 P p5.1 p5.2
    rw [← p7] at q3 q4 q5 q6 q7 q8 q9
    rw [← p8] at q7 q8 q9
    have nd : ndo o = 1 := by
      first | (rw [ho]; decide) | (rcases ho with z | z <;> rw [z] <;> decide)
    have dl : dlo o = -1 := by
      first | (rw [ho]; decide) | (rcases ho with z | z <;> rw [z] <;> decide)
    rw [dl] at q4
    rw [nd] at q5
    have q6 := q6 (by unfold exo; omega)
    obtain ⟨t1, t2, t3, t4⟩ := (q7 (by unfold jpo; omega)).resolve_left id
    clear q7
    have pn : P + 1 < n := by
      by_cases y : P = n - 1
      · exfalso
        have z2 := hMX.2.2.2.2
        rw [← y, ← p7] at z2
        omega
      · omega
    have cN : cr (M 654) (P + 1) = 0 := MX.cr0 hMX (by omega) pn (by rw [show P + 1 - 1 = P by omega, ← p7]; omega)
    obtain ⟨Fv, hFv⟩ : ∃ z, M 598 122 = z := ⟨_, rfl⟩
    obtain ⟨hv, hhv⟩ : ∃ z, M 598 131 = z := ⟨_, rfl⟩
    rw [hhv] at p6
    clear q3
    obtain ⟨st, hst⟩ : ∃ z, M 598 143 = z := ⟨_, rfl⟩
    have bst : (0 : Int) ≤ st ∧ st ≤ 300 := by rw [← hst]; exact hI_M 598 143 (by decide)
    have cl := cr_le (M 654) P
    refine jr.aload_n rfl rfl ?_
    refine jr.dup rfl rfl ?_
    refine jr.getf (i := 131) (x := hv) (v := .int (Int32.ofInt (hv))) rfl rfl (by decide) rfl (by decide) rfl rfl hhv rfl ?_
    refine jr.iconst rfl ?_
    refine jr.isub rfl ?_
    refine jr.putf (i := 131) (x := (hv - 1)) rfl rfl (by decide) rfl (by decide) rfl rfl rfl rfl rfl ?_
    refine jr.aload_n rfl rfl ?_
    refine jr.getf (i := 130) (v := .ref 686) rfl rfl (by decide) rfl (by decide) rfl rfl rfl rfl ?_
    refine jr.aload_n rfl rfl ?_
    refine jr.getf (i := 131) (x := (hv - 1)) (v := .int (Int32.ofInt (hv - 1))) rfl rfl (by decide) rfl (by decide) rfl rfl (ju_same _ _ _ _) rfl ?_
    obtain ⟨v1, e1⟩ : ∃ z, M 686 (hv - 1) = z := ⟨_, rfl⟩
    have b1 : (-9223372036854775808) ≤ v1 ∧ v1 ≤ 9223372036854775807 := by rw [← e1]; exact (by have q := hI_M 686 (hv - 1) (by decide); rw [xri_row rfl rfl] at q; exact q)
    refine jr.lald (i := (hv - 1)) (x := v1) rfl (by decide) rfl (by decide) (by omega) (by omega) ((ju_c _ _ (by decide)).trans e1) ?_
    refine jr.lconst (x := 0) rfl (by decide) ?_
    refine jr.lcmp_ne rfl rfl rfl (by omega) (by omega) (fun h114 => ?_) (fun h114 => ?_)
    · have y2 : (ju M 598 131 (hv - 1)) 598 122 = Fv := ((ju_i _ _ (by decide)).trans hFv)
      obtain ⟨v3, e3⟩ : ∃ z, M 598 136 = z := ⟨_, rfl⟩
      have b3 : 0 ≤ v3 ∧ v3 ≤ 1 := by rw [← e3]; exact hI_M 598 136 (by decide)
      obtain ⟨v4, e4⟩ : ∃ z, M 598 135 = z := ⟨_, rfl⟩
      have b4 : 0 ≤ v4 ∧ v4 ≤ 8 := by rw [← e4]; exact hI_M 598 135 (by decide)
      refine jr.pick [2] rfl rfl ?_
      exact r_act_L487 (L := L) (n := n) (ht := ht) q (ju M 598 131 (hv - 1))  (RI.u hI_M (a := 598) (i := 131) (show (0 : Int) ≤ _ ∧ _ ≤ (400 : Int) from by omega)) (RH.o hH_M (by decide) (by decide) (by decide)) (RF.o hS_M (by decide) (by decide))  (fun a i f598 f602 f603 f604 f605 f624 f670 f671 f672 f673 f674 f675 f676 f677 f678 f679 f680 f681 f682 f683 f684 f685 f686 f687 => ((ju_c _ _ f598).trans (hF_M a i f598 f602 f603 f604 f605 f624 f670 f671 f672 f673 f674 f675 f676 f677 f678 f679 f680 f681 f682 f683 f684 f685 f686 f687))) (fun i g6 g10 g11 g12 g59 g60 g61 g62 g63 g64 g65 g66 g110 g112 g122 g131 g132 g134 g135 g136 g137 g138 g139 g143 g145 => ((ju_i _ _ g131).trans (hG_M i g6 g10 g11 g12 g59 g60 g61 g62 g63 g64 g65 g66 g110 g112 g122 g131 g132 g134 g135 g136 g137 g138 g139 g143 g145)))  (FRS.fr hFR (fun i => ((ju_c _ _ (by decide)).trans (rfl))) (fun i => ((ju_c _ _ (by decide)).trans (rfl))) (fun i => ((ju_c _ _ (by decide)).trans (rfl))) ((ju_i _ _ (by decide)).trans (rfl)) (by omega)) (AS.up (AS.o hAS (by decide) (Or.inr (by decide))) (by omega)) (by rw [((ju_i _ _ (by decide)).trans hFv)] <;> omega) (phi.fr (M := M) (M' := (ju M 598 131 (hv - 1))) ((ju_i _ _ (by decide)).trans (rfl)) (fun i => ((ju_c _ _ (by decide)).trans (rfl)))) (by rw [((ju_i _ _ (by decide)).trans e3)] <;> omega) (by rw [((ju_i _ _ (by decide)).trans hP)] <;> omega) (by omega) (fun _ => by rw [(ju_same _ _ _ _), hP, q4]; omega) (by rw [((ju_i _ _ (by decide)).trans hst), ((ju_i _ _ (by decide)).trans e4), hst, hP]; first | (exact Or.inl ⟨by omega, cN⟩) | (exact Or.inr ⟨by omega, by omega⟩))
    · refine jr.aload_n rfl rfl ?_
      refine jr.lload_n rfl rfl ?_
      refine jr.l2i rfl ?_
      refine jr.putf (i := 132) (x := a) rfl rfl (by decide) rfl (by decide) rfl rfl rfl rfl rfl ?_
      have y5 : (ju (ju M 598 131 (hv - 1)) 598 132 a) 598 122 = Fv := ((ju_i _ _ (by decide)).trans ((ju_i _ _ (by decide)).trans hFv))
      have y6 : (ju (ju M 598 131 (hv - 1)) 598 132 a) 598 131 = hv - 1 := ((ju_i _ _ (by decide)).trans (ju_same _ _ _ _))
      have y7 : (ju (ju M 598 131 (hv - 1)) 598 132 a) 598 132 = a := (ju_same _ _ _ _)
      obtain ⟨v8, e8⟩ : ∃ z, M 598 135 = z := ⟨_, rfl⟩
      have b8 : 0 ≤ v8 ∧ v8 ≤ 8 := by rw [← e8]; exact hI_M 598 135 (by decide)
      have y9 : (ju (ju M 598 131 (hv - 1)) 598 132 a) 598 135 = v8 := ((ju_i _ _ (by decide)).trans ((ju_i _ _ (by decide)).trans e8))
      obtain ⟨v10, e10⟩ : ∃ z, M 598 136 = z := ⟨_, rfl⟩
      have b10 : 0 ≤ v10 ∧ v10 ≤ 1 := by rw [← e10]; exact hI_M 598 136 (by decide)
      have y11 : (ju (ju M 598 131 (hv - 1)) 598 132 a) 598 136 = v10 := ((ju_i _ _ (by decide)).trans ((ju_i _ _ (by decide)).trans e10))
      have y12 : (ju (ju M 598 131 (hv - 1)) 598 132 a) 598 143 = st := ((ju_i _ _ (by decide)).trans ((ju_i _ _ (by decide)).trans hst))
      have hmu := mu.eq hst rfl hP (rfl : cr (M 654) P = cr (M 654) P)
      have zph : phi (ju (ju M 598 131 (hv - 1)) 598 132 a) = phi M := (phi.fr (M := M) (M' := (ju (ju M 598 131 (hv - 1)) 598 132 a)) ((ju_i _ _ (by decide)).trans ((ju_i _ _ (by decide)).trans (rfl))) (fun i => ((ju_c _ _ (by decide)).trans ((ju_c _ _ (by decide)).trans (rfl)))))
      have zm := mu.eq (M := (ju (ju M 598 131 (hv - 1)) 598 132 a)) ((ju_i _ _ (by decide)).trans ((ju_i _ _ (by decide)).trans hst)) zph (ju_same _ _ _ _) (show cr ((ju (ju M 598 131 (hv - 1)) 598 132 a) 654) a = 0 by rw [show (ju (ju M 598 131 (hv - 1)) 598 132 a) 654 = M 654 from funext (fun i => ((ju_c _ _ (by decide)).trans ((ju_c _ _ (by decide)).trans (rfl))))]; exact MX.cr0 hMX (by omega) (by omega) t4)
      exact jr.vreturn rfl rfl (q _ (RI.u (RI.u hI_M (a := 598) (i := 131) (show (0 : Int) ≤ _ ∧ _ ≤ (400 : Int) from by omega)) (a := 598) (i := 132) (show (0 : Int) ≤ _ ∧ _ ≤ (2200 : Int) from by omega)) (RH.o (RH.o hH_M (by decide) (by decide) (by decide)) (by decide) (by decide) (by decide)) (RF.o (RF.o hS_M (by decide) (by decide)) (by decide) (by decide))  (AS.up (AS.o (AS.o hAS (by decide) (Or.inr (by decide))) (by decide) (Or.inr (by decide))) (by omega)) (Or.inr ⟨by omega, (FRS.fr hFR (fun i => ((ju_c _ _ (by decide)).trans ((ju_c _ _ (by decide)).trans (rfl)))) (fun i => ((ju_c _ _ (by decide)).trans ((ju_c _ _ (by decide)).trans (rfl)))) (fun i => ((ju_c _ _ (by decide)).trans ((ju_c _ _ (by decide)).trans (rfl)))) ((ju_i _ _ (by decide)).trans ((ju_i _ _ (by decide)).trans (rfl))) (by omega)), by omega, by omega, Or.inr ⟨by omega, by omega, by omega, (by rw [((ju_i _ _ (by decide)).trans (ju_same _ _ _ _)), (ju_same _ _ _ _), t3]; split <;> omega), by omega⟩⟩) (fun a i f598 f602 f603 f604 f605 f624 f670 f671 f672 f673 f674 f675 f676 f677 f678 f679 f680 f681 f682 f683 f684 f685 f686 f687 => ((ju_c _ _ f598).trans ((ju_c _ _ f598).trans (hF_M a i f598 f602 f603 f604 f605 f624 f670 f671 f672 f673 f674 f675 f676 f677 f678 f679 f680 f681 f682 f683 f684 f685 f686 f687)))) (fun i g6 g10 g11 g12 g59 g60 g61 g62 g63 g64 g65 g66 g110 g112 g122 g131 g132 g134 g135 g136 g137 g138 g139 g143 g145 => ((ju_i _ _ g132).trans ((ju_i _ _ g131).trans (hG_M i g6 g10 g11 g12 g59 g60 g61 g62 g63 g64 g65 g66 g110 g112 g122 g131 g132 g134 g135 g136 g137 g138 g139 g143 g145)))))
theorem r_act_L64 {A : Nat → Option (Nat × (Nat → Int32))} {Q : Option Value → jm → Prop} {L n : Int} {ht : Int → Int} {M0 : jm} (q : ∀ (M' : jm), RI M' → RH M' → RF M' → AS M' (L + 1) → ((M' 598 136 = 1 ∧ M' 598 135 = 0) ∨ (M' 598 136 = 0 ∧ FRS M' ht n (M' 598 122) ∧ 1 ≤ M' 598 122 ∧ M' 598 122 ≤ 8 ∧ ((M' 598 135 ≠ 0 ∧ phi M' = phi M0 ∧ M' 598 143 = M0 598 143) ∨ (M' 598 135 = 0 ∧ 0 ≤ M' 598 132 ∧ M' 598 132 < n ∧ M' 598 131 = ht (M' 598 132) ∧ mu M' < mu M0)))) → (∀ (a : Nat) (i : Int), a ≠ 598 → a ≠ 602 → a ≠ 603 → a ≠ 604 → a ≠ 605 → a ≠ 624 → a ≠ 670 → a ≠ 671 → a ≠ 672 → a ≠ 673 → a ≠ 674 → a ≠ 675 → a ≠ 676 → a ≠ 677 → a ≠ 678 → a ≠ 679 → a ≠ 680 → a ≠ 681 → a ≠ 682 → a ≠ 683 → a ≠ 684 → a ≠ 685 → a ≠ 686 → a ≠ 687 → M' a i = M0 a i) → (∀ (i : Int), i ≠ 6 → i ≠ 10 → i ≠ 11 → i ≠ 12 → i ≠ 59 → i ≠ 60 → i ≠ 61 → i ≠ 62 → i ≠ 63 → i ≠ 64 → i ≠ 65 → i ≠ 66 → i ≠ 110 → i ≠ 112 → i ≠ 122 → i ≠ 131 → i ≠ 132 → i ≠ 134 → i ≠ 135 → i ≠ 136 → i ≠ 137 → i ≠ 138 → i ≠ 139 → i ≠ 143 → i ≠ 145 → M' 598 i = M0 598 i) → Q none M') : ∀ (M : jm) (a : Int) (o : Int), RI M → RH M → RF M → (∀ (a : Nat) (i : Int), a ≠ 598 → a ≠ 602 → a ≠ 603 → a ≠ 604 → a ≠ 605 → a ≠ 624 → a ≠ 670 → a ≠ 671 → a ≠ 672 → a ≠ 673 → a ≠ 674 → a ≠ 675 → a ≠ 676 → a ≠ 677 → a ≠ 678 → a ≠ 679 → a ≠ 680 → a ≠ 681 → a ≠ 682 → a ≠ 683 → a ≠ 684 → a ≠ 685 → a ≠ 686 → a ≠ 687 → M a i = M0 a i) → (∀ (i : Int), i ≠ 6 → i ≠ 10 → i ≠ 11 → i ≠ 12 → i ≠ 59 → i ≠ 60 → i ≠ 61 → i ≠ 62 → i ≠ 63 → i ≠ 64 → i ≠ 65 → i ≠ 66 → i ≠ 110 → i ≠ 112 → i ≠ 122 → i ≠ 131 → i ≠ 132 → i ≠ 134 → i ≠ 135 → i ≠ 136 → i ≠ 137 → i ≠ 138 → i ≠ 139 → i ≠ 143 → i ≠ 145 → M 598 i = M0 598 i) → (-9223372036854775808) ≤ a ∧ a ≤ 9223372036854775807 → 0 ≤ o ∧ o ≤ 1000 → MX M ht n → FRS M ht n (M 598 122) → 1 ≤ M 598 122 ∧ M 598 122 ≤ 8 → AS M L → L ≤ 1999999999 → (0 ≤ M 598 132 ∧ M 598 132 < n) → M 598 131 = ht (M 598 132) → o = M 654 (M 598 132) → a = M 655 (M 598 132) → (M 598 135 = 0 ∧ M 598 136 = 0) → M = M0 → o = 0 → jr A 9 xm_380 64 [(2, .long (Int64.ofInt (a))), (1, .int (Int32.ofInt (o))), (0, .ref (598))] [] M Q := by
    intro M a o hI_M hH_M hS_M hF_M hG_M h_a h_o hy0 hy1 hy2 hy3 hy4 hy5 hy6 hy7 hy8 hy9 hy10 hy11
    have hyM := hy10
    have ho := hy11
    have hp0 := hy0
    have hp1 := hy1
    have hp2 := hy2
    have hp3 := hy3
    have hp4 := hy4
    have hp5 := hy5
    have hp6 := hy6
    have hp7 := hy7
    have hp8 := hy8
    have hp9 := hy9
    subst hyM
    have p0 := hp0
    have p1 := hp1
    have p2 := hp2
    have p3 := hp3
    have p4 := hp4
    have p5 := hp5
    have p6 := hp6
    have p7 := hp7
    have p8 := hp8
    have p9 := hp9
    have hMX := p0
    have hFR := p1
    have hAS := p3
    obtain ⟨P, hP⟩ : ∃ z, M 598 132 = z := ⟨_, rfl⟩
    rw [hP] at p5 p6 p7 p8
    have nb := hMX.1
    have nb2 := hMX.2.1
    obtain ⟨⟨q1, q2, q3, q4, q5, q6⟩, q7, q8, q9⟩ := hMX.2.2.1 P p5.1 p5.2
    rw [← p7] at q3 q4 q5 q6 q7 q8 q9
    rw [← p8] at q7 q8 q9
    have nd : ndo o = 0 := by
      first | (rw [ho]; decide) | (rcases ho with z | z <;> rw [z] <;> decide)
    have dl : dlo o = 0 := by
      first | (rw [ho]; decide) | (rcases ho with z | z <;> rw [z] <;> decide)
    rw [dl] at q4
    rw [nd] at q5
    have q6 := q6 (by unfold exo; omega)
    clear q7
    have pn : P + 1 < n := by
      by_cases y : P = n - 1
      · exfalso
        have z2 := hMX.2.2.2.2
        rw [← y, ← p7] at z2
        omega
      · omega
    obtain ⟨Fv, hFv⟩ : ∃ z, M 598 122 = z := ⟨_, rfl⟩
    obtain ⟨hv, hhv⟩ : ∃ z, M 598 131 = z := ⟨_, rfl⟩
    rw [hhv] at p6
    clear q3
    obtain ⟨st, hst⟩ : ∃ z, M 598 143 = z := ⟨_, rfl⟩
    have bst : (0 : Int) ≤ st ∧ st ≤ 300 := by rw [← hst]; exact hI_M 598 143 (by decide)
    have cl := cr_le (M 654) P
    refine jr.aload_n rfl rfl ?_
    refine jr.getf (i := 143) (x := st) (v := .int (Int32.ofInt (st))) rfl rfl (by decide) rfl (by decide) rfl rfl hst rfl ?_
    refine jr.sipush rfl (by decide) ?_
    refine jr.icmp_ne rfl rfl (by omega) (by omega) (fun h71 => ?_) (fun h71 => ?_)
    · have sx71 : st ≤ (299 : Int) := by omega
      refine jr.aload_n rfl rfl ?_
      refine jr.dup rfl rfl ?_
      refine jr.getf (i := 143) (x := st) (v := .int (Int32.ofInt (st))) rfl rfl (by decide) rfl (by decide) rfl rfl hst rfl ?_
      refine jr.iconst rfl ?_
      refine jr.iadd rfl ?_
      refine jr.putf (i := 143) (x := (st + 1)) rfl rfl (by decide) rfl (by decide) rfl rfl rfl rfl rfl ?_
      refine jr.goto rfl rfl ?_
      have y1 : (ju M 598 143 (st + 1)) 598 122 = Fv := ((ju_i _ _ (by decide)).trans hFv)
      obtain ⟨v2, e2⟩ : ∃ z, M 598 136 = z := ⟨_, rfl⟩
      have b2 : 0 ≤ v2 ∧ v2 ≤ 1 := by rw [← e2]; exact hI_M 598 136 (by decide)
      obtain ⟨v3, e3⟩ : ∃ z, M 598 135 = z := ⟨_, rfl⟩
      have b3 : 0 ≤ v3 ∧ v3 ≤ 8 := by rw [← e3]; exact hI_M 598 135 (by decide)
      refine jr.pick [2] rfl rfl ?_
      exact r_act_L487 (L := L) (n := n) (ht := ht) q (ju M 598 143 (st + 1))  (RI.u hI_M (a := 598) (i := 143) (show (0 : Int) ≤ _ ∧ _ ≤ (300 : Int) from by omega)) (RH.o hH_M (by decide) (by decide) (by decide)) (RF.o hS_M (by decide) (by decide))  (fun a i f598 f602 f603 f604 f605 f624 f670 f671 f672 f673 f674 f675 f676 f677 f678 f679 f680 f681 f682 f683 f684 f685 f686 f687 => ((ju_c _ _ f598).trans (hF_M a i f598 f602 f603 f604 f605 f624 f670 f671 f672 f673 f674 f675 f676 f677 f678 f679 f680 f681 f682 f683 f684 f685 f686 f687))) (fun i g6 g10 g11 g12 g59 g60 g61 g62 g63 g64 g65 g66 g110 g112 g122 g131 g132 g134 g135 g136 g137 g138 g139 g143 g145 => ((ju_i _ _ g143).trans (hG_M i g6 g10 g11 g12 g59 g60 g61 g62 g63 g64 g65 g66 g110 g112 g122 g131 g132 g134 g135 g136 g137 g138 g139 g143 g145)))  (FRS.fr hFR (fun i => ((ju_c _ _ (by decide)).trans (rfl))) (fun i => ((ju_c _ _ (by decide)).trans (rfl))) (fun i => ((ju_c _ _ (by decide)).trans (rfl))) ((ju_i _ _ (by decide)).trans (rfl)) (by omega)) (AS.up (AS.o hAS (by decide) (Or.inr (by decide))) (by omega)) (by rw [((ju_i _ _ (by decide)).trans hFv)] <;> omega) (phi.fr (M := M) (M' := (ju M 598 143 (st + 1))) ((ju_i _ _ (by decide)).trans (rfl)) (fun i => ((ju_c _ _ (by decide)).trans (rfl)))) (by rw [((ju_i _ _ (by decide)).trans e2)] <;> omega) (by rw [((ju_i _ _ (by decide)).trans hP)] <;> omega) (by omega) (fun _ => by rw [((ju_i _ _ (by decide)).trans hhv), hP, q4]; omega) (by rw [(ju_same _ _ _ _), ((ju_i _ _ (by decide)).trans e3), hst, hP]; first | (exact Or.inl ⟨by omega, cN⟩) | (exact Or.inr ⟨by omega, by omega⟩))
    · refine jr.aload_n rfl rfl ?_
      refine jr.bipush rfl (by decide) ?_
      refine jr.putf (i := 135) (x := 8) rfl rfl (by decide) rfl (by decide) rfl rfl rfl rfl rfl ?_
      have y4 : (ju M 598 135 8) 598 122 = Fv := ((ju_i _ _ (by decide)).trans hFv)
      have y5 : (ju M 598 135 8) 598 131 = hv := ((ju_i _ _ (by decide)).trans hhv)
      have y6 : (ju M 598 135 8) 598 132 = P := ((ju_i _ _ (by decide)).trans hP)
      have y7 : (ju M 598 135 8) 598 135 = 8 := (ju_same _ _ _ _)
      obtain ⟨v8, e8⟩ : ∃ z, M 598 136 = z := ⟨_, rfl⟩
      have b8 : 0 ≤ v8 ∧ v8 ≤ 1 := by rw [← e8]; exact hI_M 598 136 (by decide)
      have y9 : (ju M 598 135 8) 598 136 = v8 := ((ju_i _ _ (by decide)).trans e8)
      have y10 : (ju M 598 135 8) 598 143 = st := ((ju_i _ _ (by decide)).trans hst)
      exact jr.vreturn rfl rfl (q _ (RI.u hI_M (a := 598) (i := 135) (show (0 : Int) ≤ _ ∧ _ ≤ (8 : Int) from by omega)) (RH.o hH_M (by decide) (by decide) (by decide)) (RF.o hS_M (by decide) (by decide))  (AS.up (AS.o hAS (by decide) (Or.inr (by decide))) (by omega)) (Or.inr ⟨by omega, (FRS.fr hFR (fun i => ((ju_c _ _ (by decide)).trans (rfl))) (fun i => ((ju_c _ _ (by decide)).trans (rfl))) (fun i => ((ju_c _ _ (by decide)).trans (rfl))) ((ju_i _ _ (by decide)).trans (rfl)) (by omega)), by omega, by omega, Or.inl ⟨by omega, (phi.fr (M := M) (M' := (ju M 598 135 8)) ((ju_i _ _ (by decide)).trans (rfl)) (fun i => ((ju_c _ _ (by decide)).trans (rfl)))), by omega⟩⟩) (fun a i f598 f602 f603 f604 f605 f624 f670 f671 f672 f673 f674 f675 f676 f677 f678 f679 f680 f681 f682 f683 f684 f685 f686 f687 => ((ju_c _ _ f598).trans (hF_M a i f598 f602 f603 f604 f605 f624 f670 f671 f672 f673 f674 f675 f676 f677 f678 f679 f680 f681 f682 f683 f684 f685 f686 f687))) (fun i g6 g10 g11 g12 g59 g60 g61 g62 g63 g64 g65 g66 g110 g112 g122 g131 g132 g134 g135 g136 g137 g138 g139 g143 g145 => ((ju_i _ _ g135).trans (hG_M i g6 g10 g11 g12 g59 g60 g61 g62 g63 g64 g65 g66 g110 g112 g122 g131 g132 g134 g135 g136 g137 g138 g139 g143 g145))))
theorem r_act {A : Nat → Option (Nat × (Nat → Int32))} {Q : Option Value → jm → Prop} {L n : Int} {ht : Int → Int} {M : jm} (hI_M : RI M) (hH_M : RH M) (hS_M : RF M) {o : Int} (h_o : 0 ≤ o ∧ o ≤ 1000) {a : Int} (h_a : (-9223372036854775808) ≤ a ∧ a ≤ 9223372036854775807) (p0 : MX M ht n) (p1 : FRS M ht n (M 598 122)) (p2 : 1 ≤ M 598 122 ∧ M 598 122 ≤ 8) (p3 : AS M L) (p4 : L ≤ 1999999999) (p5 : (0 ≤ M 598 132 ∧ M 598 132 < n)) (p6 : M 598 131 = ht (M 598 132)) (p7 : o = M 654 (M 598 132)) (p8 : a = M 655 (M 598 132)) (p9 : (M 598 135 = 0 ∧ M 598 136 = 0)) (q : ∀ (M' : jm), RI M' → RH M' → RF M' → AS M' (L + 1) → ((M' 598 136 = 1 ∧ M' 598 135 = 0) ∨ (M' 598 136 = 0 ∧ FRS M' ht n (M' 598 122) ∧ 1 ≤ M' 598 122 ∧ M' 598 122 ≤ 8 ∧ ((M' 598 135 ≠ 0 ∧ phi M' = phi M ∧ M' 598 143 = M 598 143) ∨ (M' 598 135 = 0 ∧ 0 ≤ M' 598 132 ∧ M' 598 132 < n ∧ M' 598 131 = ht (M' 598 132) ∧ mu M' < mu M)))) → (∀ (a : Nat) (i : Int), a ≠ 598 → a ≠ 602 → a ≠ 603 → a ≠ 604 → a ≠ 605 → a ≠ 624 → a ≠ 670 → a ≠ 671 → a ≠ 672 → a ≠ 673 → a ≠ 674 → a ≠ 675 → a ≠ 676 → a ≠ 677 → a ≠ 678 → a ≠ 679 → a ≠ 680 → a ≠ 681 → a ≠ 682 → a ≠ 683 → a ≠ 684 → a ≠ 685 → a ≠ 686 → a ≠ 687 → M' a i = M a i) → (∀ (i : Int), i ≠ 6 → i ≠ 10 → i ≠ 11 → i ≠ 12 → i ≠ 59 → i ≠ 60 → i ≠ 61 → i ≠ 62 → i ≠ 63 → i ≠ 64 → i ≠ 65 → i ≠ 66 → i ≠ 110 → i ≠ 112 → i ≠ 122 → i ≠ 131 → i ≠ 132 → i ≠ 134 → i ≠ 135 → i ≠ 136 → i ≠ 137 → i ≠ 138 → i ≠ 139 → i ≠ 143 → i ≠ 145 → M' 598 i = M 598 i) → Q none M') : jc A 10 380 [.ref (598), .int (Int32.ofInt (o)), .long (Int64.ofInt (a))] M Q := by
  refine jc_of (m := xm_380) rfl (Nat.le_of_ble_eq_true rfl) rfl ?_
  refine jr.iload_n rfl rfl ?_
  rcases (show o = 0 ∨ o = 1 ∨ o = 2 ∨ o = 3 ∨ o = 4 ∨ o = 5 ∨ o = 6 ∨ o = 7 ∨ o = 8 ∨ o = 9 ∨ o = 10 ∨ o = 11 ∨ (o ≠ 0 ∧ o ≠ 1 ∧ o ≠ 2 ∧ o ≠ 3 ∧ o ≠ 4 ∧ o ≠ 5 ∧ o ≠ 6 ∧ o ≠ 7 ∧ o ≠ 8 ∧ o ≠ 9 ∧ o ≠ 10 ∧ o ≠ 11) by omega) with h1 | h1 | h1 | h1 | h1 | h1 | h1 | h1 | h1 | h1 | h1 | h1 | h1
  · refine jr.tsw_k 0 rfl h1 rfl ?_
    refine jr.pick [2, 1, 0] rfl rfl ?_
    exact r_act_L64 (L := L) (n := n) (ht := ht) q M a o hI_M hH_M hS_M  (fun a i f598 f602 f603 f604 f605 f624 f670 f671 f672 f673 f674 f675 f676 f677 f678 f679 f680 f681 f682 f683 f684 f685 f686 f687 => rfl) (fun i g6 g10 g11 g12 g59 g60 g61 g62 g63 g64 g65 g66 g110 g112 g122 g131 g132 g134 g135 g136 g137 g138 g139 g143 g145 => rfl) (by omega) (by omega) p0 p1 p2 p3 p4 p5 p6 p7 p8 p9 rfl (by omega)
  · refine jr.tsw_k 1 rfl h1 rfl ?_
    refine jr.pick [2, 1, 0] rfl rfl ?_
    exact r_act_L94 (L := L) (n := n) (ht := ht) q M a o hI_M hH_M hS_M  (fun a i f598 f602 f603 f604 f605 f624 f670 f671 f672 f673 f674 f675 f676 f677 f678 f679 f680 f681 f682 f683 f684 f685 f686 f687 => rfl) (fun i g6 g10 g11 g12 g59 g60 g61 g62 g63 g64 g65 g66 g110 g112 g122 g131 g132 g134 g135 g136 g137 g138 g139 g143 g145 => rfl) (by omega) (by omega) p0 p1 p2 p3 p4 p5 p6 p7 p8 p9 rfl (by omega)
  · refine jr.tsw_k 2 rfl h1 rfl ?_
    refine jr.pick [2, 1, 0] rfl rfl ?_
    exact r_act_L125 (L := L) (n := n) (ht := ht) q M a o hI_M hH_M hS_M  (fun a i f598 f602 f603 f604 f605 f624 f670 f671 f672 f673 f674 f675 f676 f677 f678 f679 f680 f681 f682 f683 f684 f685 f686 f687 => rfl) (fun i g6 g10 g11 g12 g59 g60 g61 g62 g63 g64 g65 g66 g110 g112 g122 g131 g132 g134 g135 g136 g137 g138 g139 g143 g145 => rfl) (by omega) (by omega) p0 p1 p2 p3 p4 p5 p6 p7 p8 p9 rfl (by omega)
  · refine jr.tsw_k 3 rfl h1 rfl ?_
    refine jr.pick [2, 1, 0] rfl rfl ?_
    exact r_act_L132 (L := L) (n := n) (ht := ht) q M a o hI_M hH_M hS_M  (fun a i f598 f602 f603 f604 f605 f624 f670 f671 f672 f673 f674 f675 f676 f677 f678 f679 f680 f681 f682 f683 f684 f685 f686 f687 => rfl) (fun i g6 g10 g11 g12 g59 g60 g61 g62 g63 g64 g65 g66 g110 g112 g122 g131 g132 g134 g135 g136 g137 g138 g139 g143 g145 => rfl) (by omega) (by omega) p0 p1 p2 p3 p4 p5 p6 p7 p8 p9 rfl (by omega)
  · refine jr.tsw_k 4 rfl h1 rfl ?_
    refine jr.pick [2, 1, 0] rfl rfl ?_
    exact r_act_L246 (L := L) (n := n) (ht := ht) q M a o hI_M hH_M hS_M  (fun a i f598 f602 f603 f604 f605 f624 f670 f671 f672 f673 f674 f675 f676 f677 f678 f679 f680 f681 f682 f683 f684 f685 f686 f687 => rfl) (fun i g6 g10 g11 g12 g59 g60 g61 g62 g63 g64 g65 g66 g110 g112 g122 g131 g132 g134 g135 g136 g137 g138 g139 g143 g145 => rfl) (by omega) (by omega) p0 p1 p2 p3 p4 p5 p6 p7 p8 p9 rfl (by omega)
  · refine jr.tsw_k 5 rfl h1 rfl ?_
    refine jr.pick [2, 1, 0] rfl rfl ?_
    exact r_act_L269 (L := L) (n := n) (ht := ht) q M a o hI_M hH_M hS_M  (fun a i f598 f602 f603 f604 f605 f624 f670 f671 f672 f673 f674 f675 f676 f677 f678 f679 f680 f681 f682 f683 f684 f685 f686 f687 => rfl) (fun i g6 g10 g11 g12 g59 g60 g61 g62 g63 g64 g65 g66 g110 g112 g122 g131 g132 g134 g135 g136 g137 g138 g139 g143 g145 => rfl) (by omega) (by omega) p0 p1 p2 p3 p4 p5 p6 p7 p8 p9 rfl (by omega)
  · refine jr.tsw_k 6 rfl h1 rfl ?_
    refine jr.pick [2, 1, 0] rfl rfl ?_
    exact r_act_L305 (L := L) (n := n) (ht := ht) q M a o hI_M hH_M hS_M  (fun a i f598 f602 f603 f604 f605 f624 f670 f671 f672 f673 f674 f675 f676 f677 f678 f679 f680 f681 f682 f683 f684 f685 f686 f687 => rfl) (fun i g6 g10 g11 g12 g59 g60 g61 g62 g63 g64 g65 g66 g110 g112 g122 g131 g132 g134 g135 g136 g137 g138 g139 g143 g145 => rfl) (by omega) (by omega) p0 p1 p2 p3 p4 p5 p6 p7 p8 p9 rfl (by omega)
  · refine jr.tsw_k 7 rfl h1 rfl ?_
    refine jr.pick [2, 1, 0] rfl rfl ?_
    exact r_act_L166 (L := L) (n := n) (ht := ht) q M a o hI_M hH_M hS_M  (fun a i f598 f602 f603 f604 f605 f624 f670 f671 f672 f673 f674 f675 f676 f677 f678 f679 f680 f681 f682 f683 f684 f685 f686 f687 => rfl) (fun i g6 g10 g11 g12 g59 g60 g61 g62 g63 g64 g65 g66 g110 g112 g122 g131 g132 g134 g135 g136 g137 g138 g139 g143 g145 => rfl) (by omega) (by omega) p0 p1 p2 p3 p4 p5 p6 p7 p8 p9 rfl (by omega)
  · refine jr.tsw_k 8 rfl h1 rfl ?_
    refine jr.pick [2, 1, 0] rfl rfl ?_
    exact r_act_L166 (L := L) (n := n) (ht := ht) q M a o hI_M hH_M hS_M  (fun a i f598 f602 f603 f604 f605 f624 f670 f671 f672 f673 f674 f675 f676 f677 f678 f679 f680 f681 f682 f683 f684 f685 f686 f687 => rfl) (fun i g6 g10 g11 g12 g59 g60 g61 g62 g63 g64 g65 g66 g110 g112 g122 g131 g132 g134 g135 g136 g137 g138 g139 g143 g145 => rfl) (by omega) (by omega) p0 p1 p2 p3 p4 p5 p6 p7 p8 p9 rfl (by omega)
  · refine jr.tsw_k 9 rfl h1 rfl ?_
    refine jr.pick [2, 1, 0] rfl rfl ?_
    exact r_act_L342 (L := L) (n := n) (ht := ht) q M a o hI_M hH_M hS_M  (fun a i f598 f602 f603 f604 f605 f624 f670 f671 f672 f673 f674 f675 f676 f677 f678 f679 f680 f681 f682 f683 f684 f685 f686 f687 => rfl) (fun i g6 g10 g11 g12 g59 g60 g61 g62 g63 g64 g65 g66 g110 g112 g122 g131 g132 g134 g135 g136 g137 g138 g139 g143 g145 => rfl) (by omega) (by omega) p0 p1 p2 p3 p4 p5 p6 p7 p8 p9 rfl (by omega)
  · refine jr.tsw_k 10 rfl h1 rfl ?_
    refine jr.pick [2, 1, 0] rfl rfl ?_
    exact r_act_L377 (L := L) (n := n) (ht := ht) q M a o hI_M hH_M hS_M  (fun a i f598 f602 f603 f604 f605 f624 f670 f671 f672 f673 f674 f675 f676 f677 f678 f679 f680 f681 f682 f683 f684 f685 f686 f687 => rfl) (fun i g6 g10 g11 g12 g59 g60 g61 g62 g63 g64 g65 g66 g110 g112 g122 g131 g132 g134 g135 g136 g137 g138 g139 g143 g145 => rfl) (by omega) (by omega) p0 p1 p2 p3 p4 p5 p6 p7 p8 p9 rfl (by omega)
  · refine jr.tsw_k 11 rfl h1 rfl ?_
    refine jr.pick [2, 1, 0] rfl rfl ?_
    exact r_act_L403 (L := L) (n := n) (ht := ht) q M a o hI_M hH_M hS_M  (fun a i f598 f602 f603 f604 f605 f624 f670 f671 f672 f673 f674 f675 f676 f677 f678 f679 f680 f681 f682 f683 f684 f685 f686 f687 => rfl) (fun i g6 g10 g11 g12 g59 g60 g61 g62 g63 g64 g65 g66 g110 g112 g122 g131 g132 g134 g135 g136 g137 g138 g139 g143 g145 => rfl) (by omega) (by omega) p0 p1 p2 p3 p4 p5 p6 p7 p8 p9 rfl (by omega)
  · refine jr.tsw_d rfl (by omega) (by omega) rfl ?_
    refine jr.iload_n rfl rfl ?_
    refine jr.sipush rfl (by decide) ?_
    refine jr.icmp_lt rfl rfl (by omega) (by omega) (fun h442 => ?_) (fun h442 => ?_)
    · refine jr.iload_n rfl rfl ?_
      refine jr.bipush rfl (by decide) ?_
      refine jr.icmp_lt rfl rfl (by omega) (by omega) (fun h463 => ?_) (fun h463 => ?_)
      · refine jr.pick [2, 1, 0] rfl rfl ?_
        exact r_act_L477 (L := L) (n := n) (ht := ht) q M a o hI_M hH_M hS_M  (fun a i f598 f602 f603 f604 f605 f624 f670 f671 f672 f673 f674 f675 f676 f677 f678 f679 f680 f681 f682 f683 f684 f685 f686 f687 => rfl) (fun i g6 g10 g11 g12 g59 g60 g61 g62 g63 g64 g65 g66 g110 g112 g122 g131 g132 g134 g135 g136 g137 g138 g139 g143 g145 => rfl) (by omega) (by omega) p0 p1 p2 p3 p4 p5 p6 p7 p8 p9 rfl (by omega)
      · refine jr.pick [2, 1, 0] rfl rfl ?_
        exact r_act_L466 (L := L) (n := n) (ht := ht) q M a o hI_M hH_M hS_M  (fun a i f598 f602 f603 f604 f605 f624 f670 f671 f672 f673 f674 f675 f676 f677 f678 f679 f680 f681 f682 f683 f684 f685 f686 f687 => rfl) (fun i g6 g10 g11 g12 g59 g60 g61 g62 g63 g64 g65 g66 g110 g112 g122 g131 g132 g134 g135 g136 g137 g138 g139 g143 g145 => rfl) (by omega) (by omega) p0 p1 p2 p3 p4 p5 p6 p7 p8 p9 rfl (by omega)
    · refine jr.pick [2, 1, 0] rfl rfl ?_
      exact r_act_L445 (L := L) (n := n) (ht := ht) q M a o hI_M hH_M hS_M  (fun a i f598 f602 f603 f604 f605 f624 f670 f671 f672 f673 f674 f675 f676 f677 f678 f679 f680 f681 f682 f683 f684 f685 f686 f687 => rfl) (fun i g6 g10 g11 g12 g59 g60 g61 g62 g63 g64 g65 g66 g110 g112 g122 g131 g132 g134 g135 g136 g137 g138 g139 g143 g145 => rfl) (by omega) (by omega) p0 p1 p2 p3 p4 p5 p6 p7 p8 p9 rfl (by omega)
end
section
/-! ===== the reference: contracts, 37.mh ===== -/
noncomputable def mu2 (M : jm) : Int := if M 598 136 = 1 then 0 else mu M + 1
noncomputable def RV3 (M : jm) (C : Int) : Prop := ∃ (ht : Int → Int) (n : Int), MX M ht n ∧ AS M (C - mu2 M) ∧ 0 ≤ mu2 M ∧ mu2 M ≤ 2689622 ∧ (M 598 136 = 1 ∨ (M 598 136 = 0 ∧ FRS M ht n (M 598 122) ∧ (1 ≤ M 598 122 ∧ M 598 122 ≤ 8) ∧ (0 ≤ M 598 132 ∧ M 598 132 < n) ∧ M 598 131 = ht (M 598 132)))
theorem mu.rng {M : jm} (h1 : 0 ≤ M 598 143 ∧ M 598 143 ≤ 300) (h2 : 1 ≤ M 598 122 ∧ M 598 122 ≤ 8) (h3 : 0 ≤ M 598 132 ∧ M 598 132 ≤ 2199) : 0 ≤ mu M ∧ mu M ≤ 2689621 := by
  have a := phi.le M
  have b := cr_le (M 654) (M 598 132)
  unfold mu
  omega
theorem RV3.over {M : jm} {ht : Int → Int} {n C L : Int} (hM : MX M ht n) (hA : AS M L) (ho : M 598 136 = 1) (hL : L ≤ C) : RV3 M C := by
  have e : mu2 M = 0 := by unfold mu2; rw [if_pos ho]
  exact ⟨ht, n, hM, hA.up (by omega), by omega, by omega, Or.inl ho⟩
theorem RV3.run {M : jm} {ht : Int → Int} {n C L : Int} (hM : MX M ht n) (hA : AS M L) (ho : M 598 136 = 0) (hF : FRS M ht n (M 598 122)) (h2 : 1 ≤ M 598 122 ∧ M 598 122 ≤ 8) (h3 : 0 ≤ M 598 132 ∧ M 598 132 < n) (h4 : M 598 131 = ht (M 598 132)) (h5 : 0 ≤ M 598 143 ∧ M 598 143 ≤ 300) (hL : L + mu M + 1 ≤ C) : RV3 M C := by
  have e : mu2 M = mu M + 1 := by unfold mu2; rw [if_neg (by omega)]
  have r := mu.rng h5 h2 (by have := hM.2.1; omega)
  exact ⟨ht, n, hM, hA.up (by omega), by omega, by omega, Or.inr ⟨ho, hF, h2, h3, h4⟩⟩
theorem mu2.o {M : jm} (h : M 598 136 = 1) : mu2 M = 0 := by unfold mu2; rw [if_pos h]
theorem mu2.r {M : jm} (h : M 598 136 = 0) : mu2 M = mu M + 1 := by unfold mu2; rw [if_neg (by omega)]
theorem mu135 (M : jm) (v : Int) : mu (ju M 598 135 v) = mu M ∧ phi (ju M 598 135 v) = phi M := by
  have p : phi (ju M 598 135 v) = phi M := phi.fr (ju_i _ _ (by decide)) (fun i => ju_c _ _ (by decide))
  refine ⟨?_, p⟩
  unfold mu
  rw [p, ju_i _ _ (by decide), ju_i _ _ (by decide), jw_o (by decide)]
theorem r_verdict_L86 {A : Nat → Option (Nat × (Nat → Int32))} {Q : Option Value → jm → Prop} {L : Int} {M0 : jm} (q : ∀ (r : Int) (M' : jm), RI M' → RH M' → RF M' → (-18) ≤ r ∧ r ≤ 8 → AS M' (L + 2689623) → (∀ (a : Nat) (i : Int), a ≠ 598 → a ≠ 602 → a ≠ 603 → a ≠ 604 → a ≠ 605 → a ≠ 624 → a ≠ 670 → a ≠ 671 → a ≠ 672 → a ≠ 673 → a ≠ 674 → a ≠ 675 → a ≠ 676 → a ≠ 677 → a ≠ 678 → a ≠ 679 → a ≠ 680 → a ≠ 681 → a ≠ 682 → a ≠ 683 → a ≠ 684 → a ≠ 685 → a ≠ 686 → a ≠ 687 → M' a i = M0 a i) → (∀ (i : Int), i ≠ 6 → i ≠ 10 → i ≠ 11 → i ≠ 12 → i ≠ 59 → i ≠ 60 → i ≠ 61 → i ≠ 62 → i ≠ 63 → i ≠ 64 → i ≠ 65 → i ≠ 66 → i ≠ 110 → i ≠ 111 → i ≠ 112 → i ≠ 122 → i ≠ 131 → i ≠ 132 → i ≠ 133 → i ≠ 134 → i ≠ 135 → i ≠ 136 → i ≠ 137 → i ≠ 138 → i ≠ 139 → i ≠ 140 → i ≠ 141 → i ≠ 142 → i ≠ 143 → i ≠ 144 → i ≠ 145 → i ≠ 147 → M' 598 i = M0 598 i) → Q (some (.int (Int32.ofInt r))) M') : ∀ (nM : Nat) (M : jm) , RI M → RH M → RF M → (∀ (a : Nat) (i : Int), a ≠ 598 → a ≠ 602 → a ≠ 603 → a ≠ 604 → a ≠ 605 → a ≠ 624 → a ≠ 670 → a ≠ 671 → a ≠ 672 → a ≠ 673 → a ≠ 674 → a ≠ 675 → a ≠ 676 → a ≠ 677 → a ≠ 678 → a ≠ 679 → a ≠ 680 → a ≠ 681 → a ≠ 682 → a ≠ 683 → a ≠ 684 → a ≠ 685 → a ≠ 686 → a ≠ 687 → M a i = M0 a i) → (∀ (i : Int), i ≠ 6 → i ≠ 10 → i ≠ 11 → i ≠ 12 → i ≠ 59 → i ≠ 60 → i ≠ 61 → i ≠ 62 → i ≠ 63 → i ≠ 64 → i ≠ 65 → i ≠ 66 → i ≠ 110 → i ≠ 111 → i ≠ 112 → i ≠ 122 → i ≠ 131 → i ≠ 132 → i ≠ 133 → i ≠ 134 → i ≠ 135 → i ≠ 136 → i ≠ 137 → i ≠ 138 → i ≠ 139 → i ≠ 140 → i ≠ 141 → i ≠ 142 → i ≠ 143 → i ≠ 144 → i ≠ 145 → i ≠ 147 → M 598 i = M0 598 i) → RV3 M (L + 2689623) → 0 ≤ L ∧ L ≤ 1990000000 → mu2 M ≤ nM → jr A 10 xm_379 86 [(0, .ref (598))] [] M Q := by
  intro nM
  induction nM using Nat.strongRecOn with
  | ind nM ih =>
    intro M  hI_M hH_M hS_M hF_M hG_M  hy0 hy1 hm
    obtain ⟨ht, n, hMX, hAS, m0, m1, hor⟩ := hy0
    rcases hor with ho | hn
    · have mo := mu2.o ho
      refine jr.aload_n rfl rfl ?_
      refine jr.getf (i := 136) (x := 1) (v := .int (Int32.ofInt (1))) rfl rfl (by decide) rfl (by decide) rfl rfl ho rfl ?_
      refine jr.if_ne rfl rfl (by omega) (fun h90 => ?_) (fun h90 => ?_)
      · refine jr.aload_n rfl rfl ?_
        refine jr.aload_n rfl rfl ?_
        obtain ⟨v1, e1⟩ : ∃ z, M 598 137 = z := ⟨_, rfl⟩
        have b1 : 0 ≤ v1 ∧ v1 ≤ 2 := by rw [← e1]; exact hI_M 598 137 (by decide)
        refine jr.getf (i := 137) (x := v1) (v := .int (Int32.ofInt (v1))) rfl rfl (by decide) rfl (by decide) rfl rfl e1 rfl ?_
        refine jr.iconst rfl ?_
        refine jr.icmp_ne rfl rfl (by omega) (by omega) (fun h144 => ?_) (fun h144 => ?_)
        · have sx144 : v1 ≤ (1 : Int) := by omega
          refine jr.iconst rfl ?_
          refine jr.putf (i := 141) (x := 0) rfl rfl (by decide) rfl (by decide) rfl rfl rfl rfl rfl ?_
          refine jr.aload_n rfl rfl ?_
          refine jr.aload_n rfl rfl ?_
          refine jr.getf (i := 137) (x := v1) (v := .int (Int32.ofInt (v1))) rfl rfl (by decide) rfl (by decide) rfl rfl ((ju_i _ _ (by decide)).trans e1) rfl ?_
          refine jr.iconst rfl ?_
          refine jr.icmp_ne rfl rfl (by omega) (by omega) (fun h164 => ?_) (fun h164 => ?_)
          · refine jr.iconst rfl ?_
            refine jr.putf (i := 144) (x := (-1)) rfl rfl (by decide) rfl (by decide) rfl rfl rfl rfl rfl ?_
            refine jr.aload_n rfl rfl ?_
            refine jr.aload_n rfl rfl ?_
            refine jr.getf (i := 141) (x := 0) (v := .int (Int32.ofInt (0))) rfl rfl (by decide) rfl (by decide) rfl rfl ((ju_i _ _ (by decide)).trans (ju_same _ _ _ _)) rfl ?_
            refine jr.bipush rfl (by decide) ?_
            refine jr.icmp_ne rfl rfl (by omega) (by omega) (fun h185 => ?_) (fun h185 => ?_)
            · refine jr.lconst (x := 0) rfl (by decide) ?_
              refine jr.putf (i := 142) (x := 0) rfl rfl (by decide) rfl (by decide) rfl rfl rfl rfl rfl ?_
              refine jr.aload_n rfl rfl ?_
              refine jr.getf (i := 137) (x := v1) (v := .int (Int32.ofInt (v1))) rfl rfl (by decide) rfl (by decide) rfl rfl ((ju_i _ _ (by decide)).trans ((ju_i _ _ (by decide)).trans ((ju_i _ _ (by decide)).trans e1))) rfl ?_
              refine jr.if_ne rfl rfl (by omega) (fun h203 => ?_) (fun h203 => ?_)
              · have sx203 : (1 : Int) ≤ v1 := by omega
                refine jr.aload_n rfl rfl ?_
                refine jr.getf (i := 137) (x := v1) (v := .int (Int32.ofInt (v1))) rfl rfl (by decide) rfl (by decide) rfl rfl ((ju_i _ _ (by decide)).trans ((ju_i _ _ (by decide)).trans ((ju_i _ _ (by decide)).trans e1))) rfl ?_
                refine jr.iconst rfl ?_
                refine jr.icmp_ne rfl rfl (by omega) (by omega) (fun h215 => ?_) (fun h215 => ?_)
                · exact absurd h215 (by omega)
                · refine jr.aload_n rfl rfl ?_
                  obtain ⟨v2, e2⟩ : ∃ z, M 598 138 = z := ⟨_, rfl⟩
                  have b2 : 0 ≤ v2 ∧ v2 ≤ 8 := by rw [← e2]; exact hI_M 598 138 (by decide)
                  refine jr.getf (i := 138) (x := v2) (v := .int (Int32.ofInt (v2))) rfl rfl (by decide) rfl (by decide) rfl rfl ((ju_i _ _ (by decide)).trans ((ju_i _ _ (by decide)).trans ((ju_i _ _ (by decide)).trans e2))) rfl ?_
                  refine jr.goto rfl rfl ?_
                  exact jr.ireturn rfl rfl rfl (q _ _ (RI.u (RI.u (RI.u hI_M (a := 598) (i := 141) (show (0 : Int) ≤ _ ∧ _ ≤ (8 : Int) from by omega)) (a := 598) (i := 144) (show (-1 : Int) ≤ _ ∧ _ ≤ (15 : Int) from by omega)) (a := 598) (i := 142) (show (-9223372036854775808 : Int) ≤ _ ∧ _ ≤ (9223372036854775807 : Int) from by omega)) (RH.o (RH.o (RH.o hH_M (by decide) (by decide) (by decide)) (by decide) (by decide) (by decide)) (by decide) (by decide) (by decide)) (RF.o (RF.o (RF.o hS_M (by decide) (by decide)) (by decide) (by decide)) (by decide) (by decide))  (by omega) (AS.up (AS.o (AS.o (AS.o hAS (by decide) (Or.inr (by decide))) (by decide) (Or.inr (by decide))) (by decide) (Or.inr (by decide))) (by omega)) (fun a i f598 f602 f603 f604 f605 f624 f670 f671 f672 f673 f674 f675 f676 f677 f678 f679 f680 f681 f682 f683 f684 f685 f686 f687 => ((ju_c _ _ f598).trans ((ju_c _ _ f598).trans ((ju_c _ _ f598).trans (hF_M a i f598 f602 f603 f604 f605 f624 f670 f671 f672 f673 f674 f675 f676 f677 f678 f679 f680 f681 f682 f683 f684 f685 f686 f687))))) (fun i g6 g10 g11 g12 g59 g60 g61 g62 g63 g64 g65 g66 g110 g111 g112 g122 g131 g132 g133 g134 g135 g136 g137 g138 g139 g140 g141 g142 g143 g144 g145 g147 => ((ju_i _ _ g142).trans ((ju_i _ _ g144).trans ((ju_i _ _ g141).trans (hG_M i g6 g10 g11 g12 g59 g60 g61 g62 g63 g64 g65 g66 g110 g111 g112 g122 g131 g132 g133 g134 g135 g136 g137 g138 g139 g140 g141 g142 g143 g144 g145 g147))))))
              · refine jr.iconst rfl ?_
                refine jr.goto rfl rfl ?_
                exact jr.ireturn rfl rfl rfl (q _ _ (RI.u (RI.u (RI.u hI_M (a := 598) (i := 141) (show (0 : Int) ≤ _ ∧ _ ≤ (8 : Int) from by omega)) (a := 598) (i := 144) (show (-1 : Int) ≤ _ ∧ _ ≤ (15 : Int) from by omega)) (a := 598) (i := 142) (show (-9223372036854775808 : Int) ≤ _ ∧ _ ≤ (9223372036854775807 : Int) from by omega)) (RH.o (RH.o (RH.o hH_M (by decide) (by decide) (by decide)) (by decide) (by decide) (by decide)) (by decide) (by decide) (by decide)) (RF.o (RF.o (RF.o hS_M (by decide) (by decide)) (by decide) (by decide)) (by decide) (by decide))  (by omega) (AS.up (AS.o (AS.o (AS.o hAS (by decide) (Or.inr (by decide))) (by decide) (Or.inr (by decide))) (by decide) (Or.inr (by decide))) (by omega)) (fun a i f598 f602 f603 f604 f605 f624 f670 f671 f672 f673 f674 f675 f676 f677 f678 f679 f680 f681 f682 f683 f684 f685 f686 f687 => ((ju_c _ _ f598).trans ((ju_c _ _ f598).trans ((ju_c _ _ f598).trans (hF_M a i f598 f602 f603 f604 f605 f624 f670 f671 f672 f673 f674 f675 f676 f677 f678 f679 f680 f681 f682 f683 f684 f685 f686 f687))))) (fun i g6 g10 g11 g12 g59 g60 g61 g62 g63 g64 g65 g66 g110 g111 g112 g122 g131 g132 g133 g134 g135 g136 g137 g138 g139 g140 g141 g142 g143 g144 g145 g147 => ((ju_i _ _ g142).trans ((ju_i _ _ g144).trans ((ju_i _ _ g141).trans (hG_M i g6 g10 g11 g12 g59 g60 g61 g62 g63 g64 g65 g66 g110 g111 g112 g122 g131 g132 g133 g134 g135 g136 g137 g138 g139 g140 g141 g142 g143 g144 g145 g147))))))
            · refine jr.aload_n rfl rfl ?_
              obtain ⟨v3, e3⟩ : ∃ z, M 598 142 = z := ⟨_, rfl⟩
              have b3 : (-9223372036854775808) ≤ v3 ∧ v3 ≤ 9223372036854775807 := by rw [← e3]; exact hI_M 598 142 (by decide)
              refine jr.getf (i := 142) (x := v3) (v := .long (Int64.ofInt (v3))) rfl rfl (by decide) rfl (by decide) rfl rfl ((ju_i _ _ (by decide)).trans ((ju_i _ _ (by decide)).trans e3)) rfl ?_
              refine jr.goto rfl rfl ?_
              refine jr.putf (i := 142) (x := v3) rfl rfl (by decide) rfl (by decide) rfl rfl rfl rfl rfl ?_
              refine jr.aload_n rfl rfl ?_
              refine jr.getf (i := 137) (x := v1) (v := .int (Int32.ofInt (v1))) rfl rfl (by decide) rfl (by decide) rfl rfl ((ju_i _ _ (by decide)).trans ((ju_i _ _ (by decide)).trans ((ju_i _ _ (by decide)).trans e1))) rfl ?_
              refine jr.if_ne rfl rfl (by omega) (fun h203 => ?_) (fun h203 => ?_)
              · have sx203 : (1 : Int) ≤ v1 := by omega
                refine jr.aload_n rfl rfl ?_
                refine jr.getf (i := 137) (x := v1) (v := .int (Int32.ofInt (v1))) rfl rfl (by decide) rfl (by decide) rfl rfl ((ju_i _ _ (by decide)).trans ((ju_i _ _ (by decide)).trans ((ju_i _ _ (by decide)).trans e1))) rfl ?_
                refine jr.iconst rfl ?_
                refine jr.icmp_ne rfl rfl (by omega) (by omega) (fun h215 => ?_) (fun h215 => ?_)
                · exact absurd h215 (by omega)
                · refine jr.aload_n rfl rfl ?_
                  obtain ⟨v4, e4⟩ : ∃ z, M 598 138 = z := ⟨_, rfl⟩
                  have b4 : 0 ≤ v4 ∧ v4 ≤ 8 := by rw [← e4]; exact hI_M 598 138 (by decide)
                  refine jr.getf (i := 138) (x := v4) (v := .int (Int32.ofInt (v4))) rfl rfl (by decide) rfl (by decide) rfl rfl ((ju_i _ _ (by decide)).trans ((ju_i _ _ (by decide)).trans ((ju_i _ _ (by decide)).trans e4))) rfl ?_
                  refine jr.goto rfl rfl ?_
                  exact jr.ireturn rfl rfl rfl (q _ _ (RI.u (RI.u (RI.u hI_M (a := 598) (i := 141) (show (0 : Int) ≤ _ ∧ _ ≤ (8 : Int) from by omega)) (a := 598) (i := 144) (show (-1 : Int) ≤ _ ∧ _ ≤ (15 : Int) from by omega)) (a := 598) (i := 142) (show (-9223372036854775808 : Int) ≤ _ ∧ _ ≤ (9223372036854775807 : Int) from by omega)) (RH.o (RH.o (RH.o hH_M (by decide) (by decide) (by decide)) (by decide) (by decide) (by decide)) (by decide) (by decide) (by decide)) (RF.o (RF.o (RF.o hS_M (by decide) (by decide)) (by decide) (by decide)) (by decide) (by decide))  (by omega) (AS.up (AS.o (AS.o (AS.o hAS (by decide) (Or.inr (by decide))) (by decide) (Or.inr (by decide))) (by decide) (Or.inr (by decide))) (by omega)) (fun a i f598 f602 f603 f604 f605 f624 f670 f671 f672 f673 f674 f675 f676 f677 f678 f679 f680 f681 f682 f683 f684 f685 f686 f687 => ((ju_c _ _ f598).trans ((ju_c _ _ f598).trans ((ju_c _ _ f598).trans (hF_M a i f598 f602 f603 f604 f605 f624 f670 f671 f672 f673 f674 f675 f676 f677 f678 f679 f680 f681 f682 f683 f684 f685 f686 f687))))) (fun i g6 g10 g11 g12 g59 g60 g61 g62 g63 g64 g65 g66 g110 g111 g112 g122 g131 g132 g133 g134 g135 g136 g137 g138 g139 g140 g141 g142 g143 g144 g145 g147 => ((ju_i _ _ g142).trans ((ju_i _ _ g144).trans ((ju_i _ _ g141).trans (hG_M i g6 g10 g11 g12 g59 g60 g61 g62 g63 g64 g65 g66 g110 g111 g112 g122 g131 g132 g133 g134 g135 g136 g137 g138 g139 g140 g141 g142 g143 g144 g145 g147))))))
              · refine jr.iconst rfl ?_
                refine jr.goto rfl rfl ?_
                exact jr.ireturn rfl rfl rfl (q _ _ (RI.u (RI.u (RI.u hI_M (a := 598) (i := 141) (show (0 : Int) ≤ _ ∧ _ ≤ (8 : Int) from by omega)) (a := 598) (i := 144) (show (-1 : Int) ≤ _ ∧ _ ≤ (15 : Int) from by omega)) (a := 598) (i := 142) (show (-9223372036854775808 : Int) ≤ _ ∧ _ ≤ (9223372036854775807 : Int) from by omega)) (RH.o (RH.o (RH.o hH_M (by decide) (by decide) (by decide)) (by decide) (by decide) (by decide)) (by decide) (by decide) (by decide)) (RF.o (RF.o (RF.o hS_M (by decide) (by decide)) (by decide) (by decide)) (by decide) (by decide))  (by omega) (AS.up (AS.o (AS.o (AS.o hAS (by decide) (Or.inr (by decide))) (by decide) (Or.inr (by decide))) (by decide) (Or.inr (by decide))) (by omega)) (fun a i f598 f602 f603 f604 f605 f624 f670 f671 f672 f673 f674 f675 f676 f677 f678 f679 f680 f681 f682 f683 f684 f685 f686 f687 => ((ju_c _ _ f598).trans ((ju_c _ _ f598).trans ((ju_c _ _ f598).trans (hF_M a i f598 f602 f603 f604 f605 f624 f670 f671 f672 f673 f674 f675 f676 f677 f678 f679 f680 f681 f682 f683 f684 f685 f686 f687))))) (fun i g6 g10 g11 g12 g59 g60 g61 g62 g63 g64 g65 g66 g110 g111 g112 g122 g131 g132 g133 g134 g135 g136 g137 g138 g139 g140 g141 g142 g143 g144 g145 g147 => ((ju_i _ _ g142).trans ((ju_i _ _ g144).trans ((ju_i _ _ g141).trans (hG_M i g6 g10 g11 g12 g59 g60 g61 g62 g63 g64 g65 g66 g110 g111 g112 g122 g131 g132 g133 g134 g135 g136 g137 g138 g139 g140 g141 g142 g143 g144 g145 g147))))))
          · exact absurd (by omega) h164
        · refine jr.aload_n rfl rfl ?_
          obtain ⟨v5, e5⟩ : ∃ z, M 598 138 = z := ⟨_, rfl⟩
          have b5 : 0 ≤ v5 ∧ v5 ≤ 8 := by rw [← e5]; exact hI_M 598 138 (by decide)
          refine jr.getf (i := 138) (x := v5) (v := .int (Int32.ofInt (v5))) rfl rfl (by decide) rfl (by decide) rfl rfl e5 rfl ?_
          refine jr.goto rfl rfl ?_
          refine jr.putf (i := 141) (x := v5) rfl rfl (by decide) rfl (by decide) rfl rfl rfl rfl rfl ?_
          refine jr.aload_n rfl rfl ?_
          refine jr.aload_n rfl rfl ?_
          refine jr.getf (i := 137) (x := v1) (v := .int (Int32.ofInt (v1))) rfl rfl (by decide) rfl (by decide) rfl rfl ((ju_i _ _ (by decide)).trans e1) rfl ?_
          refine jr.iconst rfl ?_
          refine jr.icmp_ne rfl rfl (by omega) (by omega) (fun h164 => ?_) (fun h164 => ?_)
          · exact absurd h164 (by omega)
          · refine jr.aload_n rfl rfl ?_
            obtain ⟨v6, e6⟩ : ∃ z, M 598 147 = z := ⟨_, rfl⟩
            have b6 : 0 ≤ v6 ∧ v6 ≤ 15 := by rw [← e6]; exact hI_M 598 147 (by decide)
            refine jr.getf (i := 147) (x := v6) (v := .int (Int32.ofInt (v6))) rfl rfl (by decide) rfl (by decide) rfl rfl ((ju_i _ _ (by decide)).trans e6) rfl ?_
            refine jr.goto rfl rfl ?_
            refine jr.putf (i := 144) (x := v6) rfl rfl (by decide) rfl (by decide) rfl rfl rfl rfl rfl ?_
            refine jr.aload_n rfl rfl ?_
            refine jr.aload_n rfl rfl ?_
            refine jr.getf (i := 141) (x := v5) (v := .int (Int32.ofInt (v5))) rfl rfl (by decide) rfl (by decide) rfl rfl ((ju_i _ _ (by decide)).trans (ju_same _ _ _ _)) rfl ?_
            refine jr.bipush rfl (by decide) ?_
            refine jr.icmp_ne rfl rfl (by omega) (by omega) (fun h185 => ?_) (fun h185 => ?_)
            · refine jr.lconst (x := 0) rfl (by decide) ?_
              refine jr.putf (i := 142) (x := 0) rfl rfl (by decide) rfl (by decide) rfl rfl rfl rfl rfl ?_
              refine jr.aload_n rfl rfl ?_
              refine jr.getf (i := 137) (x := v1) (v := .int (Int32.ofInt (v1))) rfl rfl (by decide) rfl (by decide) rfl rfl ((ju_i _ _ (by decide)).trans ((ju_i _ _ (by decide)).trans ((ju_i _ _ (by decide)).trans e1))) rfl ?_
              refine jr.if_ne rfl rfl (by omega) (fun h203 => ?_) (fun h203 => ?_)
              · refine jr.aload_n rfl rfl ?_
                refine jr.getf (i := 137) (x := v1) (v := .int (Int32.ofInt (v1))) rfl rfl (by decide) rfl (by decide) rfl rfl ((ju_i _ _ (by decide)).trans ((ju_i _ _ (by decide)).trans ((ju_i _ _ (by decide)).trans e1))) rfl ?_
                refine jr.iconst rfl ?_
                refine jr.icmp_ne rfl rfl (by omega) (by omega) (fun h215 => ?_) (fun h215 => ?_)
                · refine jr.bipush rfl (by decide) ?_
                  refine jr.aload_n rfl rfl ?_
                  refine jr.getf (i := 138) (x := v5) (v := .int (Int32.ofInt (v5))) rfl rfl (by decide) rfl (by decide) rfl rfl ((ju_i _ _ (by decide)).trans ((ju_i _ _ (by decide)).trans ((ju_i _ _ (by decide)).trans e5))) rfl ?_
                  refine jr.isub rfl ?_
                  exact jr.ireturn rfl rfl rfl (q _ _ (RI.u (RI.u (RI.u hI_M (a := 598) (i := 141) (show (0 : Int) ≤ _ ∧ _ ≤ (8 : Int) from by omega)) (a := 598) (i := 144) (show (-1 : Int) ≤ _ ∧ _ ≤ (15 : Int) from by omega)) (a := 598) (i := 142) (show (-9223372036854775808 : Int) ≤ _ ∧ _ ≤ (9223372036854775807 : Int) from by omega)) (RH.o (RH.o (RH.o hH_M (by decide) (by decide) (by decide)) (by decide) (by decide) (by decide)) (by decide) (by decide) (by decide)) (RF.o (RF.o (RF.o hS_M (by decide) (by decide)) (by decide) (by decide)) (by decide) (by decide))  (by omega) (AS.up (AS.o (AS.o (AS.o hAS (by decide) (Or.inr (by decide))) (by decide) (Or.inr (by decide))) (by decide) (Or.inr (by decide))) (by omega)) (fun a i f598 f602 f603 f604 f605 f624 f670 f671 f672 f673 f674 f675 f676 f677 f678 f679 f680 f681 f682 f683 f684 f685 f686 f687 => ((ju_c _ _ f598).trans ((ju_c _ _ f598).trans ((ju_c _ _ f598).trans (hF_M a i f598 f602 f603 f604 f605 f624 f670 f671 f672 f673 f674 f675 f676 f677 f678 f679 f680 f681 f682 f683 f684 f685 f686 f687))))) (fun i g6 g10 g11 g12 g59 g60 g61 g62 g63 g64 g65 g66 g110 g111 g112 g122 g131 g132 g133 g134 g135 g136 g137 g138 g139 g140 g141 g142 g143 g144 g145 g147 => ((ju_i _ _ g142).trans ((ju_i _ _ g144).trans ((ju_i _ _ g141).trans (hG_M i g6 g10 g11 g12 g59 g60 g61 g62 g63 g64 g65 g66 g110 g111 g112 g122 g131 g132 g133 g134 g135 g136 g137 g138 g139 g140 g141 g142 g143 g144 g145 g147))))))
                · exact absurd (by omega) h215
              · exact absurd (by omega) h203
            · refine jr.aload_n rfl rfl ?_
              obtain ⟨v7, e7⟩ : ∃ z, M 598 142 = z := ⟨_, rfl⟩
              have b7 : (-9223372036854775808) ≤ v7 ∧ v7 ≤ 9223372036854775807 := by rw [← e7]; exact hI_M 598 142 (by decide)
              refine jr.getf (i := 142) (x := v7) (v := .long (Int64.ofInt (v7))) rfl rfl (by decide) rfl (by decide) rfl rfl ((ju_i _ _ (by decide)).trans ((ju_i _ _ (by decide)).trans e7)) rfl ?_
              refine jr.goto rfl rfl ?_
              refine jr.putf (i := 142) (x := v7) rfl rfl (by decide) rfl (by decide) rfl rfl rfl rfl rfl ?_
              refine jr.aload_n rfl rfl ?_
              refine jr.getf (i := 137) (x := v1) (v := .int (Int32.ofInt (v1))) rfl rfl (by decide) rfl (by decide) rfl rfl ((ju_i _ _ (by decide)).trans ((ju_i _ _ (by decide)).trans ((ju_i _ _ (by decide)).trans e1))) rfl ?_
              refine jr.if_ne rfl rfl (by omega) (fun h203 => ?_) (fun h203 => ?_)
              · refine jr.aload_n rfl rfl ?_
                refine jr.getf (i := 137) (x := v1) (v := .int (Int32.ofInt (v1))) rfl rfl (by decide) rfl (by decide) rfl rfl ((ju_i _ _ (by decide)).trans ((ju_i _ _ (by decide)).trans ((ju_i _ _ (by decide)).trans e1))) rfl ?_
                refine jr.iconst rfl ?_
                refine jr.icmp_ne rfl rfl (by omega) (by omega) (fun h215 => ?_) (fun h215 => ?_)
                · refine jr.bipush rfl (by decide) ?_
                  refine jr.aload_n rfl rfl ?_
                  refine jr.getf (i := 138) (x := v5) (v := .int (Int32.ofInt (v5))) rfl rfl (by decide) rfl (by decide) rfl rfl ((ju_i _ _ (by decide)).trans ((ju_i _ _ (by decide)).trans ((ju_i _ _ (by decide)).trans e5))) rfl ?_
                  refine jr.isub rfl ?_
                  exact jr.ireturn rfl rfl rfl (q _ _ (RI.u (RI.u (RI.u hI_M (a := 598) (i := 141) (show (0 : Int) ≤ _ ∧ _ ≤ (8 : Int) from by omega)) (a := 598) (i := 144) (show (-1 : Int) ≤ _ ∧ _ ≤ (15 : Int) from by omega)) (a := 598) (i := 142) (show (-9223372036854775808 : Int) ≤ _ ∧ _ ≤ (9223372036854775807 : Int) from by omega)) (RH.o (RH.o (RH.o hH_M (by decide) (by decide) (by decide)) (by decide) (by decide) (by decide)) (by decide) (by decide) (by decide)) (RF.o (RF.o (RF.o hS_M (by decide) (by decide)) (by decide) (by decide)) (by decide) (by decide))  (by omega) (AS.up (AS.o (AS.o (AS.o hAS (by decide) (Or.inr (by decide))) (by decide) (Or.inr (by decide))) (by decide) (Or.inr (by decide))) (by omega)) (fun a i f598 f602 f603 f604 f605 f624 f670 f671 f672 f673 f674 f675 f676 f677 f678 f679 f680 f681 f682 f683 f684 f685 f686 f687 => ((ju_c _ _ f598).trans ((ju_c _ _ f598).trans ((ju_c _ _ f598).trans (hF_M a i f598 f602 f603 f604 f605 f624 f670 f671 f672 f673 f674 f675 f676 f677 f678 f679 f680 f681 f682 f683 f684 f685 f686 f687))))) (fun i g6 g10 g11 g12 g59 g60 g61 g62 g63 g64 g65 g66 g110 g111 g112 g122 g131 g132 g133 g134 g135 g136 g137 g138 g139 g140 g141 g142 g143 g144 g145 g147 => ((ju_i _ _ g142).trans ((ju_i _ _ g144).trans ((ju_i _ _ g141).trans (hG_M i g6 g10 g11 g12 g59 g60 g61 g62 g63 g64 g65 g66 g110 g111 g112 g122 g131 g132 g133 g134 g135 g136 g137 g138 g139 g140 g141 g142 g143 g144 g145 g147))))))
                · exact absurd (by omega) h215
              · exact absurd (by omega) h203
      · exact absurd (by omega) h90
    · obtain ⟨ho, hFR, h2, h3, h4⟩ := hn
      obtain ⟨P, hP⟩ : ∃ z, M 598 132 = z := ⟨_, rfl⟩
      rw [hP] at h3 h4
      obtain ⟨hv, hhv⟩ : ∃ z, M 598 131 = z := ⟨_, rfl⟩
      rw [hhv] at h4
      have nb := hMX.2.1
      have mr0 := mu2.r ho
      have mz := mu135 M 0
      have rg := mu.rng (M := M) (hI_M 598 143 (by decide)) h2 (by rw [hP]; omega)
      have b131 : (0 : Int) ≤ hv ∧ hv ≤ 400 := by rw [← hhv]; exact hI_M 598 131 (by decide)
      refine jr.aload_n rfl rfl ?_
      refine jr.getf (i := 136) (x := 0) (v := .int (Int32.ofInt (0))) rfl rfl (by decide) rfl (by decide) rfl rfl ho rfl ?_
      refine jr.if_ne rfl rfl (by omega) (fun h90 => ?_) (fun h90 => ?_)
      · exact absurd h90 (by omega)
      · refine jr.aload_n rfl rfl ?_
        refine jr.iconst rfl ?_
        refine jr.putf (i := 135) (x := 0) rfl rfl (by decide) rfl (by decide) rfl rfl rfl rfl rfl ?_
        refine jr.aload_n rfl rfl ?_
        refine jr.aload_n rfl rfl ?_
        refine jr.getf (i := 86) (v := .ref 654) rfl rfl (by decide) rfl (by decide) rfl rfl rfl rfl ?_
        refine jr.aload_n rfl rfl ?_
        refine jr.getf (i := 132) (x := P) (v := .int (Int32.ofInt (P))) rfl rfl (by decide) rfl (by decide) rfl rfl ((ju_i _ _ (by decide)).trans hP) rfl ?_
        obtain ⟨v8, e8⟩ : ∃ z, M 654 P = z := ⟨_, rfl⟩
        have b8 : 0 ≤ v8 ∧ v8 ≤ 1000 := by rw [← e8]; exact (by have q := hI_M 654 P (by decide); rw [xri_row rfl rfl] at q; exact q)
        refine jr.iald (i := P) (x := v8) rfl (by decide) rfl (by decide) (by omega) (by omega) ((ju_c _ _ (by decide)).trans e8) ?_
        refine jr.aload_n rfl rfl ?_
        refine jr.getf (i := 87) (v := .ref 655) rfl rfl (by decide) rfl (by decide) rfl rfl rfl rfl ?_
        refine jr.aload_n rfl rfl ?_
        refine jr.getf (i := 132) (x := P) (v := .int (Int32.ofInt (P))) rfl rfl (by decide) rfl (by decide) rfl rfl ((ju_i _ _ (by decide)).trans hP) rfl ?_
        obtain ⟨v9, e9⟩ : ∃ z, M 655 P = z := ⟨_, rfl⟩
        have b9 : (-9223372036854775808) ≤ v9 ∧ v9 ≤ 9223372036854775807 := by rw [← e9]; exact (by have q := hI_M 655 P (by decide); rw [xri_row rfl rfl] at q; exact q)
        refine jr.lald (i := P) (x := v9) rfl (by decide) rfl (by decide) (by omega) (by omega) ((ju_c _ _ (by decide)).trans e9) ?_
        obtain ⟨v11, e11⟩ : ∃ z, M 598 122 = z := ⟨_, rfl⟩
        have b11 : 0 ≤ v11 ∧ v11 ≤ 9 := by rw [← e11]; exact hI_M 598 122 (by decide)
        have y12 : (ju M 598 135 0) 598 122 = v11 := ((ju_i _ _ (by decide)).trans e11)
        refine jr_v rfl rfl (Or.inl rfl) rfl rfl (by decide) rfl ⟨rfl, Nat.le_of_ble_eq_true rfl, Nat.le_of_ble_eq_true rfl⟩ rfl (jc.deep (r_act (RI.u hI_M (a := 598) (i := 135) (show (0 : Int) ≤ _ ∧ _ ≤ (8 : Int) from by omega)) (RH.o hH_M (by decide) (by decide) (by decide)) (RF.o hS_M (by decide) (by decide))  (by omega) (by omega) (MX.o hMX (by decide) (Or.inr (by decide))) (FRS.fr hFR (fun i => ((ju_c _ _ (by decide)).trans (rfl))) (fun i => ((ju_c _ _ (by decide)).trans (rfl))) (fun i => ((ju_c _ _ (by decide)).trans (rfl))) ((ju_i _ _ (by decide)).trans (rfl)) (by omega)) (by rw [((ju_i _ _ (by decide)).trans e11)]; omega) (AS.o hAS (by decide) (Or.inr (by decide))) (by omega) (by rw [((ju_i _ _ (by decide)).trans hP)]; omega) (by rw [((ju_i _ _ (by decide)).trans hhv), ((ju_i _ _ (by decide)).trans hP)]; omega) (by rw [((ju_i _ _ (by decide)).trans hP), ((ju_c _ _ (by decide)).trans e8)] <;> omega) (by rw [((ju_i _ _ (by decide)).trans hP), ((ju_c _ _ (by decide)).trans e9)] <;> omega) (by rw [(ju_same _ _ _ _), ((ju_i _ _ (by decide)).trans ho)]; omega) (fun M10 hI_M10 hH_M10 hS_M10  w10_0 w10_1 w10_2 w10_3 => ?_)) (by decide))
        refine jr.aload_n rfl rfl ?_
        obtain ⟨v13, e13⟩ : ∃ z, M10 598 135 = z := ⟨_, rfl⟩
        have b13 : 0 ≤ v13 ∧ v13 ≤ 8 := by rw [← e13]; exact hI_M10 598 135 (by decide)
        refine jr.getf (i := 135) (x := v13) (v := .int (Int32.ofInt (v13))) rfl rfl (by decide) rfl (by decide) rfl rfl e13 rfl ?_
        refine jr.if_eq rfl rfl (by omega) (fun h124 => ?_) (fun h124 => ?_)
        · have y14 : M10 598 135 = v13 := e13
          have hRV : RV3 M10 (L + 2689623) ∧ mu2 M10 < mu2 M := by rcases w10_1 with z | ⟨y1, y2, y3, y4, ⟨y5, y6, y7⟩ | ⟨y5, y6, y7, y8, y9⟩⟩; (exact ⟨RV3.over ((MX.fr (MX.o hMX (by decide) (Or.inr (by decide))) (fun i => w10_2 652 i (by decide) (by decide) (by decide) (by decide) (by decide) (by decide) (by decide) (by decide) (by decide) (by decide) (by decide) (by decide) (by decide) (by decide) (by decide) (by decide) (by decide) (by decide) (by decide) (by decide) (by decide) (by decide) (by decide) (by decide)) (fun i => w10_2 653 i (by decide) (by decide) (by decide) (by decide) (by decide) (by decide) (by decide) (by decide) (by decide) (by decide) (by decide) (by decide) (by decide) (by decide) (by decide) (by decide) (by decide) (by decide) (by decide) (by decide) (by decide) (by decide) (by decide) (by decide)) (fun i => w10_2 654 i (by decide) (by decide) (by decide) (by decide) (by decide) (by decide) (by decide) (by decide) (by decide) (by decide) (by decide) (by decide) (by decide) (by decide) (by decide) (by decide) (by decide) (by decide) (by decide) (by decide) (by decide) (by decide) (by decide) (by decide)) (fun i => w10_2 655 i (by decide) (by decide) (by decide) (by decide) (by decide) (by decide) (by decide) (by decide) (by decide) (by decide) (by decide) (by decide) (by decide) (by decide) (by decide) (by decide) (by decide) (by decide) (by decide) (by decide) (by decide) (by decide) (by decide) (by decide)) (w10_3 82 (by decide) (by decide) (by decide) (by decide) (by decide) (by decide) (by decide) (by decide) (by decide) (by decide) (by decide) (by decide) (by decide) (by decide) (by decide) (by decide) (by decide) (by decide) (by decide) (by decide) (by decide) (by decide) (by decide) (by decide) (by decide)))) w10_0 z.1 (by omega), by rw [mu2.o z.1]; omega⟩); (exfalso; omega); (have mr := mu2.r y1; exact ⟨RV3.run ((MX.fr (MX.o hMX (by decide) (Or.inr (by decide))) (fun i => w10_2 652 i (by decide) (by decide) (by decide) (by decide) (by decide) (by decide) (by decide) (by decide) (by decide) (by decide) (by decide) (by decide) (by decide) (by decide) (by decide) (by decide) (by decide) (by decide) (by decide) (by decide) (by decide) (by decide) (by decide) (by decide)) (fun i => w10_2 653 i (by decide) (by decide) (by decide) (by decide) (by decide) (by decide) (by decide) (by decide) (by decide) (by decide) (by decide) (by decide) (by decide) (by decide) (by decide) (by decide) (by decide) (by decide) (by decide) (by decide) (by decide) (by decide) (by decide) (by decide)) (fun i => w10_2 654 i (by decide) (by decide) (by decide) (by decide) (by decide) (by decide) (by decide) (by decide) (by decide) (by decide) (by decide) (by decide) (by decide) (by decide) (by decide) (by decide) (by decide) (by decide) (by decide) (by decide) (by decide) (by decide) (by decide) (by decide)) (fun i => w10_2 655 i (by decide) (by decide) (by decide) (by decide) (by decide) (by decide) (by decide) (by decide) (by decide) (by decide) (by decide) (by decide) (by decide) (by decide) (by decide) (by decide) (by decide) (by decide) (by decide) (by decide) (by decide) (by decide) (by decide) (by decide)) (w10_3 82 (by decide) (by decide) (by decide) (by decide) (by decide) (by decide) (by decide) (by decide) (by decide) (by decide) (by decide) (by decide) (by decide) (by decide) (by decide) (by decide) (by decide) (by decide) (by decide) (by decide) (by decide) (by decide) (by decide) (by decide) (by decide)))) w10_0 y1 y2 ⟨y3, y4⟩ ⟨y6, y7⟩ y8 (hI_M10 598 143 (by decide)) (by omega), by omega⟩)
          refine jr.pick [0] rfl rfl ?_
          exact ih (nM - 1) (by omega) M10  hI_M10 hH_M10 hS_M10  (fun a i f598 f602 f603 f604 f605 f624 f670 f671 f672 f673 f674 f675 f676 f677 f678 f679 f680 f681 f682 f683 f684 f685 f686 f687 => ((w10_2 a i f598 f602 f603 f604 f605 f624 f670 f671 f672 f673 f674 f675 f676 f677 f678 f679 f680 f681 f682 f683 f684 f685 f686 f687).trans ((ju_c _ _ f598).trans (hF_M a i f598 f602 f603 f604 f605 f624 f670 f671 f672 f673 f674 f675 f676 f677 f678 f679 f680 f681 f682 f683 f684 f685 f686 f687)))) (fun i g6 g10 g11 g12 g59 g60 g61 g62 g63 g64 g65 g66 g110 g111 g112 g122 g131 g132 g133 g134 g135 g136 g137 g138 g139 g140 g141 g142 g143 g144 g145 g147 => ((w10_3 i g6 g10 g11 g12 g59 g60 g61 g62 g63 g64 g65 g66 g110 g112 g122 g131 g132 g134 g135 g136 g137 g138 g139 g143 g145).trans ((ju_i _ _ g135).trans (hG_M i g6 g10 g11 g12 g59 g60 g61 g62 g63 g64 g65 g66 g110 g111 g112 g122 g131 g132 g133 g134 g135 g136 g137 g138 g139 g140 g141 g142 g143 g144 g145 g147))))  hRV.1 (by omega) (by have z := hRV.2; omega)
        · have sx124 : (1 : Int) ≤ v13 := by omega
          refine jr.aload_n rfl rfl ?_
          refine jr.aload_n rfl rfl ?_
          refine jr.getf (i := 135) (x := v13) (v := .int (Int32.ofInt (v13))) rfl rfl (by decide) rfl (by decide) rfl rfl e13 rfl ?_
          refine jr_v rfl rfl (Or.inl rfl) rfl rfl (by decide) rfl ⟨rfl, Nat.le_of_ble_eq_true rfl, Nat.le_of_ble_eq_true rfl⟩ rfl (jc.deep (r_raise hI_M10 hH_M10 hS_M10  (by omega) (MX.fr (MX.o hMX (by decide) (Or.inr (by decide))) (fun i => w10_2 652 i (by decide) (by decide) (by decide) (by decide) (by decide) (by decide) (by decide) (by decide) (by decide) (by decide) (by decide) (by decide) (by decide) (by decide) (by decide) (by decide) (by decide) (by decide) (by decide) (by decide) (by decide) (by decide) (by decide) (by decide)) (fun i => w10_2 653 i (by decide) (by decide) (by decide) (by decide) (by decide) (by decide) (by decide) (by decide) (by decide) (by decide) (by decide) (by decide) (by decide) (by decide) (by decide) (by decide) (by decide) (by decide) (by decide) (by decide) (by decide) (by decide) (by decide) (by decide)) (fun i => w10_2 654 i (by decide) (by decide) (by decide) (by decide) (by decide) (by decide) (by decide) (by decide) (by decide) (by decide) (by decide) (by decide) (by decide) (by decide) (by decide) (by decide) (by decide) (by decide) (by decide) (by decide) (by decide) (by decide) (by decide) (by decide)) (fun i => w10_2 655 i (by decide) (by decide) (by decide) (by decide) (by decide) (by decide) (by decide) (by decide) (by decide) (by decide) (by decide) (by decide) (by decide) (by decide) (by decide) (by decide) (by decide) (by decide) (by decide) (by decide) (by decide) (by decide) (by decide) (by decide)) (w10_3 82 (by decide) (by decide) (by decide) (by decide) (by decide) (by decide) (by decide) (by decide) (by decide) (by decide) (by decide) (by decide) (by decide) (by decide) (by decide) (by decide) (by decide) (by decide) (by decide) (by decide) (by decide) (by decide) (by decide) (by decide) (by decide))) (by rcases w10_1 with z | ⟨y1, y2, _⟩; (exfalso; omega); exact y2) (by rcases w10_1 with z | ⟨y1, y2, y3, y4, _⟩; (exfalso; omega); exact ⟨y3, y4⟩) w10_0 (by omega) (fun M15 hI_M15 hH_M15 hS_M15  w15_0 w15_1 w15_2 w15_3 w15_4 => ?_)) (by decide))
          refine jr.goto rfl rfl ?_
          obtain ⟨v16, e16⟩ : ∃ z, M10 598 136 = z := ⟨_, rfl⟩
          have b16 : 0 ≤ v16 ∧ v16 ≤ 1 := by rw [← e16]; exact hI_M10 598 136 (by decide)
          obtain ⟨v18, e18⟩ : ∃ z, M10 598 143 = z := ⟨_, rfl⟩
          have b18 : 0 ≤ v18 ∧ v18 ≤ 300 := by rw [← e18]; exact hI_M10 598 143 (by decide)
          have y17 : M10 598 136 = v16 := e16
          have y19 : M10 598 143 = v18 := e18
          have y20 : M10 598 135 = v13 := e13
          obtain ⟨v21, e21⟩ : ∃ z, M10 598 143 = z := ⟨_, rfl⟩
          have b21 : 0 ≤ v21 ∧ v21 ≤ 300 := by rw [← e21]; exact hI_M10 598 143 (by decide)
          have e22 : M15 598 143 = v21 := ((w15_4 143 (by decide) (by decide) (by decide) (by decide) (by decide) (by decide) (by decide) (by decide) (by decide) (by decide) (by decide)).trans e21)
          have y23 : M15 598 143 = v21 := e22
          obtain ⟨v24, e24⟩ : ∃ z, M15 598 131 = z := ⟨_, rfl⟩
          have b24 : 0 ≤ v24 ∧ v24 ≤ 400 := by rw [← e24]; exact hI_M15 598 131 (by decide)
          have y25 : M15 598 131 = v24 := e24
          have hya : phi M10 = phi M ∧ M10 598 143 = M 598 143 ∧ M10 598 136 = 0 := by rcases w10_1 with z | ⟨y1, y2, y3, y4, ⟨y5, y6, y7⟩ | ⟨y5, y6, y7, y8, y9⟩⟩; (exfalso; omega); (exact ⟨by omega, by rw [y7]; exact ju_i _ _ (by decide), y1⟩); (exfalso; omega)
          have hm0 := mu.eq (M := M) rfl rfl hP (rfl : cr (M 654) P = cr (M 654) P)
          have c0 := cr_le (M 654) P
          have hRV : RV3 M15 (L + 2689623) ∧ mu2 M15 < mu2 M := by rcases w15_1 with z | ⟨y1, y2, y3, y4, y5, y6⟩; (exact ⟨RV3.over ((MX.fr (MX.fr (MX.o hMX (by decide) (Or.inr (by decide))) (fun i => w10_2 652 i (by decide) (by decide) (by decide) (by decide) (by decide) (by decide) (by decide) (by decide) (by decide) (by decide) (by decide) (by decide) (by decide) (by decide) (by decide) (by decide) (by decide) (by decide) (by decide) (by decide) (by decide) (by decide) (by decide) (by decide)) (fun i => w10_2 653 i (by decide) (by decide) (by decide) (by decide) (by decide) (by decide) (by decide) (by decide) (by decide) (by decide) (by decide) (by decide) (by decide) (by decide) (by decide) (by decide) (by decide) (by decide) (by decide) (by decide) (by decide) (by decide) (by decide) (by decide)) (fun i => w10_2 654 i (by decide) (by decide) (by decide) (by decide) (by decide) (by decide) (by decide) (by decide) (by decide) (by decide) (by decide) (by decide) (by decide) (by decide) (by decide) (by decide) (by decide) (by decide) (by decide) (by decide) (by decide) (by decide) (by decide) (by decide)) (fun i => w10_2 655 i (by decide) (by decide) (by decide) (by decide) (by decide) (by decide) (by decide) (by decide) (by decide) (by decide) (by decide) (by decide) (by decide) (by decide) (by decide) (by decide) (by decide) (by decide) (by decide) (by decide) (by decide) (by decide) (by decide) (by decide)) (w10_3 82 (by decide) (by decide) (by decide) (by decide) (by decide) (by decide) (by decide) (by decide) (by decide) (by decide) (by decide) (by decide) (by decide) (by decide) (by decide) (by decide) (by decide) (by decide) (by decide) (by decide) (by decide) (by decide) (by decide) (by decide) (by decide))) (fun i => w15_3 652 i (by decide) (by decide) (by decide) (by decide) (by decide) (by decide) (by decide) (by decide) (by decide) (by decide)) (fun i => w15_3 653 i (by decide) (by decide) (by decide) (by decide) (by decide) (by decide) (by decide) (by decide) (by decide) (by decide)) (fun i => w15_3 654 i (by decide) (by decide) (by decide) (by decide) (by decide) (by decide) (by decide) (by decide) (by decide) (by decide)) (fun i => w15_3 655 i (by decide) (by decide) (by decide) (by decide) (by decide) (by decide) (by decide) (by decide) (by decide) (by decide)) (w15_4 82 (by decide) (by decide) (by decide) (by decide) (by decide) (by decide) (by decide) (by decide) (by decide) (by decide) (by decide)))) w15_0 z (by omega), by rw [mu2.o z]; omega⟩); (have zc := REr.cr0 y5; obtain ⟨r1, r2, r3, _, _⟩ := y5; have zm := mu.eq (M := M15) rfl rfl rfl zc; have y0 : M15 598 136 = 0 := (by omega); have mr := mu2.r y0; exact ⟨RV3.run ((MX.fr (MX.fr (MX.o hMX (by decide) (Or.inr (by decide))) (fun i => w10_2 652 i (by decide) (by decide) (by decide) (by decide) (by decide) (by decide) (by decide) (by decide) (by decide) (by decide) (by decide) (by decide) (by decide) (by decide) (by decide) (by decide) (by decide) (by decide) (by decide) (by decide) (by decide) (by decide) (by decide) (by decide)) (fun i => w10_2 653 i (by decide) (by decide) (by decide) (by decide) (by decide) (by decide) (by decide) (by decide) (by decide) (by decide) (by decide) (by decide) (by decide) (by decide) (by decide) (by decide) (by decide) (by decide) (by decide) (by decide) (by decide) (by decide) (by decide) (by decide)) (fun i => w10_2 654 i (by decide) (by decide) (by decide) (by decide) (by decide) (by decide) (by decide) (by decide) (by decide) (by decide) (by decide) (by decide) (by decide) (by decide) (by decide) (by decide) (by decide) (by decide) (by decide) (by decide) (by decide) (by decide) (by decide) (by decide)) (fun i => w10_2 655 i (by decide) (by decide) (by decide) (by decide) (by decide) (by decide) (by decide) (by decide) (by decide) (by decide) (by decide) (by decide) (by decide) (by decide) (by decide) (by decide) (by decide) (by decide) (by decide) (by decide) (by decide) (by decide) (by decide) (by decide)) (w10_3 82 (by decide) (by decide) (by decide) (by decide) (by decide) (by decide) (by decide) (by decide) (by decide) (by decide) (by decide) (by decide) (by decide) (by decide) (by decide) (by decide) (by decide) (by decide) (by decide) (by decide) (by decide) (by decide) (by decide) (by decide) (by decide))) (fun i => w15_3 652 i (by decide) (by decide) (by decide) (by decide) (by decide) (by decide) (by decide) (by decide) (by decide) (by decide)) (fun i => w15_3 653 i (by decide) (by decide) (by decide) (by decide) (by decide) (by decide) (by decide) (by decide) (by decide) (by decide)) (fun i => w15_3 654 i (by decide) (by decide) (by decide) (by decide) (by decide) (by decide) (by decide) (by decide) (by decide) (by decide)) (fun i => w15_3 655 i (by decide) (by decide) (by decide) (by decide) (by decide) (by decide) (by decide) (by decide) (by decide) (by decide)) (w15_4 82 (by decide) (by decide) (by decide) (by decide) (by decide) (by decide) (by decide) (by decide) (by decide) (by decide) (by decide)))) w15_0 y0 y2 ⟨y3, y4⟩ ⟨r1, r2⟩ (by rw [r3]; exact w15_2) (hI_M15 598 143 (by decide)) (by omega), by omega⟩)
          refine jr.pick [0] rfl rfl ?_
          exact ih (nM - 1) (by omega) M15  hI_M15 hH_M15 hS_M15  (fun a i f598 f602 f603 f604 f605 f624 f670 f671 f672 f673 f674 f675 f676 f677 f678 f679 f680 f681 f682 f683 f684 f685 f686 f687 => ((w15_3 a i f598 f602 f624 f670 f671 f672 f673 f680 f683 f684).trans ((w10_2 a i f598 f602 f603 f604 f605 f624 f670 f671 f672 f673 f674 f675 f676 f677 f678 f679 f680 f681 f682 f683 f684 f685 f686 f687).trans ((ju_c _ _ f598).trans (hF_M a i f598 f602 f603 f604 f605 f624 f670 f671 f672 f673 f674 f675 f676 f677 f678 f679 f680 f681 f682 f683 f684 f685 f686 f687))))) (fun i g6 g10 g11 g12 g59 g60 g61 g62 g63 g64 g65 g66 g110 g111 g112 g122 g131 g132 g133 g134 g135 g136 g137 g138 g139 g140 g141 g142 g143 g144 g145 g147 => ((w15_4 i g112 g122 g132 g134 g136 g137 g138 g111 g131 g142 g147).trans ((w10_3 i g6 g10 g11 g12 g59 g60 g61 g62 g63 g64 g65 g66 g110 g112 g122 g131 g132 g134 g135 g136 g137 g138 g139 g143 g145).trans ((ju_i _ _ g135).trans (hG_M i g6 g10 g11 g12 g59 g60 g61 g62 g63 g64 g65 g66 g110 g111 g112 g122 g131 g132 g133 g134 g135 g136 g137 g138 g139 g140 g141 g142 g143 g144 g145 g147)))))  hRV.1 (by omega) (by have z := hRV.2; omega)
theorem r_verdict {A : Nat → Option (Nat × (Nat → Int32))} {Q : Option Value → jm → Prop} {L : Int} {M : jm} (hI_M : RI M) (hH_M : RH M) (hS_M : RF M) {x : Int} (h_x : (-2147483648) ≤ x ∧ x ≤ 2147483647) (p0 : MC M) (p1 : AS M L) (p2 : 0 ≤ L ∧ L ≤ 1990000000) (q : ∀ (r : Int) (M' : jm), RI M' → RH M' → RF M' → (-18) ≤ r ∧ r ≤ 8 → AS M' (L + 2689623) → (∀ (a : Nat) (i : Int), a ≠ 598 → a ≠ 602 → a ≠ 603 → a ≠ 604 → a ≠ 605 → a ≠ 624 → a ≠ 670 → a ≠ 671 → a ≠ 672 → a ≠ 673 → a ≠ 674 → a ≠ 675 → a ≠ 676 → a ≠ 677 → a ≠ 678 → a ≠ 679 → a ≠ 680 → a ≠ 681 → a ≠ 682 → a ≠ 683 → a ≠ 684 → a ≠ 685 → a ≠ 686 → a ≠ 687 → M' a i = M a i) → (∀ (i : Int), i ≠ 6 → i ≠ 10 → i ≠ 11 → i ≠ 12 → i ≠ 59 → i ≠ 60 → i ≠ 61 → i ≠ 62 → i ≠ 63 → i ≠ 64 → i ≠ 65 → i ≠ 66 → i ≠ 110 → i ≠ 111 → i ≠ 112 → i ≠ 122 → i ≠ 131 → i ≠ 132 → i ≠ 133 → i ≠ 134 → i ≠ 135 → i ≠ 136 → i ≠ 137 → i ≠ 138 → i ≠ 139 → i ≠ 140 → i ≠ 141 → i ≠ 142 → i ≠ 143 → i ≠ 144 → i ≠ 145 → i ≠ 147 → M' 598 i = M 598 i) → Q (some (.int (Int32.ofInt r))) M') : jc A 11 379 [.ref (598), .int (Int32.ofInt (x))] M Q := by
  have hAS := p1
  refine jc_of (m := xm_379) rfl (Nat.le_of_ble_eq_true rfl) rfl ?_
  refine jr.iload_n rfl rfl ?_
  refine jr_s rfl rfl (Or.inl rfl) ⟨Nat.le_of_ble_eq_true rfl, Nat.le_of_ble_eq_true rfl⟩ rfl rfl (jc.deep (c_isPN (by omega) (fun l1 u1 => ?_) (fun n1 => ?_)) (by decide))
  · refine jr.if_ne rfl rfl (by omega) (fun _ => ?_) (fun h => absurd (by decide) h)
    refine jr.aload_n rfl rfl ?_
    obtain ⟨v1, e1⟩ : ∃ z, M 598 82 = z := ⟨_, rfl⟩
    have b1 : 0 ≤ v1 ∧ v1 ≤ 16 := by rw [← e1]; exact hI_M 598 82 (by decide)
    refine jr.getf (i := 82) (x := v1) (v := .int (Int32.ofInt (v1))) rfl rfl (by decide) rfl (by decide) rfl rfl e1 rfl ?_
    refine jr.if_eq rfl rfl (by omega) (fun h14 => ?_) (fun h14 => ?_)
    · refine jr.bipush rfl (by decide) ?_
      exact jr.ireturn rfl rfl rfl (q _ _ hI_M hH_M hS_M  (by omega) (AS.up hAS (by omega)) (fun a i f598 f602 f603 f604 f605 f624 f670 f671 f672 f673 f674 f675 f676 f677 f678 f679 f680 f681 f682 f683 f684 f685 f686 f687 => rfl) (fun i g6 g10 g11 g12 g59 g60 g61 g62 g63 g64 g65 g66 g110 g111 g112 g122 g131 g132 g133 g134 g135 g136 g137 g138 g139 g140 g141 g142 g143 g144 g145 g147 => rfl))
    · have sx14 : (1 : Int) ≤ v1 := by omega
      refine jr.aload_n rfl rfl ?_
      obtain ⟨v2, e2⟩ : ∃ z, M 598 111 = z := ⟨_, rfl⟩
      have b2 : 0 ≤ v2 ∧ v2 ≤ 2000 := by rw [← e2]; exact hI_M 598 111 (by decide)
      refine jr.getf (i := 111) (x := v2) (v := .int (Int32.ofInt (v2))) rfl rfl (by decide) rfl (by decide) rfl rfl e2 rfl ?_
      refine jr.sipush rfl (by decide) ?_
      refine jr.icmp_ne rfl rfl (by omega) (by omega) (fun h24 => ?_) (fun h24 => ?_)
      · have sx24 : v2 ≤ (1999 : Int) := by omega
        refine jr.aload_n rfl rfl ?_
        refine jr.iload_n rfl rfl ?_
        refine jr.putf (i := 133) (x := x) rfl rfl (by decide) rfl (by decide) rfl rfl rfl rfl rfl ?_
        refine jr.aload_n rfl rfl ?_
        refine jr.iconst rfl ?_
        refine jr.putf (i := 122) (x := 0) rfl rfl (by decide) rfl (by decide) rfl rfl rfl rfl rfl ?_
        refine jr.aload_n rfl rfl ?_
        refine jr.iconst rfl ?_
        refine jr.putf (i := 131) (x := 0) rfl rfl (by decide) rfl (by decide) rfl rfl rfl rfl rfl ?_
        refine jr.aload_n rfl rfl ?_
        refine jr.iconst rfl ?_
        refine jr.putf (i := 134) (x := 0) rfl rfl (by decide) rfl (by decide) rfl rfl rfl rfl rfl ?_
        refine jr.aload_n rfl rfl ?_
        refine jr.iconst rfl ?_
        refine jr.putf (i := 143) (x := 0) rfl rfl (by decide) rfl (by decide) rfl rfl rfl rfl rfl ?_
        refine jr.aload_n rfl rfl ?_
        refine jr.iconst rfl ?_
        refine jr.putf (i := 145) (x := 0) rfl rfl (by decide) rfl (by decide) rfl rfl rfl rfl rfl ?_
        refine jr.aload_n rfl rfl ?_
        refine jr.lconst (x := 0) rfl (by decide) ?_
        refine jr.putf (i := 142) (x := 0) rfl rfl (by decide) rfl (by decide) rfl rfl rfl rfl rfl ?_
        refine jr.aload_n rfl rfl ?_
        refine jr.iconst rfl ?_
        refine jr.putf (i := 136) (x := 0) rfl rfl (by decide) rfl (by decide) rfl rfl rfl rfl rfl ?_
        refine jr.aload_n rfl rfl ?_
        refine jr.iconst rfl ?_
        refine jr.putf (i := 140) (x := 1) rfl rfl (by decide) rfl (by decide) rfl rfl rfl rfl rfl ?_
        refine jr.aload_n rfl rfl ?_
        refine jr.iconst rfl ?_
        refine jr.putf (i := 132) (x := 0) rfl rfl (by decide) rfl (by decide) rfl rfl rfl rfl rfl ?_
        refine jr.aload_n rfl rfl ?_
        refine jr.iconst rfl ?_
        refine jr.iconst rfl ?_
        refine jr_v rfl rfl (Or.inl rfl) rfl rfl (by decide) rfl ⟨rfl, Nat.le_of_ble_eq_true rfl, Nat.le_of_ble_eq_true rfl⟩ rfl (jc.deep (r_enter (RI.u (RI.u (RI.u (RI.u (RI.u (RI.u (RI.u (RI.u (RI.u (RI.u hI_M (a := 598) (i := 133) (show (0 : Int) ≤ _ ∧ _ ≤ (23 : Int) from by omega)) (a := 598) (i := 122) (show (0 : Int) ≤ _ ∧ _ ≤ (9 : Int) from by omega)) (a := 598) (i := 131) (show (0 : Int) ≤ _ ∧ _ ≤ (400 : Int) from by omega)) (a := 598) (i := 134) (show (0 : Int) ≤ _ ∧ _ ≤ (8 : Int) from by omega)) (a := 598) (i := 143) (show (0 : Int) ≤ _ ∧ _ ≤ (300 : Int) from by omega)) (a := 598) (i := 145) (show (0 : Int) ≤ _ ∧ _ ≤ (40 : Int) from by omega)) (a := 598) (i := 142) (show (-9223372036854775808 : Int) ≤ _ ∧ _ ≤ (9223372036854775807 : Int) from by omega)) (a := 598) (i := 136) (show (0 : Int) ≤ _ ∧ _ ≤ (1 : Int) from by omega)) (a := 598) (i := 140) (show (0 : Int) ≤ _ ∧ _ ≤ (1 : Int) from by omega)) (a := 598) (i := 132) (show (0 : Int) ≤ _ ∧ _ ≤ (2200 : Int) from by omega)) (RH.o (RH.o (RH.o (RH.o (RH.o (RH.o (RH.o (RH.o (RH.o (RH.o hH_M (by decide) (by decide) (by decide)) (by decide) (by decide) (by decide)) (by decide) (by decide) (by decide)) (by decide) (by decide) (by decide)) (by decide) (by decide) (by decide)) (by decide) (by decide) (by decide)) (by decide) (by decide) (by decide)) (by decide) (by decide) (by decide)) (by decide) (by decide) (by decide)) (by decide) (by decide) (by decide)) (RF.o (RF.o (RF.o (RF.o (RF.o (RF.o (RF.o (RF.o (RF.o (RF.o hS_M (by decide) (by decide)) (by decide) (by decide)) (by decide) (by decide)) (by decide) (by decide)) (by decide) (by decide)) (by decide) (by decide)) (by decide) (by decide)) (by decide) (by decide)) (by decide) (by decide)) (by decide) (by decide))  (by omega) (by omega) (by rw [((ju_i _ _ (by decide)).trans ((ju_i _ _ (by decide)).trans ((ju_i _ _ (by decide)).trans ((ju_i _ _ (by decide)).trans ((ju_i _ _ (by decide)).trans ((ju_i _ _ (by decide)).trans ((ju_i _ _ (by decide)).trans ((ju_i _ _ (by decide)).trans (ju_same _ _ _ _)))))))))]; omega) (AS.o (AS.o (AS.o (AS.o (AS.o (AS.o (AS.o (AS.o (AS.o (AS.o hAS (by decide) (Or.inr (by decide))) (by decide) (Or.inr (by decide))) (by decide) (Or.inr (by decide))) (by decide) (Or.inr (by decide))) (by decide) (Or.inr (by decide))) (by decide) (Or.inr (by decide))) (by decide) (Or.inr (by decide))) (by decide) (Or.inr (by decide))) (by decide) (Or.inr (by decide))) (by decide) (Or.inr (by decide))) (by omega) (fun M3 hI_M3 hH_M3 hS_M3  w3_0 w3_1 w3_2 w3_3 w3_4 w3_5 w3_6 => ?_)) (by decide))
        have y4 : (ju (ju (ju (ju (ju (ju (ju (ju (ju (ju M 598 133 x) 598 122 0) 598 131 0) 598 134 0) 598 143 0) 598 145 0) 598 142 0) 598 136 0) 598 140 1) 598 132 0) 598 122 = 0 := ((ju_i _ _ (by decide)).trans ((ju_i _ _ (by decide)).trans ((ju_i _ _ (by decide)).trans ((ju_i _ _ (by decide)).trans ((ju_i _ _ (by decide)).trans ((ju_i _ _ (by decide)).trans ((ju_i _ _ (by decide)).trans ((ju_i _ _ (by decide)).trans (ju_same _ _ _ _)))))))))
        have y5 : (ju (ju (ju (ju (ju (ju (ju (ju (ju (ju M 598 133 x) 598 122 0) 598 131 0) 598 134 0) 598 143 0) 598 145 0) 598 142 0) 598 136 0) 598 140 1) 598 132 0) 598 132 = 0 := (ju_same _ _ _ _)
        have y6 : (ju (ju (ju (ju (ju (ju (ju (ju (ju (ju M 598 133 x) 598 122 0) 598 131 0) 598 134 0) 598 143 0) 598 145 0) 598 142 0) 598 136 0) 598 140 1) 598 132 0) 598 136 = 0 := ((ju_i _ _ (by decide)).trans ((ju_i _ _ (by decide)).trans (ju_same _ _ _ _)))
        obtain ⟨v7, e7⟩ : ∃ z, M3 598 122 = z := ⟨_, rfl⟩
        have b7 : 0 ≤ v7 ∧ v7 ≤ 9 := by rw [← e7]; exact hI_M3 598 122 (by decide)
        have y8 : M3 598 122 = v7 := e7
        have e9 : M3 598 131 = 0 := ((w3_6 131 (by decide) (by decide)).trans ((ju_i _ _ (by decide)).trans ((ju_i _ _ (by decide)).trans ((ju_i _ _ (by decide)).trans ((ju_i _ _ (by decide)).trans ((ju_i _ _ (by decide)).trans ((ju_i _ _ (by decide)).trans ((ju_i _ _ (by decide)).trans (ju_same _ _ _ _)))))))))
        have y10 : M3 598 131 = 0 := e9
        obtain ⟨v11, e11⟩ : ∃ z, M3 598 132 = z := ⟨_, rfl⟩
        have b11 : 0 ≤ v11 ∧ v11 ≤ 2200 := by rw [← e11]; exact hI_M3 598 132 (by decide)
        have y12 : M3 598 132 = v11 := e11
        have e13 : M3 598 136 = 0 := ((w3_6 136 (by decide) (by decide)).trans ((ju_i _ _ (by decide)).trans ((ju_i _ _ (by decide)).trans (ju_same _ _ _ _))))
        have y14 : M3 598 136 = 0 := e13
        have e15 : M3 598 143 = 0 := ((w3_6 143 (by decide) (by decide)).trans ((ju_i _ _ (by decide)).trans ((ju_i _ _ (by decide)).trans ((ju_i _ _ (by decide)).trans ((ju_i _ _ (by decide)).trans ((ju_i _ _ (by decide)).trans (ju_same _ _ _ _)))))))
        have y16 : M3 598 143 = 0 := e15
        have mc := p0.resolve_left (by omega)
        obtain ⟨ht, n, mx⟩ := mc
        have hMX : MX M ht n := mx
        have en0 := MX.re hMX (hMX.2.2.2.1 0 (by omega) (by omega)).1
        have hMX2 := (MX.fr (MX.o (MX.o (MX.o (MX.o (MX.o (MX.o (MX.o (MX.o (MX.o (MX.o hMX (by decide) (Or.inr (by decide))) (by decide) (Or.inr (by decide))) (by decide) (Or.inr (by decide))) (by decide) (Or.inr (by decide))) (by decide) (Or.inr (by decide))) (by decide) (Or.inr (by decide))) (by decide) (Or.inr (by decide))) (by decide) (Or.inr (by decide))) (by decide) (Or.inr (by decide))) (by decide) (Or.inr (by decide))) (fun i => w3_5 652 i (by decide) (by decide) (by decide) (by decide) (by decide) (by decide)) (fun i => w3_5 653 i (by decide) (by decide) (by decide) (by decide) (by decide) (by decide)) (fun i => w3_5 654 i (by decide) (by decide) (by decide) (by decide) (by decide) (by decide)) (fun i => w3_5 655 i (by decide) (by decide) (by decide) (by decide) (by decide) (by decide)) (w3_6 82 (by decide) (by decide)))
        have hent : FRS M3 ht n (0 + 1) := by
          intro f f0 f1
          have e : f = 0 := by omega
          rw [e, show M3 654 = M 654 from funext (fun i => (w3_5 654 i (by decide) (by decide) (by decide) (by decide) (by decide) (by decide)).trans ((fun i => ((ju_c _ _ (by decide)).trans ((ju_c _ _ (by decide)).trans ((ju_c _ _ (by decide)).trans ((ju_c _ _ (by decide)).trans ((ju_c _ _ (by decide)).trans ((ju_c _ _ (by decide)).trans ((ju_c _ _ (by decide)).trans ((ju_c _ _ (by decide)).trans ((ju_c _ _ (by decide)).trans ((ju_c _ _ (by decide)).trans (rfl)))))))))))) i)), ((w3_6 82 (by decide) (by decide)).trans ((ju_i _ _ (by decide)).trans ((ju_i _ _ (by decide)).trans ((ju_i _ _ (by decide)).trans ((ju_i _ _ (by decide)).trans ((ju_i _ _ (by decide)).trans ((ju_i _ _ (by decide)).trans ((ju_i _ _ (by decide)).trans ((ju_i _ _ (by decide)).trans ((ju_i _ _ (by decide)).trans ((ju_i _ _ (by decide)).trans (rfl))))))))))))]
          have q := w3_4.1
          rw [((ju_i _ _ (by decide)).trans ((ju_i _ _ (by decide)).trans ((ju_i _ _ (by decide)).trans ((ju_i _ _ (by decide)).trans ((ju_i _ _ (by decide)).trans ((ju_i _ _ (by decide)).trans ((ju_i _ _ (by decide)).trans ((ju_i _ _ (by decide)).trans (ju_same _ _ _ _)))))))))] at q
          rw [q]
          exact ⟨by omega, by omega, fun z => by omega⟩
        have pce : M3 598 132 = M 652 0 := by rw [w3_2, show (ju (ju (ju (ju (ju (ju (ju (ju (ju (ju M 598 133 x) 598 122 0) 598 131 0) 598 134 0) 598 143 0) 598 145 0) 598 142 0) 598 136 0) 598 140 1) 598 132 0) 652 0 = M 652 0 from (fun i => ((ju_c _ _ (by decide)).trans ((ju_c _ _ (by decide)).trans ((ju_c _ _ (by decide)).trans ((ju_c _ _ (by decide)).trans ((ju_c _ _ (by decide)).trans ((ju_c _ _ (by decide)).trans ((ju_c _ _ (by decide)).trans ((ju_c _ _ (by decide)).trans ((ju_c _ _ (by decide)).trans ((ju_c _ _ (by decide)).trans (rfl)))))))))))) 0]
        have r5 := mu.rng (M := M3) (hI_M3 598 143 (by decide)) (by omega) (by rw [pce]; exact ⟨en0.1, by have := hMX.2.1; have := en0.2.1; omega⟩)
        have hRV : RV3 M3 (L + 2689623) := (RV3.run hMX2 w3_0 (by omega) (by rw [show M3 598 122 = 0 + 1 by omega]; exact hent) (by omega) (by rw [pce]; exact ⟨en0.1, en0.2.1⟩) (by rw [pce, en0.2.2.1, e9]) (hI_M3 598 143 (by decide)) (by omega))
        refine jr.pick [0] rfl rfl ?_
        exact r_verdict_L86 q 2689622 M3  hI_M3 hH_M3 hS_M3  (fun a i f598 f602 f603 f604 f605 f624 f670 f671 f672 f673 f674 f675 f676 f677 f678 f679 f680 f681 f682 f683 f684 f685 f686 f687 => ((w3_5 a i f598 f679 f680 f681 f682 f685).trans ((ju_c _ _ f598).trans ((ju_c _ _ f598).trans ((ju_c _ _ f598).trans ((ju_c _ _ f598).trans ((ju_c _ _ f598).trans ((ju_c _ _ f598).trans ((ju_c _ _ f598).trans ((ju_c _ _ f598).trans ((ju_c _ _ f598).trans ((ju_c _ _ f598).trans rfl)))))))))))) (fun i g6 g10 g11 g12 g59 g60 g61 g62 g63 g64 g65 g66 g110 g111 g112 g122 g131 g132 g133 g134 g135 g136 g137 g138 g139 g140 g141 g142 g143 g144 g145 g147 => ((w3_6 i g122 g132).trans ((ju_i _ _ g132).trans ((ju_i _ _ g140).trans ((ju_i _ _ g136).trans ((ju_i _ _ g142).trans ((ju_i _ _ g145).trans ((ju_i _ _ g143).trans ((ju_i _ _ g134).trans ((ju_i _ _ g131).trans ((ju_i _ _ g122).trans ((ju_i _ _ g133).trans rfl))))))))))))  hRV (by omega) (by obtain ⟨_, _, _, _, _, r, _⟩ := hRV; omega)
      · refine jr.bipush rfl (by decide) ?_
        exact jr.ireturn rfl rfl rfl (q _ _ hI_M hH_M hS_M  (by omega) (AS.up hAS (by omega)) (fun a i f598 f602 f603 f604 f605 f624 f670 f671 f672 f673 f674 f675 f676 f677 f678 f679 f680 f681 f682 f683 f684 f685 f686 f687 => rfl) (fun i g6 g10 g11 g12 g59 g60 g61 g62 g63 g64 g65 g66 g110 g111 g112 g122 g131 g132 g133 g134 g135 g136 g137 g138 g139 g140 g141 g142 g143 g144 g145 g147 => rfl))
  · refine jr.if_ne rfl rfl (by omega) (fun h => absurd h (by decide)) (fun _ => ?_)
    refine jr.bipush rfl (by decide) ?_
    exact jr.ireturn rfl rfl rfl (q _ _ hI_M hH_M hS_M  (by omega) (AS.up hAS (by omega)) (fun a i f598 f602 f603 f604 f605 f624 f670 f671 f672 f673 f674 f675 f676 f677 f678 f679 f680 f681 f682 f683 f684 f685 f686 f687 => rfl) (fun i g6 g10 g11 g12 g59 g60 g61 g62 g63 g64 g65 g66 g110 g111 g112 g122 g131 g132 g133 g134 g135 g136 g137 g138 g139 g140 g141 g142 g143 g144 g145 g147 => rfl))
end
section
/-! ===== the reference: contracts, 38.ga ===== -/
noncomputable def KT (M : jm) (o c f t k h x : Int) : Prop := (k = 2 ∨ k = 6) ∧ f + c ≤ 400 ∧ 8 ≤ M 604 h + M 605 h ∧ M 604 t ≤ 380 ∧ M 604 h ≤ 392 ∧ (k = 2 → (t = h ∧ M 605 h = 4 * (M 601 (400 * x + M 604 h) % 16) ∧ 20 ≤ M 605 h))
theorem KT.fr {M M' : jm} {o c f t k h x : Int} (q : KT M o c f t k h x) (e1 : ∀ i, M' 601 i = M 601 i) (e4 : ∀ i, M' 604 i = M 604 i) (e5 : ∀ i, M' 605 i = M 605 i) : KT M' o c f t k h x := by
  unfold KT at q ⊢
  rw [e4, e4, e5, e1]
  exact q
noncomputable def HK (M : jm) (x h t k a : Int) : Prop := M 603 h = k ∧ M 604 h = a ∧ a + M 605 h ≤ M 600 x ∧ M 604 t ≤ 380 ∧ ((k = 2 ∧ a ≤ 380 ∧ t = h ∧ M 605 h = 4 * (M 601 (400 * x + M 604 h) % 16) ∧ 20 ≤ M 605 h) ∨ (k = 6 ∧ a ≤ 392 ∧ 8 ≤ M 605 h ∧ M 604 t ≤ 376))
theorem HK.mk' {M : jm} {x h t k a : Int} (hH : RH M) (hl : LK x M) (h0 : 0 ≤ h) (h1 : h < M 598 6) (e1 : M 603 h = k) (e2 : M 604 h = a) (hk : M 603 h = 2 ∧ M 604 h ≤ 380 ∨ M 603 h = 6 ∧ M 604 h ≤ 392 ∧ 1 ≤ h) (ht0 : t = -1 ∨ (0 ≤ t ∧ t < M 598 6 ∧ (M 603 t = 2 ∧ M 604 t ≤ 380 ∨ M 603 t = 3 ∧ M 604 t ≤ 376))) (hn : ∀ j : Int, 0 ≤ j → j < t → M 603 j ≠ 2 ∧ M 603 j ≠ 3) (hn2 : t = -1 → ∀ j : Int, 0 ≤ j → j < M 598 6 → M 603 j ≠ 2 ∧ M 603 j ≠ 3) (hp : ∃ s : Int, 0 ≤ s ∧ s < M 598 6 ∧ (M 603 s = 2 ∨ M 603 s = 3) ∧ (∀ j : Int, 0 ≤ j → j < s → M 603 j ≠ 2 ∧ M 603 j ≠ 3) ∧ ((M 603 h = 2 ∧ s = h) ∨ (M 603 h = 6 ∧ M 603 s = 3))) : 0 ≤ t ∧ HK M x h t k a := by
  obtain ⟨s, s0, s1, s2, s3, s4⟩ := hp
  have tn : t ≠ -1 := by
    intro z
    have z1 := hn2 z s s0 s1
    omega
  have e : t = s := by
    rcases Int.lt_trichotomy t s with y | y | y
    · exfalso
      have z2 := s3 t (by omega) y
      omega
    · exact y
    · exfalso
      have z2 := hn s s0 y
      omega
  subst e
  have l0 := hl h h0 h1
  have lk := lst_k (M 603 h)
  refine ⟨s0, e1, e2, by omega, by omega, ?_⟩
  rcases s4 with ⟨q1, q2⟩ | ⟨q1, q2⟩
  · exact Or.inl ⟨by omega, by omega, q2, l0.2.2 q1, by omega⟩
  · exact Or.inr ⟨by omega, by omega, by omega, by omega⟩
end
