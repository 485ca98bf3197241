/-! ===== the reference: contracts, 37.mg ===== -/
theorem op_tab (o : Int) : (o = 0 → ndo o = 0 ∧ dlo o = 0) ∧ (o = 1 → ndo o = 1 ∧ dlo o = -1) ∧ (o = 2 → ndo o = 0 ∧ dlo o = 0) ∧ (o = 3 → ndo o = 0 ∧ dlo o = 0) ∧ (4 ≤ o ∧ o ≤ 6 → ndo o = 0 ∧ dlo o = 1) ∧ (o = 7 ∨ o = 8 → ndo o = 1 ∧ dlo o = -1) ∧ (9 ≤ o ∧ o ≤ 11 → ndo o = 1 ∧ dlo o = 0) ∧ (137 ≤ o ∧ o ≤ 162 → ndo o = 2 ∧ dlo o = -1) ∧ (350 ≤ o ∧ o < 365 → ndo o = 0 ∧ dlo o = 1) ∧ (365 ≤ o ∧ o ≤ 370 → ndo o = argn (o - 340) ∧ dlo o = 1 - argn (o - 340)) ∧ (24 ≤ o ∧ o ≤ 29 → ndo o = 0 ∧ dlo o = 0) ∧ (30 ≤ o ∧ o ≤ 38 → dlo o = -(ndo o)) := by
  refine ⟨?_, ?_, ?_, ?_, ?_, ?_, ?_, ?_, ?_, ?_, ?_, ?_⟩ <;> intro h <;> unfold dlo <;> unfold ndo <;> (repeat' split) <;> first | omega | exact ⟨rfl, rfl⟩ | exact ⟨rfl, by omega⟩
noncomputable def cr (co : Int → Int) (p : Int) : Int := if co p = 28 ∨ co p = 29 then 1 else 0
theorem cr_le (co : Int → Int) (p : Int) : 0 ≤ cr co p ∧ cr co p ≤ 1 := by
  unfold cr
  split <;> omega
theorem MX.cr0 {M : jm} {ht : Int → Int} {n e : Int} (h : MX M ht n) (h0 : 0 ≤ e) (h1 : e < n) (h2 : M 654 (e - 1) ≠ 0) : cr (M 654) e = 0 := by
  unfold cr
  rw [if_neg]
  intro q
  obtain ⟨_, _, _, d⟩ := h.2.2.1 e h0 h1
  exact h2 (d q).2.1
theorem REr.cr0 {co ht : Int → Int} {n e : Int} (h : REr co ht n e) : cr co e = 0 := by
  obtain ⟨_, _, _, a, b⟩ := h
  unfold cr
  rw [if_neg (by omega)]
theorem MX.ren {M : jm} {ht : Int → Int} {n P : Int} (h : MX M ht n) (h0 : 0 ≤ P) (h1 : P + 1 < n) (h2 : M 654 P ≠ 0) (h3 : ht (P + 1) = 0) : REr (M 654) ht n (P + 1) := by
  obtain ⟨_, _, _, d⟩ := h.2.2.1 (P + 1) (by omega) h1
  rw [show P + 1 - 1 = P by omega] at d
  exact ⟨by omega, h1, h3, fun q => h2 (d (Or.inl q)).2.1, fun q => h2 (d (Or.inr q)).2.1⟩
noncomputable def mu (M : jm) : Int := 8804 * (300 - M 598 143) + 2201 * (phi M + 4 * cr (M 654) (M 598 132)) + (2200 - M 598 132)
theorem mu.eq {M : jm} {st P f c : Int} (e1 : M 598 143 = st) (e2 : phi M = f) (e3 : M 598 132 = P) (e4 : cr (M 654) P = c) : mu M = 8804 * (300 - st) + 2201 * (f + 4 * c) + (2200 - P) := by
  unfold mu
  rw [e1, e2, e3, e4]
theorem r_act_L487 {A : Nat → Option (Nat × (Nat → Int32))} {Q : Option Value → jm → Prop} {L n : Int} {ht : Int → Int} {M0 : jm} (q : ∀ (M' : jm), RI M' → RH M' → RF M' → AS M' (L + 1) → ((M' 598 136 = 1 ∧ M' 598 135 = 0) ∨ (M' 598 136 = 0 ∧ FRS M' ht n (M' 598 122) ∧ 1 ≤ M' 598 122 ∧ M' 598 122 ≤ 8 ∧ ((M' 598 135 ≠ 0 ∧ phi M' = phi M0 ∧ M' 598 143 = M0 598 143) ∨ (M' 598 135 = 0 ∧ 0 ≤ M' 598 132 ∧ M' 598 132 < n ∧ M' 598 131 = ht (M' 598 132) ∧ mu M' < mu M0)))) → (∀ (a : Nat) (i : Int), a ≠ 598 → a ≠ 602 → a ≠ 603 → a ≠ 604 → a ≠ 605 → a ≠ 624 → a ≠ 670 → a ≠ 671 → a ≠ 672 → a ≠ 673 → a ≠ 674 → a ≠ 675 → a ≠ 676 → a ≠ 677 → a ≠ 678 → a ≠ 679 → a ≠ 680 → a ≠ 681 → a ≠ 682 → a ≠ 683 → a ≠ 684 → a ≠ 685 → a ≠ 686 → a ≠ 687 → M' a i = M0 a i) → (∀ (i : Int), i ≠ 6 → i ≠ 10 → i ≠ 11 → i ≠ 12 → i ≠ 59 → i ≠ 60 → i ≠ 61 → i ≠ 62 → i ≠ 63 → i ≠ 64 → i ≠ 65 → i ≠ 66 → i ≠ 110 → i ≠ 112 → i ≠ 122 → i ≠ 131 → i ≠ 132 → i ≠ 134 → i ≠ 135 → i ≠ 136 → i ≠ 137 → i ≠ 138 → i ≠ 139 → i ≠ 143 → i ≠ 145 → M' 598 i = M0 598 i) → Q none M') : ∀ (M : jm) , RI M → RH M → RF M → (∀ (a : Nat) (i : Int), a ≠ 598 → a ≠ 602 → a ≠ 603 → a ≠ 604 → a ≠ 605 → a ≠ 624 → a ≠ 670 → a ≠ 671 → a ≠ 672 → a ≠ 673 → a ≠ 674 → a ≠ 675 → a ≠ 676 → a ≠ 677 → a ≠ 678 → a ≠ 679 → a ≠ 680 → a ≠ 681 → a ≠ 682 → a ≠ 683 → a ≠ 684 → a ≠ 685 → a ≠ 686 → a ≠ 687 → M a i = M0 a i) → (∀ (i : Int), i ≠ 6 → i ≠ 10 → i ≠ 11 → i ≠ 12 → i ≠ 59 → i ≠ 60 → i ≠ 61 → i ≠ 62 → i ≠ 63 → i ≠ 64 → i ≠ 65 → i ≠ 66 → i ≠ 110 → i ≠ 112 → i ≠ 122 → i ≠ 131 → i ≠ 132 → i ≠ 134 → i ≠ 135 → i ≠ 136 → i ≠ 137 → i ≠ 138 → i ≠ 139 → i ≠ 143 → i ≠ 145 → M 598 i = M0 598 i) → FRS M ht n (M 598 122) → AS M (L + 1) → 1 ≤ M 598 122 ∧ M 598 122 ≤ 8 → phi M = phi M0 → M 598 136 = 0 → M 598 132 = M0 598 132 → 0 ≤ M0 598 132 ∧ M0 598 132 + 1 < n ∧ n ≤ 2000 → (M 598 135 = 0 → M 598 131 = ht (M0 598 132 + 1)) → ((M 598 143 = M0 598 143 ∧ cr (M0 654) (M0 598 132 + 1) = 0) ∨ (M 598 143 = M0 598 143 + 1 ∧ M 598 135 = 0)) → jr A 9 xm_380 487 [(0, .ref (598))] [] M Q := by
    intro M  hI_M hH_M hS_M hF_M hG_M  hy0 hy1 hy2 hy3 hy4 hy5 hy6 hy7 hy8
    have hFR := hy0
    have hAS := hy1
    have hph := hy3
    refine jr.aload_n rfl rfl ?_
    obtain ⟨v1, e1⟩ : ∃ z, M 598 135 = z := ⟨_, rfl⟩
    have b1 : 0 ≤ v1 ∧ v1 ≤ 8 := by rw [← e1]; exact hI_M 598 135 (by decide)
    refine jr.getf (i := 135) (x := v1) (v := .int (Int32.ofInt (v1))) rfl rfl (by decide) rfl (by decide) rfl rfl e1 rfl ?_
    refine jr.if_ne rfl rfl (by omega) (fun h491 => ?_) (fun h491 => ?_)
    · obtain ⟨v2, e2⟩ : ∃ z, M 598 122 = z := ⟨_, rfl⟩
      have b2 : 0 ≤ v2 ∧ v2 ≤ 9 := by rw [← e2]; exact hI_M 598 122 (by decide)
      have y3 : M 598 122 = v2 := e2
      obtain ⟨v4, e4⟩ : ∃ z, M 598 131 = z := ⟨_, rfl⟩
      have b4 : 0 ≤ v4 ∧ v4 ≤ 400 := by rw [← e4]; exact hI_M 598 131 (by decide)
      have y5 : M 598 131 = v4 := e4
      obtain ⟨v6, e6⟩ : ∃ z, M 598 132 = z := ⟨_, rfl⟩
      have b6 : 0 ≤ v6 ∧ v6 ≤ 2200 := by rw [← e6]; exact hI_M 598 132 (by decide)
      have y7 : M 598 132 = v6 := e6
      have y8 : M 598 135 = v1 := e1
      obtain ⟨v9, e9⟩ : ∃ z, M 598 136 = z := ⟨_, rfl⟩
      have b9 : 0 ≤ v9 ∧ v9 ≤ 1 := by rw [← e9]; exact hI_M 598 136 (by decide)
      have y10 : M 598 136 = v9 := e9
      obtain ⟨v11, e11⟩ : ∃ z, M 598 143 = z := ⟨_, rfl⟩
      have b11 : 0 ≤ v11 ∧ v11 ≤ 300 := by rw [← e11]; exact hI_M 598 143 (by decide)
      have y12 : M 598 143 = v11 := e11
      exact jr.vreturn rfl rfl (q _ hI_M hH_M hS_M  hAS (Or.inr ⟨by omega, hFR, by omega, by omega, Or.inl ⟨by omega, hph, by omega⟩⟩) (fun a i f598 f602 f603 f604 f605 f624 f670 f671 f672 f673 f674 f675 f676 f677 f678 f679 f680 f681 f682 f683 f684 f685 f686 f687 => (hF_M a i f598 f602 f603 f604 f605 f624 f670 f671 f672 f673 f674 f675 f676 f677 f678 f679 f680 f681 f682 f683 f684 f685 f686 f687)) (fun i g6 g10 g11 g12 g59 g60 g61 g62 g63 g64 g65 g66 g110 g112 g122 g131 g132 g134 g135 g136 g137 g138 g139 g143 g145 => (hG_M i g6 g10 g11 g12 g59 g60 g61 g62 g63 g64 g65 g66 g110 g112 g122 g131 g132 g134 g135 g136 g137 g138 g139 g143 g145)))
    · refine jr.aload_n rfl rfl ?_
      refine jr.dup rfl rfl ?_
      obtain ⟨v13, e13⟩ : ∃ z, M 598 132 = z := ⟨_, rfl⟩
      have b13 : 0 ≤ v13 ∧ v13 ≤ 2200 := by rw [← e13]; exact hI_M 598 132 (by decide)
      refine jr.getf (i := 132) (x := v13) (v := .int (Int32.ofInt (v13))) rfl rfl (by decide) rfl (by decide) rfl rfl e13 rfl ?_
      refine jr.iconst rfl ?_
      refine jr.iadd rfl ?_
      refine jr.putf (i := 132) (x := (v13 + 1)) rfl rfl (by decide) rfl (by decide) rfl rfl rfl rfl rfl ?_
      obtain ⟨v14, e14⟩ : ∃ z, M 598 122 = z := ⟨_, rfl⟩
      have b14 : 0 ≤ v14 ∧ v14 ≤ 9 := by rw [← e14]; exact hI_M 598 122 (by decide)
      have y15 : (ju M 598 132 (v13 + 1)) 598 122 = v14 := ((ju_i _ _ (by decide)).trans e14)
      obtain ⟨v16, e16⟩ : ∃ z, M 598 131 = z := ⟨_, rfl⟩
      have b16 : 0 ≤ v16 ∧ v16 ≤ 400 := by rw [← e16]; exact hI_M 598 131 (by decide)
      have y17 : (ju M 598 132 (v13 + 1)) 598 131 = v16 := ((ju_i _ _ (by decide)).trans e16)
      have y18 : (ju M 598 132 (v13 + 1)) 598 132 = v13 + 1 := (ju_same _ _ _ _)
      have y19 : (ju M 598 132 (v13 + 1)) 598 135 = v1 := ((ju_i _ _ (by decide)).trans e1)
      obtain ⟨v20, e20⟩ : ∃ z, M 598 136 = z := ⟨_, rfl⟩
      have b20 : 0 ≤ v20 ∧ v20 ≤ 1 := by rw [← e20]; exact hI_M 598 136 (by decide)
      have y21 : (ju M 598 132 (v13 + 1)) 598 136 = v20 := ((ju_i _ _ (by decide)).trans e20)
      obtain ⟨v22, e22⟩ : ∃ z, M 598 143 = z := ⟨_, rfl⟩
      have b22 : 0 ≤ v22 ∧ v22 ≤ 300 := by rw [← e22]; exact hI_M 598 143 (by decide)
      have y23 : (ju M 598 132 (v13 + 1)) 598 143 = v22 := ((ju_i _ _ (by decide)).trans e22)
      have zph : phi (ju M 598 132 (v13 + 1)) = phi M0 := ((phi.fr (M := M) (M' := (ju M 598 132 (v13 + 1))) ((ju_i _ _ (by decide)).trans (rfl)) (fun i => ((ju_c _ _ (by decide)).trans (rfl))))).trans hph
      have zm := mu.eq (M := (ju M 598 132 (v13 + 1))) ((ju_i _ _ (by decide)).trans e22) zph (((ju_same _ _ _ _)).trans (show v13 + 1 = M0 598 132 + 1 by omega)) (show cr ((ju M 598 132 (v13 + 1)) 654) (M0 598 132 + 1) = cr (M0 654) (M0 598 132 + 1) by rw [show (ju M 598 132 (v13 + 1)) 654 = M0 654 from funext (fun i => ((fun i => ((ju_c _ _ (by decide)).trans (rfl))) i).trans (hF_M 654 i (by decide) (by decide) (by decide) (by decide) (by decide) (by decide) (by decide) (by decide) (by decide) (by decide) (by decide) (by decide) (by decide) (by decide) (by decide) (by decide) (by decide) (by decide) (by decide) (by decide) (by decide) (by decide) (by decide) (by decide)))])
      have zn := mu.eq (M := M0) rfl rfl rfl rfl
      have c1 := cr_le (M0 654) (M0 598 132)
      have c2 := cr_le (M0 654) (M0 598 132 + 1)
      exact jr.vreturn rfl rfl (q _ (RI.u hI_M (a := 598) (i := 132) (show (0 : Int) ≤ _ ∧ _ ≤ (2200 : Int) from by omega)) (RH.o hH_M (by decide) (by decide) (by decide)) (RF.o hS_M (by decide) (by decide))  (AS.o hAS (by decide) (Or.inr (by decide))) (Or.inr ⟨by omega, (FRS.fr hFR (fun i => ((ju_c _ _ (by decide)).trans (rfl))) (fun i => ((ju_c _ _ (by decide)).trans (rfl))) (fun i => ((ju_c _ _ (by decide)).trans (rfl))) ((ju_i _ _ (by decide)).trans (rfl)) (by omega)), by omega, by omega, Or.inr ⟨by omega, by omega, by omega, by rw [((ju_same _ _ _ _)).trans (show v13 + 1 = M0 598 132 + 1 by omega)]; exact (((ju_i _ _ (by decide)).trans e16)).trans ((e16).symm.trans (hy7 (by omega))), by omega⟩⟩) (fun a i f598 f602 f603 f604 f605 f624 f670 f671 f672 f673 f674 f675 f676 f677 f678 f679 f680 f681 f682 f683 f684 f685 f686 f687 => ((ju_c _ _ f598).trans (hF_M a i f598 f602 f603 f604 f605 f624 f670 f671 f672 f673 f674 f675 f676 f677 f678 f679 f680 f681 f682 f683 f684 f685 f686 f687))) (fun i g6 g10 g11 g12 g59 g60 g61 g62 g63 g64 g65 g66 g110 g112 g122 g131 g132 g134 g135 g136 g137 g138 g139 g143 g145 => ((ju_i _ _ g132).trans (hG_M i g6 g10 g11 g12 g59 g60 g61 g62 g63 g64 g65 g66 g110 g112 g122 g131 g132 g134 g135 g136 g137 g138 g139 g143 g145))))
theorem r_act_L477 {A : Nat → Option (Nat × (Nat → Int32))} {Q : Option Value → jm → Prop} {L n : Int} {ht : Int → Int} {M0 : jm} (q : ∀ (M' : jm), RI M' → RH M' → RF M' → AS M' (L + 1) → ((M' 598 136 = 1 ∧ M' 598 135 = 0) ∨ (M' 598 136 = 0 ∧ FRS M' ht n (M' 598 122) ∧ 1 ≤ M' 598 122 ∧ M' 598 122 ≤ 8 ∧ ((M' 598 135 ≠ 0 ∧ phi M' = phi M0 ∧ M' 598 143 = M0 598 143) ∨ (M' 598 135 = 0 ∧ 0 ≤ M' 598 132 ∧ M' 598 132 < n ∧ M' 598 131 = ht (M' 598 132) ∧ mu M' < mu M0)))) → (∀ (a : Nat) (i : Int), a ≠ 598 → a ≠ 602 → a ≠ 603 → a ≠ 604 → a ≠ 605 → a ≠ 624 → a ≠ 670 → a ≠ 671 → a ≠ 672 → a ≠ 673 → a ≠ 674 → a ≠ 675 → a ≠ 676 → a ≠ 677 → a ≠ 678 → a ≠ 679 → a ≠ 680 → a ≠ 681 → a ≠ 682 → a ≠ 683 → a ≠ 684 → a ≠ 685 → a ≠ 686 → a ≠ 687 → M' a i = M0 a i) → (∀ (i : Int), i ≠ 6 → i ≠ 10 → i ≠ 11 → i ≠ 12 → i ≠ 59 → i ≠ 60 → i ≠ 61 → i ≠ 62 → i ≠ 63 → i ≠ 64 → i ≠ 65 → i ≠ 66 → i ≠ 110 → i ≠ 112 → i ≠ 122 → i ≠ 131 → i ≠ 132 → i ≠ 134 → i ≠ 135 → i ≠ 136 → i ≠ 137 → i ≠ 138 → i ≠ 139 → i ≠ 143 → i ≠ 145 → M' 598 i = M0 598 i) → Q none M') : ∀ (M : jm) (a : Int) (o : Int), RI M → RH M → RF M → (∀ (a : Nat) (i : Int), a ≠ 598 → a ≠ 602 → a ≠ 603 → a ≠ 604 → a ≠ 605 → a ≠ 624 → a ≠ 670 → a ≠ 671 → a ≠ 672 → a ≠ 673 → a ≠ 674 → a ≠ 675 → a ≠ 676 → a ≠ 677 → a ≠ 678 → a ≠ 679 → a ≠ 680 → a ≠ 681 → a ≠ 682 → a ≠ 683 → a ≠ 684 → a ≠ 685 → a ≠ 686 → a ≠ 687 → M a i = M0 a i) → (∀ (i : Int), i ≠ 6 → i ≠ 10 → i ≠ 11 → i ≠ 12 → i ≠ 59 → i ≠ 60 → i ≠ 61 → i ≠ 62 → i ≠ 63 → i ≠ 64 → i ≠ 65 → i ≠ 66 → i ≠ 110 → i ≠ 112 → i ≠ 122 → i ≠ 131 → i ≠ 132 → i ≠ 134 → i ≠ 135 → i ≠ 136 → i ≠ 137 → i ≠ 138 → i ≠ 139 → i ≠ 143 → i ≠ 145 → M 598 i = M0 598 i) → (-9223372036854775808) ≤ a ∧ a ≤ 9223372036854775807 → 0 ≤ o ∧ o ≤ 1000 → MX M ht n → FRS M ht n (M 598 122) → 1 ≤ M 598 122 ∧ M 598 122 ≤ 8 → AS M L → L ≤ 1999999999 → (0 ≤ M 598 132 ∧ M 598 132 < n) → M 598 131 = ht (M 598 132) → o = M 654 (M 598 132) → a = M 655 (M 598 132) → (M 598 135 = 0 ∧ M 598 136 = 0) → M = M0 → (12 ≤ o ∧ o < 100) → jr A 9 xm_380 477 [(2, .long (Int64.ofInt (a))), (1, .int (Int32.ofInt (o))), (0, .ref (598))] [] M Q := by
    intro M a o hI_M hH_M hS_M hF_M hG_M h_a h_o hy0 hy1 hy2 hy3 hy4 hy5 hy6 hy7 hy8 hy9 hy10 hy11
    have hyM := hy10
    have ho := hy11
    have hp0 := hy0
    have hp1 := hy1
    have hp2 := hy2
    have hp3 := hy3
    have hp4 := hy4
    have hp5 := hy5
    have hp6 := hy6
    have hp7 := hy7
    have hp8 := hy8
    have hp9 := hy9
    subst hyM
    have p0 := hp0
    have p1 := hp1
    have p2 := hp2
    have p3 := hp3
    have p4 := hp4
    have p5 := hp5
    have p6 := hp6
    have p7 := hp7
    have p8 := hp8
    have p9 := hp9
    have hMX := p0
    have hFR := p1
    have hAS := p3
    obtain ⟨P, hP⟩ : ∃ z, M 598 132 = z := ⟨_, rfl⟩
    rw [hP] at p5 p6 p7 p8
    have nb := hMX.1
    have nb2 := hMX.2.1
    obtain ⟨⟨q1, q2, q3, q4, q5, q6⟩, q7, q8, q9⟩ := hMX.2.2.1 P p5.1 p5.2
    rw [← p7] at q3 q4 q5 q6 q7 q8 q9
    rw [← p8] at q7 q8 q9
    unfold vop at q3
    have ov : 24 ≤ o ∧ o ≤ 38 := by omega
    have nd : (o ≤ 29 → ndo o = 0 ∧ dlo o = 0) ∧ (30 ≤ o → dlo o = -(ndo o)) := ⟨fun z => (op_tab o).2.2.2.2.2.2.2.2.2.2.1 ⟨by omega, z⟩, fun z => (op_tab o).2.2.2.2.2.2.2.2.2.2.2 ⟨z, by omega⟩⟩
    have q6 := q6 (by unfold exo; omega)
    clear q7
    have pn : P + 1 < n := by
      by_cases y : P = n - 1
      · exfalso
        have z2 := hMX.2.2.2.2
        rw [← y, ← p7] at z2
        omega
      · omega
    have cN : cr (M 654) (P + 1) = 0 := MX.cr0 hMX (by omega) pn (by rw [show P + 1 - 1 = P by omega, ← p7]; omega)
    obtain ⟨Fv, hFv⟩ : ∃ z, M 598 122 = z := ⟨_, rfl⟩
    obtain ⟨hv, hhv⟩ : ∃ z, M 598 131 = z := ⟨_, rfl⟩
    rw [hhv] at p6
    clear q3
    obtain ⟨st, hst⟩ : ∃ z, M 598 143 = z := ⟨_, rfl⟩
    have bst : (0 : Int) ≤ st ∧ st ≤ 300 := by rw [← hst]; exact hI_M 598 143 (by decide)
    have cl := cr_le (M 654) P
    refine jr.aload_n rfl rfl ?_
    refine jr.iload_n rfl rfl ?_
    refine jr.bipush rfl (by decide) ?_
    refine jr.isub rfl ?_
    refine jr.lload_n rfl rfl ?_
    have y2 : M 598 122 = Fv := hFv
    obtain ⟨v3, e3⟩ : ∃ z, M 598 82 = z := ⟨_, rfl⟩
    have b3 : 0 ≤ v3 ∧ v3 ≤ 16 := by rw [← e3]; exact hI_M 598 82 (by decide)
    obtain ⟨v4, e4⟩ : ∃ z, M 598 135 = z := ⟨_, rfl⟩
    have b4 : 0 ≤ v4 ∧ v4 ≤ 8 := by rw [← e4]; exact hI_M 598 135 (by decide)
    obtain ⟨v5, e5⟩ : ∃ z, M 598 136 = z := ⟨_, rfl⟩
    have b5 : 0 ≤ v5 ∧ v5 ≤ 1 := by rw [← e5]; exact hI_M 598 136 (by decide)
    refine jr_v rfl rfl (Or.inl rfl) rfl rfl (by decide) rfl ⟨rfl, Nat.le_of_ble_eq_true rfl, Nat.le_of_ble_eq_true rfl⟩ rfl (jc.deep (r_doDeed hI_M hH_M hS_M  (by omega) (by omega) hMX (FRS.fr hFR (fun i => (rfl)) (fun i => (rfl)) (fun i => (rfl)) (rfl) (by omega)) (by rw [hFv]; omega) hAS (by omega) (by rw [show 20 + (o - 20) = o by omega]; omega) (by rw [e3]; intro q; omega) (fun q => by rw [hP]; exact MX.ren hMX (by omega) pn (by rw [← p7]; omega) (by rw [q4]; omega)) (by rw [e4, e5]; omega) (by rw [hP]; omega) (fun M1 hI_M1 hH_M1 hS_M1  w1_0 w1_1 w1_2 w1_3 => ?_)) (by decide))
    rw [show 20 + (o - 20) = o by omega] at w1_1
    obtain ⟨v6, e6⟩ : ∃ z, M1 598 122 = z := ⟨_, rfl⟩
    have b6 : 0 ≤ v6 ∧ v6 ≤ 9 := by rw [← e6]; exact hI_M1 598 122 (by decide)
    have y7 : M1 598 122 = v6 := e6
    obtain ⟨v8, e8⟩ : ∃ z, M1 598 131 = z := ⟨_, rfl⟩
    have b8 : 0 ≤ v8 ∧ v8 ≤ 400 := by rw [← e8]; exact hI_M1 598 131 (by decide)
    have y9 : M1 598 131 = v8 := e8
    obtain ⟨v10, e10⟩ : ∃ z, M1 598 132 = z := ⟨_, rfl⟩
    have b10 : 0 ≤ v10 ∧ v10 ≤ 2200 := by rw [← e10]; exact hI_M1 598 132 (by decide)
    have y11 : M1 598 132 = v10 := e10
    obtain ⟨v12, e12⟩ : ∃ z, M1 598 135 = z := ⟨_, rfl⟩
    have b12 : 0 ≤ v12 ∧ v12 ≤ 8 := by rw [← e12]; exact hI_M1 598 135 (by decide)
    have y13 : M1 598 135 = v12 := e12
    obtain ⟨v14, e14⟩ : ∃ z, M1 598 136 = z := ⟨_, rfl⟩
    have b14 : 0 ≤ v14 ∧ v14 ≤ 1 := by rw [← e14]; exact hI_M1 598 136 (by decide)
    have y15 : M1 598 136 = v14 := e14
    have e16 : M1 598 143 = st := ((w1_3 143 (by decide) (by decide) (by decide) (by decide) (by decide) (by decide) (by decide) (by decide) (by decide) (by decide) (by decide) (by decide) (by decide) (by decide) (by decide) (by decide)).trans hst)
    have y17 : M1 598 143 = st := e16
    have hmu := mu.eq hst rfl hP (rfl : cr (M 654) P = cr (M 654) P)
    exact jr.vreturn rfl rfl (q _ hI_M1 hH_M1 hS_M1  w1_0 (by rcases w1_1 with z | ⟨y1, y2, y3, y4, ⟨y5, y6, y7⟩ | ⟨y5, ⟨y6, y7, y8, y9⟩ | ⟨y6, y7, y8, y9⟩ | ⟨y6, y7, y8, y9⟩⟩⟩; (exact Or.inl z); (exact Or.inr ⟨y1, y2, y3, y4, Or.inl ⟨y5, y6, (e16).trans hst.symm⟩⟩); (have zc := REr.cr0 y7; obtain ⟨r1, r2, r3, _, _⟩ := y7; have zm := mu.eq (M := M1) (e16) rfl rfl zc; exact Or.inr ⟨y1, y2, y3, y4, Or.inr ⟨y5, r1, r2, by rw [y9, r3]; omega, by omega⟩⟩); (have ck : cr (M 654) P = 1 := (by unfold cr; rw [← p7, if_pos (by omega)]); have zc := REr.cr0 y7; obtain ⟨r1, r2, r3, _, _⟩ := y7; have zm := mu.eq (M := M1) (e16) rfl rfl zc; exact Or.inr ⟨y1, y2, y3, y4, Or.inr ⟨y5, r1, r2, by rw [y9, r3]; omega, by omega⟩⟩); (have zm := mu.eq (M := M1) (e16) y8 (y7.trans (show M 598 132 + 1 = P + 1 by omega)) (show cr (M1 654) (P + 1) = 0 by rw [show M1 654 = M 654 from funext (fun i => ((w1_2 654 i (by decide) (by decide) (by decide) (by decide) (by decide) (by decide) (by decide) (by decide) (by decide) (by decide) (by decide) (by decide) (by decide) (by decide) (by decide) (by decide) (by decide) (by decide) (by decide) (by decide) (by decide) (by decide) (by decide) (by decide)).trans (rfl)))]; exact cN); exact Or.inr ⟨y1, y2, y3, y4, Or.inr ⟨y5, by omega, by omega, by rw [y9, y7.trans (show M 598 132 + 1 = P + 1 by omega), q4]; omega, by omega⟩⟩)) (fun a i f598 f602 f603 f604 f605 f624 f670 f671 f672 f673 f674 f675 f676 f677 f678 f679 f680 f681 f682 f683 f684 f685 f686 f687 => ((w1_2 a i f598 f602 f603 f604 f605 f624 f670 f671 f672 f673 f674 f675 f676 f677 f678 f679 f680 f681 f682 f683 f684 f685 f686 f687).trans (hF_M a i f598 f602 f603 f604 f605 f624 f670 f671 f672 f673 f674 f675 f676 f677 f678 f679 f680 f681 f682 f683 f684 f685 f686 f687))) (fun i g6 g10 g11 g12 g59 g60 g61 g62 g63 g64 g65 g66 g110 g112 g122 g131 g132 g134 g135 g136 g137 g138 g139 g143 g145 => ((w1_3 i g6 g10 g11 g12 g110 g112 g122 g131 g132 g134 g135 g136 g137 g138 g139 g145).trans (hG_M i g6 g10 g11 g12 g59 g60 g61 g62 g63 g64 g65 g66 g110 g112 g122 g131 g132 g134 g135 g136 g137 g138 g139 g143 g145))))
theorem r_act_L466 {A : Nat → Option (Nat × (Nat → Int32))} {Q : Option Value → jm → Prop} {L n : Int} {ht : Int → Int} {M0 : jm} (q : ∀ (M' : jm), RI M' → RH M' → RF M' → AS M' (L + 1) → ((M' 598 136 = 1 ∧ M' 598 135 = 0) ∨ (M' 598 136 = 0 ∧ FRS M' ht n (M' 598 122) ∧ 1 ≤ M' 598 122 ∧ M' 598 122 ≤ 8 ∧ ((M' 598 135 ≠ 0 ∧ phi M' = phi M0 ∧ M' 598 143 = M0 598 143) ∨ (M' 598 135 = 0 ∧ 0 ≤ M' 598 132 ∧ M' 598 132 < n ∧ M' 598 131 = ht (M' 598 132) ∧ mu M' < mu M0)))) → (∀ (a : Nat) (i : Int), a ≠ 598 → a ≠ 602 → a ≠ 603 → a ≠ 604 → a ≠ 605 → a ≠ 624 → a ≠ 670 → a ≠ 671 → a ≠ 672 → a ≠ 673 → a ≠ 674 → a ≠ 675 → a ≠ 676 → a ≠ 677 → a ≠ 678 → a ≠ 679 → a ≠ 680 → a ≠ 681 → a ≠ 682 → a ≠ 683 → a ≠ 684 → a ≠ 685 → a ≠ 686 → a ≠ 687 → M' a i = M0 a i) → (∀ (i : Int), i ≠ 6 → i ≠ 10 → i ≠ 11 → i ≠ 12 → i ≠ 59 → i ≠ 60 → i ≠ 61 → i ≠ 62 → i ≠ 63 → i ≠ 64 → i ≠ 65 → i ≠ 66 → i ≠ 110 → i ≠ 112 → i ≠ 122 → i ≠ 131 → i ≠ 132 → i ≠ 134 → i ≠ 135 → i ≠ 136 → i ≠ 137 → i ≠ 138 → i ≠ 139 → i ≠ 143 → i ≠ 145 → M' 598 i = M0 598 i) → Q none M') : ∀ (M : jm) (a : Int) (o : Int), RI M → RH M → RF M → (∀ (a : Nat) (i : Int), a ≠ 598 → a ≠ 602 → a ≠ 603 → a ≠ 604 → a ≠ 605 → a ≠ 624 → a ≠ 670 → a ≠ 671 → a ≠ 672 → a ≠ 673 → a ≠ 674 → a ≠ 675 → a ≠ 676 → a ≠ 677 → a ≠ 678 → a ≠ 679 → a ≠ 680 → a ≠ 681 → a ≠ 682 → a ≠ 683 → a ≠ 684 → a ≠ 685 → a ≠ 686 → a ≠ 687 → M a i = M0 a i) → (∀ (i : Int), i ≠ 6 → i ≠ 10 → i ≠ 11 → i ≠ 12 → i ≠ 59 → i ≠ 60 → i ≠ 61 → i ≠ 62 → i ≠ 63 → i ≠ 64 → i ≠ 65 → i ≠ 66 → i ≠ 110 → i ≠ 112 → i ≠ 122 → i ≠ 131 → i ≠ 132 → i ≠ 134 → i ≠ 135 → i ≠ 136 → i ≠ 137 → i ≠ 138 → i ≠ 139 → i ≠ 143 → i ≠ 145 → M 598 i = M0 598 i) → (-9223372036854775808) ≤ a ∧ a ≤ 9223372036854775807 → 0 ≤ o ∧ o ≤ 1000 → MX M ht n → FRS M ht n (M 598 122) → 1 ≤ M 598 122 ∧ M 598 122 ≤ 8 → AS M L → L ≤ 1999999999 → (0 ≤ M 598 132 ∧ M 598 132 < n) → M 598 131 = ht (M 598 132) → o = M 654 (M 598 132) → a = M 655 (M 598 132) → (M 598 135 = 0 ∧ M 598 136 = 0) → M = M0 → (100 ≤ o ∧ o < 340) → jr A 9 xm_380 466 [(2, .long (Int64.ofInt (a))), (1, .int (Int32.ofInt (o))), (0, .ref (598))] [] M Q := by
    intro M a o hI_M hH_M hS_M hF_M hG_M h_a h_o hy0 hy1 hy2 hy3 hy4 hy5 hy6 hy7 hy8 hy9 hy10 hy11
    have hyM := hy10
    have ho := hy11
    have hp0 := hy0
    have hp1 := hy1
    have hp2 := hy2
    have hp3 := hy3
    have hp4 := hy4
    have hp5 := hy5
    have hp6 := hy6
    have hp7 := hy7
    have hp8 := hy8
    have hp9 := hy9
    subst hyM
    have p0 := hp0
    have p1 := hp1
    have p2 := hp2
    have p3 := hp3
    have p4 := hp4
    have p5 := hp5
    have p6 := hp6
    have p7 := hp7
    have p8 := hp8
    have p9 := hp9
    have hMX := p0
    have hFR := p1
    have hAS := p3
    obtain ⟨P, hP⟩ : ∃ z, M 598 132 = z := ⟨_, rfl⟩
    rw [hP] at p5 p6 p7 p8
    have nb := hMX.1
    have nb2 := hMX.2.1
    obtain ⟨⟨q1, q2, q3, q4, q5, q6⟩, q7, q8, q9⟩ := hMX.2.2.1 P p5.1 p5.2
    rw [← p7] at q3 q4 q5 q6 q7 q8 q9
    rw [← p8] at q7 q8 q9
    unfold vop at q3
    have ov : 137 ≤ o ∧ o ≤ 162 := by omega
    have nd := (op_tab o).2.2.2.2.2.2.2.1 ov
    clear q7
    have pn : P + 1 < n := by
      by_cases y : P = n - 1
      · exfalso
        have z2 := hMX.2.2.2.2
        rw [← y, ← p7] at z2
        omega
      · omega
    have cN : cr (M 654) (P + 1) = 0 := MX.cr0 hMX (by omega) pn (by rw [show P + 1 - 1 = P by omega, ← p7]; omega)
    obtain ⟨Fv, hFv⟩ : ∃ z, M 598 122 = z := ⟨_, rfl⟩
    obtain ⟨hv, hhv⟩ : ∃ z, M 598 131 = z := ⟨_, rfl⟩
    rw [hhv] at p6
    clear q3
    obtain ⟨st, hst⟩ : ∃ z, M 598 143 = z := ⟨_, rfl⟩
    have bst : (0 : Int) ≤ st ∧ st ≤ 300 := by rw [← hst]; exact hI_M 598 143 (by decide)
    have cl := cr_le (M 654) P
    refine jr.aload_n rfl rfl ?_
    refine jr.iload_n rfl rfl ?_
    refine jr.bipush rfl (by decide) ?_
    refine jr.isub rfl ?_
    refine jr_v rfl rfl (Or.inl rfl) rfl rfl (by decide) rfl ⟨rfl, Nat.le_of_ble_eq_true rfl, Nat.le_of_ble_eq_true rfl⟩ rfl (jc.deep (r_bySign hI_M hH_M hS_M  (by omega) (by rw [hhv]; omega) (fun M1 hI_M1 hH_M1 hS_M1  w1_0 w1_1 w1_2 => ?_)) (by decide))
    refine jr.goto rfl rfl ?_
    have e2 : M1 598 122 = Fv := ((w1_2 122 (by decide) (by decide)).trans hFv)
    have y3 : M1 598 122 = Fv := e2
    obtain ⟨v4, e4⟩ : ∃ z, M 598 136 = z := ⟨_, rfl⟩
    have b4 : 0 ≤ v4 ∧ v4 ≤ 1 := by rw [← e4]; exact hI_M 598 136 (by decide)
    have e5 : M1 598 136 = v4 := ((w1_2 136 (by decide) (by decide)).trans e4)
    have e6 : M1 598 132 = P := ((w1_2 132 (by decide) (by decide)).trans hP)
    obtain ⟨v7, e7⟩ : ∃ z, M1 598 131 = z := ⟨_, rfl⟩
    have b7 : 0 ≤ v7 ∧ v7 ≤ 400 := by rw [← e7]; exact hI_M1 598 131 (by decide)
    obtain ⟨v8, e8⟩ : ∃ z, M1 598 135 = z := ⟨_, rfl⟩
    have b8 : 0 ≤ v8 ∧ v8 ≤ 8 := by rw [← e8]; exact hI_M1 598 135 (by decide)
    have e9 : M1 598 143 = st := ((w1_2 143 (by decide) (by decide)).trans hst)
    refine jr.pick [2] rfl rfl ?_
    exact r_act_L487 (L := L) (n := n) (ht := ht) q M1  hI_M1 hH_M1 hS_M1  (fun a i f598 f602 f603 f604 f605 f624 f670 f671 f672 f673 f674 f675 f676 f677 f678 f679 f680 f681 f682 f683 f684 f685 f686 f687 => ((w1_1 a i f598 f686).trans (hF_M a i f598 f602 f603 f604 f605 f624 f670 f671 f672 f673 f674 f675 f676 f677 f678 f679 f680 f681 f682 f683 f684 f685 f686 f687))) (fun i g6 g10 g11 g12 g59 g60 g61 g62 g63 g64 g65 g66 g110 g112 g122 g131 g132 g134 g135 g136 g137 g138 g139 g143 g145 => ((w1_2 i g131 g135).trans (hG_M i g6 g10 g11 g12 g59 g60 g61 g62 g63 g64 g65 g66 g110 g112 g122 g131 g132 g134 g135 g136 g137 g138 g139 g143 g145)))  (FRS.fr hFR (fun i => ((w1_1 679 i (by decide) (by decide)).trans (rfl))) (fun i => ((w1_1 681 i (by decide) (by decide)).trans (rfl))) (fun i => ((w1_1 654 i (by decide) (by decide)).trans (rfl))) ((w1_2 82 (by decide) (by decide)).trans (rfl)) (by omega)) (AS.up (AS.fr hAS (fun i => w1_1 685 i (by decide) (by decide)) (w1_2 112 (by decide) (by decide))) (by omega)) (by rw [e2] <;> omega) (phi.fr (M := M) (M' := M1) ((w1_2 122 (by decide) (by decide)).trans (rfl)) (fun i => ((w1_1 680 i (by decide) (by decide)).trans (rfl)))) (by rw [e5] <;> omega) (by rw [e6] <;> omega) (by omega) (fun _ => by rw [e7, hP, q4]; omega) (by rw [e9, e8, hst, hP]; first | (exact Or.inl ⟨by omega, cN⟩) | (exact Or.inr ⟨by omega, by omega⟩))
