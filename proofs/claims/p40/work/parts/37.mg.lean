/-! ===== the reference: contracts, 37.mg ===== -/
theorem op_tab (o : Int) : (o = 0 → ndo o = 0 ∧ dlo o = 0) ∧ (o = 1 → ndo o = 1 ∧ dlo o = -1) ∧ (o = 2 → ndo o = 0 ∧ dlo o = 0) ∧ (o = 3 → ndo o = 0 ∧ dlo o = 0) ∧ (4 ≤ o ∧ o ≤ 6 → ndo o = 0 ∧ dlo o = 1) ∧ (o = 7 ∨ o = 8 → ndo o = 1 ∧ dlo o = -1) ∧ (9 ≤ o ∧ o ≤ 11 → ndo o = 1 ∧ dlo o = 0) ∧ (137 ≤ o ∧ o ≤ 162 → ndo o = 2 ∧ dlo o = -1) ∧ (350 ≤ o ∧ o < 365 → ndo o = 0 ∧ dlo o = 1) ∧ (365 ≤ o ∧ o ≤ 370 → ndo o = argn (o - 340) ∧ dlo o = 1 - argn (o - 340)) ∧ (24 ≤ o ∧ o ≤ 29 → ndo o = 0 ∧ dlo o = 0) ∧ (30 ≤ o ∧ o ≤ 38 → dlo o = -(ndo o)) := by
  have n6 : ¬ (o = 1 ∨ (7 ≤ o ∧ o ≤ 11)) → ¬ o < 39 → ndo o = (if o < 340 then 2 else if o < 365 then 0 else argn (o - 340)) := fun a b => by
    unfold ndo
    rw [if_neg a, if_neg (by omega), if_neg (by omega), if_neg (by omega), if_neg (by omega), if_neg b]
  have d4 : ¬ o < 39 → dlo o = (if o < 340 then -1 else 1 - ndo o) := fun b => by
    unfold dlo
    rw [if_neg (by omega), if_neg (by omega), if_neg (by omega), if_neg b]
  refine ⟨?_, ?_, ?_, ?_, ?_, ?_, ?_, ?_, ?_, ?_, ?_, ?_⟩
  · rintro rfl
    decide
  · rintro rfl
    decide
  · rintro rfl
    decide
  · rintro rfl
    decide
  · intro h
    rcases (show o = 4 ∨ o = 5 ∨ o = 6 by omega) with rfl | rfl | rfl <;> decide
  · rintro (rfl | rfl) <;> decide
  · intro h
    rcases (show o = 9 ∨ o = 10 ∨ o = 11 by omega) with rfl | rfl | rfl <;> decide
  · intro h
    refine ⟨(n6 (by omega) (by omega)).trans (if_pos (by omega)), (d4 (by omega)).trans (if_pos (by omega))⟩
  · intro h
    have hn : ndo o = 0 := (n6 (by omega) (by omega)).trans ((if_neg (by omega)).trans (if_pos (by omega)))
    have e : dlo o = 1 - ndo o := (d4 (by omega)).trans (if_neg (by omega))
    exact ⟨hn, by omega⟩
  · intro h
    have hn : ndo o = argn (o - 340) := (n6 (by omega) (by omega)).trans ((if_neg (by omega)).trans (if_neg (by omega)))
    have e : dlo o = 1 - ndo o := (d4 (by omega)).trans (if_neg (by omega))
    exact ⟨hn, by rw [e, hn]⟩
  · intro h
    refine ⟨?_, ?_⟩
    · unfold ndo
      rw [if_neg (by omega), if_pos (by omega)]
    · unfold dlo
      rw [if_neg (by omega), if_neg (by omega), if_pos (by omega)]
  · intro h
    unfold dlo
    rw [if_neg (by omega), if_neg (by omega), if_neg (by omega), if_pos (by omega)]
noncomputable def cr (co : Int → Int) (p : Int) : Int := if co p = 28 ∨ co p = 29 then 1 else 0
theorem cr_le (co : Int → Int) (p : Int) : 0 ≤ cr co p ∧ cr co p ≤ 1 := by
  unfold cr
  split <;> omega
theorem MX.cr0 {M : jm} {ht : Int → Int} {n e : Int} (h : MX M ht n) (h0 : 0 ≤ e) (h1 : e < n) (h2 : M 654 (e - 1) ≠ 0) : cr (M 654) e = 0 := by
  unfold cr
  rw [if_neg]
  intro q
  obtain ⟨_, _, _, d⟩ := h.2.2.1 e h0 h1
  exact h2 (d q).2.1
theorem REr.cr0 {co ht : Int → Int} {n e : Int} (h : REr co ht n e) : cr co e = 0 := by
  obtain ⟨_, _, _, a, b⟩ := h
  unfold cr
  rw [if_neg (by omega)]
theorem MX.ren {M : jm} {ht : Int → Int} {n P : Int} (h : MX M ht n) (h0 : 0 ≤ P) (h1 : P + 1 < n) (h2 : M 654 P ≠ 0) (h3 : ht (P + 1) = 0) : REr (M 654) ht n (P + 1) := by
  obtain ⟨_, _, _, d⟩ := h.2.2.1 (P + 1) (by omega) h1
  rw [show P + 1 - 1 = P by omega] at d
  exact ⟨by omega, h1, h3, fun q => h2 (d (Or.inl q)).2.1, fun q => h2 (d (Or.inr q)).2.1⟩
noncomputable def mu (M : jm) : Int := 8804 * (300 - M 598 143) + 2201 * (phi M + 4 * cr (M 654) (M 598 132)) + (2200 - M 598 132)
theorem mu.eq {M : jm} {st P f c : Int} (e1 : M 598 143 = st) (e2 : phi M = f) (e3 : M 598 132 = P) (e4 : cr (M 654) P = c) : mu M = 8804 * (300 - st) + 2201 * (f + 4 * c) + (2200 - P) := by
  unfold mu
  rw [e1, e2, e3, e4]
theorem r_act_L487 {A : Nat → Option (Nat × (Nat → Int32))} {Q : Option Value → jm → Prop} {L n : Int} {ht : Int → Int} {M0 : jm} (q : ∀ (M' : jm), RI M' → RH M' → RF M' → AS M' (L + 1) → ((M' 598 136 = 1 ∧ M' 598 135 = 0) ∨ (M' 598 136 = 0 ∧ FRS M' ht n (M' 598 122) ∧ 1 ≤ M' 598 122 ∧ M' 598 122 ≤ 8 ∧ ((M' 598 135 ≠ 0 ∧ phi M' = phi M0 ∧ M' 598 143 = M0 598 143) ∨ (M' 598 135 = 0 ∧ 0 ≤ M' 598 132 ∧ M' 598 132 < n ∧ M' 598 131 = ht (M' 598 132) ∧ mu M' < mu M0)))) → (∀ (a : Nat) (i : Int), a ≠ 598 → a ≠ 602 → a ≠ 603 → a ≠ 604 → a ≠ 605 → a ≠ 624 → a ≠ 670 → a ≠ 671 → a ≠ 672 → a ≠ 673 → a ≠ 674 → a ≠ 675 → a ≠ 676 → a ≠ 677 → a ≠ 678 → a ≠ 679 → a ≠ 680 → a ≠ 681 → a ≠ 682 → a ≠ 683 → a ≠ 684 → a ≠ 685 → a ≠ 686 → a ≠ 687 → M' a i = M0 a i) → (∀ (i : Int), i ≠ 6 → i ≠ 10 → i ≠ 11 → i ≠ 12 → i ≠ 59 → i ≠ 60 → i ≠ 61 → i ≠ 62 → i ≠ 63 → i ≠ 64 → i ≠ 65 → i ≠ 66 → i ≠ 110 → i ≠ 112 → i ≠ 122 → i ≠ 131 → i ≠ 132 → i ≠ 134 → i ≠ 135 → i ≠ 136 → i ≠ 137 → i ≠ 138 → i ≠ 139 → i ≠ 143 → i ≠ 145 → M' 598 i = M0 598 i) → Q none M') : ∀ (M : jm) , RI M → RH M → RF M → (∀ (a : Nat) (i : Int), a ≠ 598 → a ≠ 602 → a ≠ 603 → a ≠ 604 → a ≠ 605 → a ≠ 624 → a ≠ 670 → a ≠ 671 → a ≠ 672 → a ≠ 673 → a ≠ 674 → a ≠ 675 → a ≠ 676 → a ≠ 677 → a ≠ 678 → a ≠ 679 → a ≠ 680 → a ≠ 681 → a ≠ 682 → a ≠ 683 → a ≠ 684 → a ≠ 685 → a ≠ 686 → a ≠ 687 → M a i = M0 a i) → (∀ (i : Int), i ≠ 6 → i ≠ 10 → i ≠ 11 → i ≠ 12 → i ≠ 59 → i ≠ 60 → i ≠ 61 → i ≠ 62 → i ≠ 63 → i ≠ 64 → i ≠ 65 → i ≠ 66 → i ≠ 110 → i ≠ 112 → i ≠ 122 → i ≠ 131 → i ≠ 132 → i ≠ 134 → i ≠ 135 → i ≠ 136 → i ≠ 137 → i ≠ 138 → i ≠ 139 → i ≠ 143 → i ≠ 145 → M 598 i = M0 598 i) → FRS M ht n (M 598 122) → AS M (L + 1) → 1 ≤ M 598 122 ∧ M 598 122 ≤ 8 → phi M = phi M0 → M 598 136 = 0 → M 598 132 = M0 598 132 → 0 ≤ M0 598 132 ∧ M0 598 132 + 1 < n ∧ n ≤ 2000 → (M 598 135 = 0 → M 598 131 = ht (M0 598 132 + 1)) → ((M 598 143 = M0 598 143 ∧ cr (M0 654) (M0 598 132 + 1) = 0) ∨ (M 598 143 = M0 598 143 + 1 ∧ M 598 135 = 0)) → jr A 9 xm_380 487 [(0, .ref (598))] [] M Q := by
    intro M  hI_M hH_M hS_M hF_M hG_M  hy0 hy1 hy2 hy3 hy4 hy5 hy6 hy7 hy8
    have hFR := hy0
    have hAS := hy1
    have hph := hy3
    refine jr.aload_n rfl rfl ?_
    obtain ⟨v1, e1⟩ : ∃ z, M 598 135 = z := ⟨_, rfl⟩
    have b1 : 0 ≤ v1 ∧ v1 ≤ 8 := by rw [← e1]; exact hI_M 598 135 (Nat.le_of_ble_eq_true rfl)
    refine jr.getf (i := 135) (x := v1) (v := .int (Int32.ofInt (v1))) rfl rfl (nlt rfl) rfl (nlt rfl) rfl rfl e1 rfl ?_
    refine jr.if_ne rfl rfl (by first | (refine rgb (by assumption) ?_; exact rfl) | omega) (fun h491 => ?_) (fun h491 => ?_)
    · have sx491 : (1 : Int) ≤ v1 := by omega
      clear h491
      obtain ⟨v2, e2⟩ : ∃ z, M 598 122 = z := ⟨_, rfl⟩
      have b2 : 0 ≤ v2 ∧ v2 ≤ 9 := by rw [← e2]; exact hI_M 598 122 (Nat.le_of_ble_eq_true rfl)
      obtain ⟨v4, e4⟩ : ∃ z, M 598 131 = z := ⟨_, rfl⟩
      have b4 : 0 ≤ v4 ∧ v4 ≤ 400 := by rw [← e4]; exact hI_M 598 131 (Nat.le_of_ble_eq_true rfl)
      obtain ⟨v6, e6⟩ : ∃ z, M 598 132 = z := ⟨_, rfl⟩
      have b6 : 0 ≤ v6 ∧ v6 ≤ 2200 := by rw [← e6]; exact hI_M 598 132 (Nat.le_of_ble_eq_true rfl)
      obtain ⟨v9, e9⟩ : ∃ z, M 598 136 = z := ⟨_, rfl⟩
      have b9 : 0 ≤ v9 ∧ v9 ≤ 1 := by rw [← e9]; exact hI_M 598 136 (Nat.le_of_ble_eq_true rfl)
      obtain ⟨v11, e11⟩ : ∃ z, M 598 143 = z := ⟨_, rfl⟩
      have b11 : 0 ≤ v11 ∧ v11 ≤ 300 := by rw [← e11]; exact hI_M 598 143 (Nat.le_of_ble_eq_true rfl)
      exact jr.vreturn rfl rfl (q _ hI_M hH_M hS_M  hAS (Or.inr ⟨by omega, hFR, by omega, by omega, Or.inl ⟨by omega, hph, by omega⟩⟩) (fun a i f598 f602 f603 f604 f605 f624 f670 f671 f672 f673 f674 f675 f676 f677 f678 f679 f680 f681 f682 f683 f684 f685 f686 f687 => (hF_M a i f598 f602 f603 f604 f605 f624 f670 f671 f672 f673 f674 f675 f676 f677 f678 f679 f680 f681 f682 f683 f684 f685 f686 f687)) (fun i g6 g10 g11 g12 g59 g60 g61 g62 g63 g64 g65 g66 g110 g112 g122 g131 g132 g134 g135 g136 g137 g138 g139 g143 g145 => (hG_M i g6 g10 g11 g12 g59 g60 g61 g62 g63 g64 g65 g66 g110 g112 g122 g131 g132 g134 g135 g136 g137 g138 g139 g143 g145)))
    · refine jr.aload_n rfl rfl ?_
      refine jr.dup rfl rfl ?_
      obtain ⟨v13, e13⟩ : ∃ z, M 598 132 = z := ⟨_, rfl⟩
      have b13 : 0 ≤ v13 ∧ v13 ≤ 2200 := by rw [← e13]; exact hI_M 598 132 (Nat.le_of_ble_eq_true rfl)
      refine jr.getf (i := 132) (x := v13) (v := .int (Int32.ofInt (v13))) rfl rfl (nlt rfl) rfl (nlt rfl) rfl rfl e13 rfl ?_
      refine jr.iconst rfl ?_
      refine jr.iadd rfl ?_
      refine jr.putf (i := 132) (x := (v13 + 1)) rfl rfl (nlt rfl) rfl (nlt rfl) rfl rfl rfl rfl rfl ?_
      obtain ⟨v14, e14⟩ : ∃ z, M 598 122 = z := ⟨_, rfl⟩
      have b14 : 0 ≤ v14 ∧ v14 ≤ 9 := by rw [← e14]; exact hI_M 598 122 (Nat.le_of_ble_eq_true rfl)
      have y15 : (ju M 598 132 (v13 + 1)) 598 122 = v14 := ((ju_i _ _ (zne (by decide))).trans e14)
      obtain ⟨v16, e16⟩ : ∃ z, M 598 131 = z := ⟨_, rfl⟩
      have b16 : 0 ≤ v16 ∧ v16 ≤ 400 := by rw [← e16]; exact hI_M 598 131 (Nat.le_of_ble_eq_true rfl)
      have y17 : (ju M 598 132 (v13 + 1)) 598 131 = v16 := ((ju_i _ _ (zne (by decide))).trans e16)
      have y18 : (ju M 598 132 (v13 + 1)) 598 132 = v13 + 1 := (ju_same _ _ _ _)
      have y19 : (ju M 598 132 (v13 + 1)) 598 135 = v1 := ((ju_i _ _ (zne (by decide))).trans e1)
      obtain ⟨v20, e20⟩ : ∃ z, M 598 136 = z := ⟨_, rfl⟩
      have b20 : 0 ≤ v20 ∧ v20 ≤ 1 := by rw [← e20]; exact hI_M 598 136 (Nat.le_of_ble_eq_true rfl)
      have y21 : (ju M 598 132 (v13 + 1)) 598 136 = v20 := ((ju_i _ _ (zne (by decide))).trans e20)
      obtain ⟨v22, e22⟩ : ∃ z, M 598 143 = z := ⟨_, rfl⟩
      have b22 : 0 ≤ v22 ∧ v22 ≤ 300 := by rw [← e22]; exact hI_M 598 143 (Nat.le_of_ble_eq_true rfl)
      have y23 : (ju M 598 132 (v13 + 1)) 598 143 = v22 := ((ju_i _ _ (zne (by decide))).trans e22)
      have zph : phi (ju M 598 132 (v13 + 1)) = phi M0 := ((phi.fr (M := M) (M' := (ju M 598 132 (v13 + 1))) ((ju_i _ _ (zne (by decide))).trans (rfl)) (fun i => ((ju_c _ _ (by decide)).trans (rfl))))).trans hph
      have zm := mu.eq (M := (ju M 598 132 (v13 + 1))) ((ju_i _ _ (zne (by decide))).trans e22) zph (((ju_same _ _ _ _)).trans (show v13 + 1 = M0 598 132 + 1 by omega)) (show cr ((ju M 598 132 (v13 + 1)) 654) (M0 598 132 + 1) = cr (M0 654) (M0 598 132 + 1) by rw [show (ju M 598 132 (v13 + 1)) 654 = M0 654 from funext (fun i => ((fun i => ((ju_c _ _ (by decide)).trans (rfl))) i).trans (hF_M 654 i (nne rfl) (nne rfl) (nne rfl) (nne rfl) (nne rfl) (nne rfl) (nne rfl) (nne rfl) (nne rfl) (nne rfl) (nne rfl) (nne rfl) (nne rfl) (nne rfl) (nne rfl) (nne rfl) (nne rfl) (nne rfl) (nne rfl) (nne rfl) (nne rfl) (nne rfl) (nne rfl) (nne rfl)))])
      have zn := mu.eq (M := M0) rfl rfl rfl rfl
      have c1 := cr_le (M0 654) (M0 598 132)
      have c2 := cr_le (M0 654) (M0 598 132 + 1)
      exact jr.vreturn rfl rfl (q _ (RI.u hI_M (a := 598) (i := 132) (show (0 : Int) ≤ _ ∧ _ ≤ (2200 : Int) from by omega)) (RH.o hH_M (by decide) (by decide) (by decide)) (RF.o hS_M (by decide) (by decide))  (AS.o hAS (by decide) (Or.inr (by decide))) (Or.inr ⟨by omega, (FRS.fr hFR (fun i => ((ju_c _ _ (by decide)).trans (rfl))) (fun i => ((ju_c _ _ (by decide)).trans (rfl))) (fun i => ((ju_c _ _ (by decide)).trans (rfl))) ((ju_i _ _ (zne (by decide))).trans (rfl)) (by omega)), by omega, by omega, Or.inr ⟨by omega, by omega, by omega, by rw [((ju_same _ _ _ _)).trans (show v13 + 1 = M0 598 132 + 1 by omega)]; exact (((ju_i _ _ (zne (by decide))).trans e16)).trans ((e16).symm.trans (hy7 (by omega))), by omega⟩⟩) (fun a i f598 f602 f603 f604 f605 f624 f670 f671 f672 f673 f674 f675 f676 f677 f678 f679 f680 f681 f682 f683 f684 f685 f686 f687 => ((ju_c _ _ f598).trans (hF_M a i f598 f602 f603 f604 f605 f624 f670 f671 f672 f673 f674 f675 f676 f677 f678 f679 f680 f681 f682 f683 f684 f685 f686 f687))) (fun i g6 g10 g11 g12 g59 g60 g61 g62 g63 g64 g65 g66 g110 g112 g122 g131 g132 g134 g135 g136 g137 g138 g139 g143 g145 => ((ju_i _ _ g132).trans (hG_M i g6 g10 g11 g12 g59 g60 g61 g62 g63 g64 g65 g66 g110 g112 g122 g131 g132 g134 g135 g136 g137 g138 g139 g143 g145))))
theorem r_act_L477 {A : Nat → Option (Nat × (Nat → Int32))} {Q : Option Value → jm → Prop} {L n : Int} {ht : Int → Int} {M0 : jm} (q : ∀ (M' : jm), RI M' → RH M' → RF M' → AS M' (L + 1) → ((M' 598 136 = 1 ∧ M' 598 135 = 0) ∨ (M' 598 136 = 0 ∧ FRS M' ht n (M' 598 122) ∧ 1 ≤ M' 598 122 ∧ M' 598 122 ≤ 8 ∧ ((M' 598 135 ≠ 0 ∧ phi M' = phi M0 ∧ M' 598 143 = M0 598 143) ∨ (M' 598 135 = 0 ∧ 0 ≤ M' 598 132 ∧ M' 598 132 < n ∧ M' 598 131 = ht (M' 598 132) ∧ mu M' < mu M0)))) → (∀ (a : Nat) (i : Int), a ≠ 598 → a ≠ 602 → a ≠ 603 → a ≠ 604 → a ≠ 605 → a ≠ 624 → a ≠ 670 → a ≠ 671 → a ≠ 672 → a ≠ 673 → a ≠ 674 → a ≠ 675 → a ≠ 676 → a ≠ 677 → a ≠ 678 → a ≠ 679 → a ≠ 680 → a ≠ 681 → a ≠ 682 → a ≠ 683 → a ≠ 684 → a ≠ 685 → a ≠ 686 → a ≠ 687 → M' a i = M0 a i) → (∀ (i : Int), i ≠ 6 → i ≠ 10 → i ≠ 11 → i ≠ 12 → i ≠ 59 → i ≠ 60 → i ≠ 61 → i ≠ 62 → i ≠ 63 → i ≠ 64 → i ≠ 65 → i ≠ 66 → i ≠ 110 → i ≠ 112 → i ≠ 122 → i ≠ 131 → i ≠ 132 → i ≠ 134 → i ≠ 135 → i ≠ 136 → i ≠ 137 → i ≠ 138 → i ≠ 139 → i ≠ 143 → i ≠ 145 → M' 598 i = M0 598 i) → Q none M') : ∀ (M : jm) (a : Int) (o : Int), RI M → RH M → RF M → (∀ (a : Nat) (i : Int), a ≠ 598 → a ≠ 602 → a ≠ 603 → a ≠ 604 → a ≠ 605 → a ≠ 624 → a ≠ 670 → a ≠ 671 → a ≠ 672 → a ≠ 673 → a ≠ 674 → a ≠ 675 → a ≠ 676 → a ≠ 677 → a ≠ 678 → a ≠ 679 → a ≠ 680 → a ≠ 681 → a ≠ 682 → a ≠ 683 → a ≠ 684 → a ≠ 685 → a ≠ 686 → a ≠ 687 → M a i = M0 a i) → (∀ (i : Int), i ≠ 6 → i ≠ 10 → i ≠ 11 → i ≠ 12 → i ≠ 59 → i ≠ 60 → i ≠ 61 → i ≠ 62 → i ≠ 63 → i ≠ 64 → i ≠ 65 → i ≠ 66 → i ≠ 110 → i ≠ 112 → i ≠ 122 → i ≠ 131 → i ≠ 132 → i ≠ 134 → i ≠ 135 → i ≠ 136 → i ≠ 137 → i ≠ 138 → i ≠ 139 → i ≠ 143 → i ≠ 145 → M 598 i = M0 598 i) → (-9223372036854775808) ≤ a ∧ a ≤ 9223372036854775807 → 0 ≤ o ∧ o ≤ 1000 → MX M ht n → FRS M ht n (M 598 122) → 1 ≤ M 598 122 ∧ M 598 122 ≤ 8 → AS M L → L ≤ 1999999999 → (0 ≤ M 598 132 ∧ M 598 132 < n) → M 598 131 = ht (M 598 132) → o = M 654 (M 598 132) → a = M 655 (M 598 132) → (M 598 135 = 0 ∧ M 598 136 = 0) → M = M0 → (12 ≤ o ∧ o < 100) → jr A 9 xm_380 477 [(2, .long (Int64.ofInt (a))), (1, .int (Int32.ofInt (o))), (0, .ref (598))] [] M Q := by
    intro M a o hI_M hH_M hS_M hF_M hG_M h_a h_o hy0 hy1 hy2 hy3 hy4 hy5 hy6 hy7 hy8 hy9 hy10 hy11
    have hyM := hy10
    have ho := hy11
    have hp0 := hy0
    have hp1 := hy1
    have hp2 := hy2
    have hp3 := hy3
    have hp4 := hy4
    have hp5 := hy5
    have hp6 := hy6
    have hp7 := hy7
    have hp8 := hy8
    have hp9 := hy9
    subst hyM
    have p0 := hp0
    have p1 := hp1
    have p2 := hp2
    have p3 := hp3
    have p4 := hp4
    have p5 := hp5
    have p6 := hp6
    have p7 := hp7
    have p8 := hp8
    have p9 := hp9
    have hMX := p0
    have hFR := p1
    have hAS := p3
    obtain ⟨P, hP⟩ : ∃ z, M 598 132 = z := ⟨_, rfl⟩
    rw [hP] at p5 p6 p7 p8
    have nb := hMX.1
    have nb2 := hMX.2.1
    obtain ⟨⟨q1, q2, q3, q4, q5, q6⟩, q7, q8, q9⟩ := hMX.2.2.1 P p5.1 p5.2
    rw [← p7] at q3 q4 q5 q6 q7 q8 q9
    rw [← p8] at q7 q8 q9
    unfold vop at q3
    have ov : 24 ≤ o ∧ o ≤ 38 := by omega
    have nd : (o ≤ 29 → ndo o = 0 ∧ dlo o = 0) ∧ (30 ≤ o → dlo o = -(ndo o)) := ⟨fun z => (op_tab o).2.2.2.2.2.2.2.2.2.2.1 ⟨by omega, z⟩, fun z => (op_tab o).2.2.2.2.2.2.2.2.2.2.2 ⟨z, by omega⟩⟩
    have q6 := q6 (by unfold exo; omega)
    clear q7
    have pn : P + 1 < n := by
      by_cases y : P = n - 1
      · exfalso
        have z2 := hMX.2.2.2.2
        rw [← y, ← p7] at z2
        omega
      · omega
    have cN : cr (M 654) (P + 1) = 0 := MX.cr0 hMX (by omega) pn (by rw [show P + 1 - 1 = P by omega, ← p7]; omega)
    obtain ⟨Fv, hFv⟩ : ∃ z, M 598 122 = z := ⟨_, rfl⟩
    obtain ⟨hv, hhv⟩ : ∃ z, M 598 131 = z := ⟨_, rfl⟩
    rw [hhv] at p6
    clear q3
    obtain ⟨st, hst⟩ : ∃ z, M 598 143 = z := ⟨_, rfl⟩
    have bst : (0 : Int) ≤ st ∧ st ≤ 300 := by rw [← hst]; exact hI_M 598 143 (Nat.le_of_ble_eq_true rfl)
    have cl := cr_le (M 654) P
    refine jr.aload_n rfl rfl ?_
    refine jr.iload_n rfl rfl ?_
    refine jr.bipush rfl (jbp _ (nlt rfl)) ?_
    refine jr.isub rfl ?_
    refine jr.lload_n rfl rfl ?_
    have y2 : M 598 122 = Fv := hFv
    obtain ⟨v3, e3⟩ : ∃ z, M 598 82 = z := ⟨_, rfl⟩
    have b3 : 0 ≤ v3 ∧ v3 ≤ 16 := by rw [← e3]; exact hI_M 598 82 (Nat.le_of_ble_eq_true rfl)
    obtain ⟨v4, e4⟩ : ∃ z, M 598 135 = z := ⟨_, rfl⟩
    have b4 : 0 ≤ v4 ∧ v4 ≤ 8 := by rw [← e4]; exact hI_M 598 135 (Nat.le_of_ble_eq_true rfl)
    obtain ⟨v5, e5⟩ : ∃ z, M 598 136 = z := ⟨_, rfl⟩
    have b5 : 0 ≤ v5 ∧ v5 ≤ 1 := by rw [← e5]; exact hI_M 598 136 (Nat.le_of_ble_eq_true rfl)
    refine jr_v rfl rfl (Or.inl rfl) rfl rfl (nlt rfl) rfl ⟨rfl, Nat.le_of_ble_eq_true rfl, Nat.le_of_ble_eq_true rfl⟩ rfl (jc.deep (r_doDeed hI_M hH_M hS_M  (by omega) (by omega) hMX (FRS.fr hFR (fun i => (rfl)) (fun i => (rfl)) (fun i => (rfl)) (rfl) (by omega)) (by rw [hFv]; omega) hAS (by omega) (by rw [show 20 + (o - 20) = o by omega]; omega) (by rw [e3]; intro q; omega) (fun q => by rw [hP]; exact MX.ren hMX (by omega) pn (by rw [← p7]; omega) (by rw [q4]; omega)) (by rw [e4, e5]; omega) (by rw [hP]; omega) (fun M1 hI_M1 hH_M1 hS_M1  w1_0 w1_1 w1_2 w1_3 => ?_)) (Nat.le_of_ble_eq_true rfl))
    rw [show 20 + (o - 20) = o by omega] at w1_1
    obtain ⟨v6, e6⟩ : ∃ z, M1 598 122 = z := ⟨_, rfl⟩
    have b6 : 0 ≤ v6 ∧ v6 ≤ 9 := by rw [← e6]; exact hI_M1 598 122 (Nat.le_of_ble_eq_true rfl)
    have y7 : M1 598 122 = v6 := e6
    obtain ⟨v8, e8⟩ : ∃ z, M1 598 131 = z := ⟨_, rfl⟩
    have b8 : 0 ≤ v8 ∧ v8 ≤ 400 := by rw [← e8]; exact hI_M1 598 131 (Nat.le_of_ble_eq_true rfl)
    have y9 : M1 598 131 = v8 := e8
    obtain ⟨v10, e10⟩ : ∃ z, M1 598 132 = z := ⟨_, rfl⟩
    have b10 : 0 ≤ v10 ∧ v10 ≤ 2200 := by rw [← e10]; exact hI_M1 598 132 (Nat.le_of_ble_eq_true rfl)
    obtain ⟨v12, e12⟩ : ∃ z, M1 598 135 = z := ⟨_, rfl⟩
    have b12 : 0 ≤ v12 ∧ v12 ≤ 8 := by rw [← e12]; exact hI_M1 598 135 (Nat.le_of_ble_eq_true rfl)
    obtain ⟨v14, e14⟩ : ∃ z, M1 598 136 = z := ⟨_, rfl⟩
    have b14 : 0 ≤ v14 ∧ v14 ≤ 1 := by rw [← e14]; exact hI_M1 598 136 (Nat.le_of_ble_eq_true rfl)
    have e16 : M1 598 143 = st := ((w1_3 143 (zne rfl) (zne rfl) (zne rfl) (zne rfl) (zne rfl) (zne rfl) (zne rfl) (zne rfl) (zne rfl) (zne rfl) (zne rfl) (zne rfl) (zne rfl) (zne rfl) (zne rfl) (zne rfl)).trans hst)
    have hmu := mu.eq hst rfl hP (rfl : cr (M 654) P = cr (M 654) P)
    exact jr.vreturn rfl rfl (q _ hI_M1 hH_M1 hS_M1  w1_0 (by rcases w1_1 with z | ⟨y1, y2, y3, y4, ⟨y5, y6, y7⟩ | ⟨y5, ⟨y6, y7, y8, y9⟩ | ⟨y6, y7, y8, y9⟩ | ⟨y6, y7, y8, y9⟩⟩⟩; (exact Or.inl z); (exact Or.inr ⟨y1, y2, y3, y4, Or.inl ⟨y5, y6, (e16).trans hst.symm⟩⟩); (have zc := REr.cr0 y7; obtain ⟨r1, r2, r3, _, _⟩ := y7; have zm := mu.eq (M := M1) (e16) rfl rfl zc; exact Or.inr ⟨y1, y2, y3, y4, Or.inr ⟨y5, r1, r2, by rw [y9, r3]; omega, by omega⟩⟩); (have ck : cr (M 654) P = 1 := (by unfold cr; rw [← p7, if_pos (by omega)]); have zc := REr.cr0 y7; obtain ⟨r1, r2, r3, _, _⟩ := y7; have zm := mu.eq (M := M1) (e16) rfl rfl zc; exact Or.inr ⟨y1, y2, y3, y4, Or.inr ⟨y5, r1, r2, by rw [y9, r3]; omega, by omega⟩⟩); (have zm := mu.eq (M := M1) (e16) y8 (y7.trans (show M 598 132 + 1 = P + 1 by omega)) (show cr (M1 654) (P + 1) = 0 by rw [show M1 654 = M 654 from funext (fun i => ((w1_2 654 i (nne rfl) (nne rfl) (nne rfl) (nne rfl) (nne rfl) (nne rfl) (nne rfl) (nne rfl) (nne rfl) (nne rfl) (nne rfl) (nne rfl) (nne rfl) (nne rfl) (nne rfl) (nne rfl) (nne rfl) (nne rfl) (nne rfl) (nne rfl) (nne rfl) (nne rfl) (nne rfl) (nne rfl)).trans (rfl)))]; exact cN); exact Or.inr ⟨y1, y2, y3, y4, Or.inr ⟨y5, by omega, by omega, by rw [y9, y7.trans (show M 598 132 + 1 = P + 1 by omega), q4]; omega, by omega⟩⟩)) (fun a i f598 f602 f603 f604 f605 f624 f670 f671 f672 f673 f674 f675 f676 f677 f678 f679 f680 f681 f682 f683 f684 f685 f686 f687 => ((w1_2 a i f598 f602 f603 f604 f605 f624 f670 f671 f672 f673 f674 f675 f676 f677 f678 f679 f680 f681 f682 f683 f684 f685 f686 f687).trans (hF_M a i f598 f602 f603 f604 f605 f624 f670 f671 f672 f673 f674 f675 f676 f677 f678 f679 f680 f681 f682 f683 f684 f685 f686 f687))) (fun i g6 g10 g11 g12 g59 g60 g61 g62 g63 g64 g65 g66 g110 g112 g122 g131 g132 g134 g135 g136 g137 g138 g139 g143 g145 => ((w1_3 i g6 g10 g11 g12 g110 g112 g122 g131 g132 g134 g135 g136 g137 g138 g139 g145).trans (hG_M i g6 g10 g11 g12 g59 g60 g61 g62 g63 g64 g65 g66 g110 g112 g122 g131 g132 g134 g135 g136 g137 g138 g139 g143 g145))))
theorem r_act_L466 {A : Nat → Option (Nat × (Nat → Int32))} {Q : Option Value → jm → Prop} {L n : Int} {ht : Int → Int} {M0 : jm} (q : ∀ (M' : jm), RI M' → RH M' → RF M' → AS M' (L + 1) → ((M' 598 136 = 1 ∧ M' 598 135 = 0) ∨ (M' 598 136 = 0 ∧ FRS M' ht n (M' 598 122) ∧ 1 ≤ M' 598 122 ∧ M' 598 122 ≤ 8 ∧ ((M' 598 135 ≠ 0 ∧ phi M' = phi M0 ∧ M' 598 143 = M0 598 143) ∨ (M' 598 135 = 0 ∧ 0 ≤ M' 598 132 ∧ M' 598 132 < n ∧ M' 598 131 = ht (M' 598 132) ∧ mu M' < mu M0)))) → (∀ (a : Nat) (i : Int), a ≠ 598 → a ≠ 602 → a ≠ 603 → a ≠ 604 → a ≠ 605 → a ≠ 624 → a ≠ 670 → a ≠ 671 → a ≠ 672 → a ≠ 673 → a ≠ 674 → a ≠ 675 → a ≠ 676 → a ≠ 677 → a ≠ 678 → a ≠ 679 → a ≠ 680 → a ≠ 681 → a ≠ 682 → a ≠ 683 → a ≠ 684 → a ≠ 685 → a ≠ 686 → a ≠ 687 → M' a i = M0 a i) → (∀ (i : Int), i ≠ 6 → i ≠ 10 → i ≠ 11 → i ≠ 12 → i ≠ 59 → i ≠ 60 → i ≠ 61 → i ≠ 62 → i ≠ 63 → i ≠ 64 → i ≠ 65 → i ≠ 66 → i ≠ 110 → i ≠ 112 → i ≠ 122 → i ≠ 131 → i ≠ 132 → i ≠ 134 → i ≠ 135 → i ≠ 136 → i ≠ 137 → i ≠ 138 → i ≠ 139 → i ≠ 143 → i ≠ 145 → M' 598 i = M0 598 i) → Q none M') : ∀ (M : jm) (a : Int) (o : Int), RI M → RH M → RF M → (∀ (a : Nat) (i : Int), a ≠ 598 → a ≠ 602 → a ≠ 603 → a ≠ 604 → a ≠ 605 → a ≠ 624 → a ≠ 670 → a ≠ 671 → a ≠ 672 → a ≠ 673 → a ≠ 674 → a ≠ 675 → a ≠ 676 → a ≠ 677 → a ≠ 678 → a ≠ 679 → a ≠ 680 → a ≠ 681 → a ≠ 682 → a ≠ 683 → a ≠ 684 → a ≠ 685 → a ≠ 686 → a ≠ 687 → M a i = M0 a i) → (∀ (i : Int), i ≠ 6 → i ≠ 10 → i ≠ 11 → i ≠ 12 → i ≠ 59 → i ≠ 60 → i ≠ 61 → i ≠ 62 → i ≠ 63 → i ≠ 64 → i ≠ 65 → i ≠ 66 → i ≠ 110 → i ≠ 112 → i ≠ 122 → i ≠ 131 → i ≠ 132 → i ≠ 134 → i ≠ 135 → i ≠ 136 → i ≠ 137 → i ≠ 138 → i ≠ 139 → i ≠ 143 → i ≠ 145 → M 598 i = M0 598 i) → (-9223372036854775808) ≤ a ∧ a ≤ 9223372036854775807 → 0 ≤ o ∧ o ≤ 1000 → MX M ht n → FRS M ht n (M 598 122) → 1 ≤ M 598 122 ∧ M 598 122 ≤ 8 → AS M L → L ≤ 1999999999 → (0 ≤ M 598 132 ∧ M 598 132 < n) → M 598 131 = ht (M 598 132) → o = M 654 (M 598 132) → a = M 655 (M 598 132) → (M 598 135 = 0 ∧ M 598 136 = 0) → M = M0 → (100 ≤ o ∧ o < 340) → jr A 9 xm_380 466 [(2, .long (Int64.ofInt (a))), (1, .int (Int32.ofInt (o))), (0, .ref (598))] [] M Q := by
    intro M a o hI_M hH_M hS_M hF_M hG_M h_a h_o hy0 hy1 hy2 hy3 hy4 hy5 hy6 hy7 hy8 hy9 hy10 hy11
    have hyM := hy10
    have ho := hy11
    have hp0 := hy0
    have hp1 := hy1
    have hp2 := hy2
    have hp3 := hy3
    have hp4 := hy4
    have hp5 := hy5
    have hp6 := hy6
    have hp7 := hy7
    have hp8 := hy8
    have hp9 := hy9
    subst hyM
    have p0 := hp0
    have p1 := hp1
    have p2 := hp2
    have p3 := hp3
    have p4 := hp4
    have p5 := hp5
    have p6 := hp6
    have p7 := hp7
    have p8 := hp8
    have p9 := hp9
    have hMX := p0
    have hFR := p1
    have hAS := p3
    obtain ⟨P, hP⟩ : ∃ z, M 598 132 = z := ⟨_, rfl⟩
    rw [hP] at p5 p6 p7 p8
    have nb := hMX.1
    have nb2 := hMX.2.1
    obtain ⟨⟨q1, q2, q3, q4, q5, q6⟩, q7, q8, q9⟩ := hMX.2.2.1 P p5.1 p5.2
    rw [← p7] at q3 q4 q5 q6 q7 q8 q9
    rw [← p8] at q7 q8 q9
    unfold vop at q3
    have ov : 137 ≤ o ∧ o ≤ 162 := by omega
    have nd := (op_tab o).2.2.2.2.2.2.2.1 ov
    clear q7
    have pn : P + 1 < n := by
      by_cases y : P = n - 1
      · exfalso
        have z2 := hMX.2.2.2.2
        rw [← y, ← p7] at z2
        omega
      · omega
    have cN : cr (M 654) (P + 1) = 0 := MX.cr0 hMX (by omega) pn (by rw [show P + 1 - 1 = P by omega, ← p7]; omega)
    obtain ⟨Fv, hFv⟩ : ∃ z, M 598 122 = z := ⟨_, rfl⟩
    obtain ⟨hv, hhv⟩ : ∃ z, M 598 131 = z := ⟨_, rfl⟩
    rw [hhv] at p6
    clear q3
    obtain ⟨st, hst⟩ : ∃ z, M 598 143 = z := ⟨_, rfl⟩
    have bst : (0 : Int) ≤ st ∧ st ≤ 300 := by rw [← hst]; exact hI_M 598 143 (Nat.le_of_ble_eq_true rfl)
    have cl := cr_le (M 654) P
    refine jr.aload_n rfl rfl ?_
    refine jr.iload_n rfl rfl ?_
    refine jr.bipush rfl (jbp _ (nlt rfl)) ?_
    refine jr.isub rfl ?_
    refine jr_v rfl rfl (Or.inl rfl) rfl rfl (nlt rfl) rfl ⟨rfl, Nat.le_of_ble_eq_true rfl, Nat.le_of_ble_eq_true rfl⟩ rfl (jc.deep (r_bySign hI_M hH_M hS_M  (by omega) (by rw [hhv]; omega) (fun M1 hI_M1 hH_M1 hS_M1  w1_0 w1_1 w1_2 => ?_)) (Nat.le_of_ble_eq_true rfl))
    refine jr.goto rfl rfl ?_
    have e2 : M1 598 122 = Fv := ((w1_2 122 (zne rfl) (zne rfl)).trans hFv)
    obtain ⟨v4, e4⟩ : ∃ z, M 598 136 = z := ⟨_, rfl⟩
    have b4 : 0 ≤ v4 ∧ v4 ≤ 1 := by rw [← e4]; exact hI_M 598 136 (Nat.le_of_ble_eq_true rfl)
    have e5 : M1 598 136 = v4 := ((w1_2 136 (zne rfl) (zne rfl)).trans e4)
    have e6 : M1 598 132 = P := ((w1_2 132 (zne rfl) (zne rfl)).trans hP)
    obtain ⟨v7, e7⟩ : ∃ z, M1 598 131 = z := ⟨_, rfl⟩
    have b7 : 0 ≤ v7 ∧ v7 ≤ 400 := by rw [← e7]; exact hI_M1 598 131 (Nat.le_of_ble_eq_true rfl)
    obtain ⟨v8, e8⟩ : ∃ z, M1 598 135 = z := ⟨_, rfl⟩
    have b8 : 0 ≤ v8 ∧ v8 ≤ 8 := by rw [← e8]; exact hI_M1 598 135 (Nat.le_of_ble_eq_true rfl)
    have e9 : M1 598 143 = st := ((w1_2 143 (zne rfl) (zne rfl)).trans hst)
    refine jr.pick (ls := [_]) [2] rfl rfl ?_
    exact r_act_L487 (L := L) (n := n) (ht := ht) q M1  hI_M1 hH_M1 hS_M1  (fun a i f598 f602 f603 f604 f605 f624 f670 f671 f672 f673 f674 f675 f676 f677 f678 f679 f680 f681 f682 f683 f684 f685 f686 f687 => ((w1_1 a i f598 f686).trans (hF_M a i f598 f602 f603 f604 f605 f624 f670 f671 f672 f673 f674 f675 f676 f677 f678 f679 f680 f681 f682 f683 f684 f685 f686 f687))) (fun i g6 g10 g11 g12 g59 g60 g61 g62 g63 g64 g65 g66 g110 g112 g122 g131 g132 g134 g135 g136 g137 g138 g139 g143 g145 => ((w1_2 i g131 g135).trans (hG_M i g6 g10 g11 g12 g59 g60 g61 g62 g63 g64 g65 g66 g110 g112 g122 g131 g132 g134 g135 g136 g137 g138 g139 g143 g145)))  (FRS.fr hFR (fun i => ((w1_1 679 i (nne rfl) (nne rfl)).trans (rfl))) (fun i => ((w1_1 681 i (nne rfl) (nne rfl)).trans (rfl))) (fun i => ((w1_1 654 i (nne rfl) (nne rfl)).trans (rfl))) ((w1_2 82 (zne rfl) (zne rfl)).trans (rfl)) (by omega)) (AS.up (AS.fr hAS (fun i => w1_1 685 i (nne rfl) (nne rfl)) (w1_2 112 (zne rfl) (zne rfl))) (by omega)) (by rw [e2] <;> omega) (phi.fr (M := M) (M' := M1) ((w1_2 122 (zne rfl) (zne rfl)).trans (rfl)) (fun i => ((w1_1 680 i (nne rfl) (nne rfl)).trans (rfl)))) (by rw [e5] <;> omega) (by rw [e6] <;> omega) (by omega) (fun _ => by rw [e7, hP, q4]; omega) (by rw [e9, e8, hst, hP]; first | (exact Or.inl ⟨by omega, cN⟩) | (exact Or.inr ⟨by omega, by omega⟩))
theorem r_act_L445 {A : Nat → Option (Nat × (Nat → Int32))} {Q : Option Value → jm → Prop} {L n : Int} {ht : Int → Int} {M0 : jm} (q : ∀ (M' : jm), RI M' → RH M' → RF M' → AS M' (L + 1) → ((M' 598 136 = 1 ∧ M' 598 135 = 0) ∨ (M' 598 136 = 0 ∧ FRS M' ht n (M' 598 122) ∧ 1 ≤ M' 598 122 ∧ M' 598 122 ≤ 8 ∧ ((M' 598 135 ≠ 0 ∧ phi M' = phi M0 ∧ M' 598 143 = M0 598 143) ∨ (M' 598 135 = 0 ∧ 0 ≤ M' 598 132 ∧ M' 598 132 < n ∧ M' 598 131 = ht (M' 598 132) ∧ mu M' < mu M0)))) → (∀ (a : Nat) (i : Int), a ≠ 598 → a ≠ 602 → a ≠ 603 → a ≠ 604 → a ≠ 605 → a ≠ 624 → a ≠ 670 → a ≠ 671 → a ≠ 672 → a ≠ 673 → a ≠ 674 → a ≠ 675 → a ≠ 676 → a ≠ 677 → a ≠ 678 → a ≠ 679 → a ≠ 680 → a ≠ 681 → a ≠ 682 → a ≠ 683 → a ≠ 684 → a ≠ 685 → a ≠ 686 → a ≠ 687 → M' a i = M0 a i) → (∀ (i : Int), i ≠ 6 → i ≠ 10 → i ≠ 11 → i ≠ 12 → i ≠ 59 → i ≠ 60 → i ≠ 61 → i ≠ 62 → i ≠ 63 → i ≠ 64 → i ≠ 65 → i ≠ 66 → i ≠ 110 → i ≠ 112 → i ≠ 122 → i ≠ 131 → i ≠ 132 → i ≠ 134 → i ≠ 135 → i ≠ 136 → i ≠ 137 → i ≠ 138 → i ≠ 139 → i ≠ 143 → i ≠ 145 → M' 598 i = M0 598 i) → Q none M') : ∀ (M : jm) (a : Int) (o : Int), RI M → RH M → RF M → (∀ (a : Nat) (i : Int), a ≠ 598 → a ≠ 602 → a ≠ 603 → a ≠ 604 → a ≠ 605 → a ≠ 624 → a ≠ 670 → a ≠ 671 → a ≠ 672 → a ≠ 673 → a ≠ 674 → a ≠ 675 → a ≠ 676 → a ≠ 677 → a ≠ 678 → a ≠ 679 → a ≠ 680 → a ≠ 681 → a ≠ 682 → a ≠ 683 → a ≠ 684 → a ≠ 685 → a ≠ 686 → a ≠ 687 → M a i = M0 a i) → (∀ (i : Int), i ≠ 6 → i ≠ 10 → i ≠ 11 → i ≠ 12 → i ≠ 59 → i ≠ 60 → i ≠ 61 → i ≠ 62 → i ≠ 63 → i ≠ 64 → i ≠ 65 → i ≠ 66 → i ≠ 110 → i ≠ 112 → i ≠ 122 → i ≠ 131 → i ≠ 132 → i ≠ 134 → i ≠ 135 → i ≠ 136 → i ≠ 137 → i ≠ 138 → i ≠ 139 → i ≠ 143 → i ≠ 145 → M 598 i = M0 598 i) → (-9223372036854775808) ≤ a ∧ a ≤ 9223372036854775807 → 0 ≤ o ∧ o ≤ 1000 → MX M ht n → FRS M ht n (M 598 122) → 1 ≤ M 598 122 ∧ M 598 122 ≤ 8 → AS M L → L ≤ 1999999999 → (0 ≤ M 598 132 ∧ M 598 132 < n) → M 598 131 = ht (M 598 132) → o = M 654 (M 598 132) → a = M 655 (M 598 132) → (M 598 135 = 0 ∧ M 598 136 = 0) → M = M0 → 340 ≤ o → jr A 9 xm_380 445 [(2, .long (Int64.ofInt (a))), (1, .int (Int32.ofInt (o))), (0, .ref (598))] [] M Q := by
    intro M a o hI_M hH_M hS_M hF_M hG_M h_a h_o hy0 hy1 hy2 hy3 hy4 hy5 hy6 hy7 hy8 hy9 hy10 hy11
    have hyM := hy10
    have ho := hy11
    have hp0 := hy0
    have hp1 := hy1
    have hp2 := hy2
    have hp3 := hy3
    have hp4 := hy4
    have hp5 := hy5
    have hp6 := hy6
    have hp7 := hy7
    have hp8 := hy8
    have hp9 := hy9
    subst hyM
    have p0 := hp0
    have p1 := hp1
    have p2 := hp2
    have p3 := hp3
    have p4 := hp4
    have p5 := hp5
    have p6 := hp6
    have p7 := hp7
    have p8 := hp8
    have p9 := hp9
    have hMX := p0
    have hFR := p1
    have hAS := p3
    obtain ⟨P, hP⟩ : ∃ z, M 598 132 = z := ⟨_, rfl⟩
    rw [hP] at p5 p6 p7 p8
    have nb := hMX.1
    have nb2 := hMX.2.1
    obtain ⟨⟨q1, q2, q3, q4, q5, q6⟩, q7, q8, q9⟩ := hMX.2.2.1 P p5.1 p5.2
    rw [← p7] at q3 q4 q5 q6 q7 q8 q9
    rw [← p8] at q7 q8 q9
    unfold vop at q3
    have nd : (o < 365 → ndo o = 0 ∧ dlo o = 1) ∧ (365 ≤ o → ndo o = argn (o - 340) ∧ dlo o = 1 - argn (o - 340)) := ⟨fun z => (op_tab o).2.2.2.2.2.2.2.2.1 ⟨by omega, z⟩, fun z => (op_tab o).2.2.2.2.2.2.2.2.2.1 ⟨z, by omega⟩⟩
    have ov : 350 ≤ o ∧ o ≤ 370 := by omega
    clear q7
    have pn : P + 1 < n := by
      by_cases y : P = n - 1
      · exfalso
        have z2 := hMX.2.2.2.2
        rw [← y, ← p7] at z2
        omega
      · omega
    have cN : cr (M 654) (P + 1) = 0 := MX.cr0 hMX (by omega) pn (by rw [show P + 1 - 1 = P by omega, ← p7]; omega)
    obtain ⟨Fv, hFv⟩ : ∃ z, M 598 122 = z := ⟨_, rfl⟩
    obtain ⟨hv, hhv⟩ : ∃ z, M 598 131 = z := ⟨_, rfl⟩
    rw [hhv] at p6
    clear q3
    obtain ⟨st, hst⟩ : ∃ z, M 598 143 = z := ⟨_, rfl⟩
    have bst : (0 : Int) ≤ st ∧ st ≤ 300 := by rw [← hst]; exact hI_M 598 143 (Nat.le_of_ble_eq_true rfl)
    have cl := cr_le (M 654) P
    refine jr.aload_n rfl rfl ?_
    refine jr.iload_n rfl rfl ?_
    refine jr.bipush rfl (jbp _ (nlt rfl)) ?_
    refine jr.isub rfl ?_
    refine jr.sipush rfl (by decide) ?_
    refine jr.isub rfl ?_
    refine jr_v rfl rfl (Or.inl rfl) rfl rfl (nlt rfl) rfl ⟨rfl, Nat.le_of_ble_eq_true rfl, Nat.le_of_ble_eq_true rfl⟩ rfl (jc.deep (r_word hI_M hH_M hS_M  (by omega) (by intro z; rw [show o - 20 - 320 = o - 340 by omega] at z ⊢; rw [hhv]; omega) (by rw [hhv]; omega) (fun M1 hI_M1 hH_M1 hS_M1  w1_0 w1_1 w1_2 w1_3 => ?_)) (Nat.le_of_ble_eq_true rfl))
    rw [show o - 20 - 320 = o - 340 by omega] at w1_0 w1_1
    refine jr.goto rfl rfl ?_
    have e2 : M1 598 122 = Fv := ((w1_3 122 (zne rfl) (zne rfl) (zne rfl) (zne rfl) (zne rfl) (zne rfl) (zne rfl) (zne rfl) (zne rfl) (zne rfl) (zne rfl) (zne rfl) (zne rfl) (zne rfl)).trans hFv)
    obtain ⟨v4, e4⟩ : ∃ z, M 598 136 = z := ⟨_, rfl⟩
    have b4 : 0 ≤ v4 ∧ v4 ≤ 1 := by rw [← e4]; exact hI_M 598 136 (Nat.le_of_ble_eq_true rfl)
    have e5 : M1 598 136 = v4 := ((w1_3 136 (zne rfl) (zne rfl) (zne rfl) (zne rfl) (zne rfl) (zne rfl) (zne rfl) (zne rfl) (zne rfl) (zne rfl) (zne rfl) (zne rfl) (zne rfl) (zne rfl)).trans e4)
    have e6 : M1 598 132 = P := ((w1_3 132 (zne rfl) (zne rfl) (zne rfl) (zne rfl) (zne rfl) (zne rfl) (zne rfl) (zne rfl) (zne rfl) (zne rfl) (zne rfl) (zne rfl) (zne rfl) (zne rfl)).trans hP)
    obtain ⟨v7, e7⟩ : ∃ z, M1 598 131 = z := ⟨_, rfl⟩
    have b7 : 0 ≤ v7 ∧ v7 ≤ 400 := by rw [← e7]; exact hI_M1 598 131 (Nat.le_of_ble_eq_true rfl)
    obtain ⟨v8, e8⟩ : ∃ z, M1 598 135 = z := ⟨_, rfl⟩
    have b8 : 0 ≤ v8 ∧ v8 ≤ 8 := by rw [← e8]; exact hI_M1 598 135 (Nat.le_of_ble_eq_true rfl)
    have e9 : M1 598 143 = st := ((w1_3 143 (zne rfl) (zne rfl) (zne rfl) (zne rfl) (zne rfl) (zne rfl) (zne rfl) (zne rfl) (zne rfl) (zne rfl) (zne rfl) (zne rfl) (zne rfl) (zne rfl)).trans hst)
    refine jr.pick (ls := [_]) [2] rfl rfl ?_
    exact r_act_L487 (L := L) (n := n) (ht := ht) q M1  hI_M1 hH_M1 hS_M1  (fun a i f598 f602 f603 f604 f605 f624 f670 f671 f672 f673 f674 f675 f676 f677 f678 f679 f680 f681 f682 f683 f684 f685 f686 f687 => ((w1_2 a i f598 f603 f604 f605 f624 f686).trans (hF_M a i f598 f602 f603 f604 f605 f624 f670 f671 f672 f673 f674 f675 f676 f677 f678 f679 f680 f681 f682 f683 f684 f685 f686 f687))) (fun i g6 g10 g11 g12 g59 g60 g61 g62 g63 g64 g65 g66 g110 g112 g122 g131 g132 g134 g135 g136 g137 g138 g139 g143 g145 => ((w1_3 i g6 g10 g11 g12 g59 g60 g61 g62 g63 g64 g65 g66 g131 g135).trans (hG_M i g6 g10 g11 g12 g59 g60 g61 g62 g63 g64 g65 g66 g110 g112 g122 g131 g132 g134 g135 g136 g137 g138 g139 g143 g145)))  (FRS.fr hFR (fun i => ((w1_2 679 i (nne rfl) (nne rfl) (nne rfl) (nne rfl) (nne rfl) (nne rfl)).trans (rfl))) (fun i => ((w1_2 681 i (nne rfl) (nne rfl) (nne rfl) (nne rfl) (nne rfl) (nne rfl)).trans (rfl))) (fun i => ((w1_2 654 i (nne rfl) (nne rfl) (nne rfl) (nne rfl) (nne rfl) (nne rfl)).trans (rfl))) ((w1_3 82 (zne rfl) (zne rfl) (zne rfl) (zne rfl) (zne rfl) (zne rfl) (zne rfl) (zne rfl) (zne rfl) (zne rfl) (zne rfl) (zne rfl) (zne rfl) (zne rfl)).trans (rfl)) (by omega)) (AS.up (AS.fr hAS (fun i => w1_2 685 i (nne rfl) (nne rfl) (nne rfl) (nne rfl) (nne rfl) (nne rfl)) (w1_3 112 (zne rfl) (zne rfl) (zne rfl) (zne rfl) (zne rfl) (zne rfl) (zne rfl) (zne rfl) (zne rfl) (zne rfl) (zne rfl) (zne rfl) (zne rfl) (zne rfl))) (by omega)) (by rw [e2] <;> omega) (phi.fr (M := M) (M' := M1) ((w1_3 122 (zne rfl) (zne rfl) (zne rfl) (zne rfl) (zne rfl) (zne rfl) (zne rfl) (zne rfl) (zne rfl) (zne rfl) (zne rfl) (zne rfl) (zne rfl) (zne rfl)).trans (rfl)) (fun i => ((w1_2 680 i (nne rfl) (nne rfl) (nne rfl) (nne rfl) (nne rfl) (nne rfl)).trans (rfl)))) (by rw [e5] <;> omega) (by rw [e6] <;> omega) (by omega) (fun _ => by rw [e7, hP, q4]; omega) (by rw [e9, e8, hst, hP]; first | (exact Or.inl ⟨by omega, cN⟩) | (exact Or.inr ⟨by omega, by omega⟩))
theorem r_act_L403 {A : Nat → Option (Nat × (Nat → Int32))} {Q : Option Value → jm → Prop} {L n : Int} {ht : Int → Int} {M0 : jm} (q : ∀ (M' : jm), RI M' → RH M' → RF M' → AS M' (L + 1) → ((M' 598 136 = 1 ∧ M' 598 135 = 0) ∨ (M' 598 136 = 0 ∧ FRS M' ht n (M' 598 122) ∧ 1 ≤ M' 598 122 ∧ M' 598 122 ≤ 8 ∧ ((M' 598 135 ≠ 0 ∧ phi M' = phi M0 ∧ M' 598 143 = M0 598 143) ∨ (M' 598 135 = 0 ∧ 0 ≤ M' 598 132 ∧ M' 598 132 < n ∧ M' 598 131 = ht (M' 598 132) ∧ mu M' < mu M0)))) → (∀ (a : Nat) (i : Int), a ≠ 598 → a ≠ 602 → a ≠ 603 → a ≠ 604 → a ≠ 605 → a ≠ 624 → a ≠ 670 → a ≠ 671 → a ≠ 672 → a ≠ 673 → a ≠ 674 → a ≠ 675 → a ≠ 676 → a ≠ 677 → a ≠ 678 → a ≠ 679 → a ≠ 680 → a ≠ 681 → a ≠ 682 → a ≠ 683 → a ≠ 684 → a ≠ 685 → a ≠ 686 → a ≠ 687 → M' a i = M0 a i) → (∀ (i : Int), i ≠ 6 → i ≠ 10 → i ≠ 11 → i ≠ 12 → i ≠ 59 → i ≠ 60 → i ≠ 61 → i ≠ 62 → i ≠ 63 → i ≠ 64 → i ≠ 65 → i ≠ 66 → i ≠ 110 → i ≠ 112 → i ≠ 122 → i ≠ 131 → i ≠ 132 → i ≠ 134 → i ≠ 135 → i ≠ 136 → i ≠ 137 → i ≠ 138 → i ≠ 139 → i ≠ 143 → i ≠ 145 → M' 598 i = M0 598 i) → Q none M') : ∀ (M : jm) (a : Int) (o : Int), RI M → RH M → RF M → (∀ (a : Nat) (i : Int), a ≠ 598 → a ≠ 602 → a ≠ 603 → a ≠ 604 → a ≠ 605 → a ≠ 624 → a ≠ 670 → a ≠ 671 → a ≠ 672 → a ≠ 673 → a ≠ 674 → a ≠ 675 → a ≠ 676 → a ≠ 677 → a ≠ 678 → a ≠ 679 → a ≠ 680 → a ≠ 681 → a ≠ 682 → a ≠ 683 → a ≠ 684 → a ≠ 685 → a ≠ 686 → a ≠ 687 → M a i = M0 a i) → (∀ (i : Int), i ≠ 6 → i ≠ 10 → i ≠ 11 → i ≠ 12 → i ≠ 59 → i ≠ 60 → i ≠ 61 → i ≠ 62 → i ≠ 63 → i ≠ 64 → i ≠ 65 → i ≠ 66 → i ≠ 110 → i ≠ 112 → i ≠ 122 → i ≠ 131 → i ≠ 132 → i ≠ 134 → i ≠ 135 → i ≠ 136 → i ≠ 137 → i ≠ 138 → i ≠ 139 → i ≠ 143 → i ≠ 145 → M 598 i = M0 598 i) → (-9223372036854775808) ≤ a ∧ a ≤ 9223372036854775807 → 0 ≤ o ∧ o ≤ 1000 → MX M ht n → FRS M ht n (M 598 122) → 1 ≤ M 598 122 ∧ M 598 122 ≤ 8 → AS M L → L ≤ 1999999999 → (0 ≤ M 598 132 ∧ M 598 132 < n) → M 598 131 = ht (M 598 132) → o = M 654 (M 598 132) → a = M 655 (M 598 132) → (M 598 135 = 0 ∧ M 598 136 = 0) → M = M0 → o = 11 → jr A 9 xm_380 403 [(2, .long (Int64.ofInt (a))), (1, .int (Int32.ofInt (o))), (0, .ref (598))] [] M Q := by
    intro M a o hI_M hH_M hS_M hF_M hG_M h_a h_o hy0 hy1 hy2 hy3 hy4 hy5 hy6 hy7 hy8 hy9 hy10 hy11
    have hyM := hy10
    have ho := hy11
    have hp0 := hy0
    have hp1 := hy1
    have hp2 := hy2
    have hp3 := hy3
    have hp4 := hy4
    have hp5 := hy5
    have hp6 := hy6
    have hp7 := hy7
    have hp8 := hy8
    have hp9 := hy9
    subst hyM
    have p0 := hp0
    have p1 := hp1
    have p2 := hp2
    have p3 := hp3
    have p4 := hp4
    have p5 := hp5
    have p6 := hp6
    have p7 := hp7
    have p8 := hp8
    have p9 := hp9
    have hMX := p0
    have hFR := p1
    have hAS := p3
    obtain ⟨P, hP⟩ : ∃ z, M 598 132 = z := ⟨_, rfl⟩
    rw [hP] at p5 p6 p7 p8
    have nb := hMX.1
    have nb2 := hMX.2.1
    obtain ⟨⟨q1, q2, q3, q4, q5, q6⟩, q7, q8, q9⟩ := hMX.2.2.1 P p5.1 p5.2
    rw [← p7] at q3 q4 q5 q6 q7 q8 q9
    rw [← p8] at q7 q8 q9
    have nd : ndo o = 1 := by
      first | (rw [ho]; decide) | (rcases ho with z | z <;> rw [z] <;> decide)
    have dl : dlo o = 0 := by
      first | (rw [ho]; decide) | (rcases ho with z | z <;> rw [z] <;> decide)
    rw [dl] at q4
    rw [nd] at q5
    clear q7
    have pn : P + 1 < n := by
      by_cases y : P = n - 1
      · exfalso
        have z2 := hMX.2.2.2.2
        rw [← y, ← p7] at z2
        omega
      · omega
    have cN : cr (M 654) (P + 1) = 0 := MX.cr0 hMX (by omega) pn (by rw [show P + 1 - 1 = P by omega, ← p7]; omega)
    obtain ⟨Fv, hFv⟩ : ∃ z, M 598 122 = z := ⟨_, rfl⟩
    obtain ⟨hv, hhv⟩ : ∃ z, M 598 131 = z := ⟨_, rfl⟩
    rw [hhv] at p6
    clear q3
    obtain ⟨st, hst⟩ : ∃ z, M 598 143 = z := ⟨_, rfl⟩
    have bst : (0 : Int) ≤ st ∧ st ≤ 300 := by rw [← hst]; exact hI_M 598 143 (Nat.le_of_ble_eq_true rfl)
    have cl := cr_le (M 654) P
    refine jr.aload_n rfl rfl ?_
    refine jr.getf (i := 130) (v := .ref 686) rfl rfl (nlt rfl) rfl (nlt rfl) rfl rfl rfl rfl ?_
    refine jr.aload_n rfl rfl ?_
    refine jr.getf (i := 131) (x := hv) (v := .int (Int32.ofInt (hv))) rfl rfl (nlt rfl) rfl (nlt rfl) rfl rfl hhv rfl ?_
    refine jr.iconst rfl ?_
    refine jr.isub rfl ?_
    refine jr.aload_n rfl rfl ?_
    refine jr.getf (i := 130) (v := .ref 686) rfl rfl (nlt rfl) rfl (nlt rfl) rfl rfl rfl rfl ?_
    refine jr.aload_n rfl rfl ?_
    refine jr.getf (i := 131) (x := hv) (v := .int (Int32.ofInt (hv))) rfl rfl (nlt rfl) rfl (nlt rfl) rfl rfl hhv rfl ?_
    refine jr.iconst rfl ?_
    refine jr.isub rfl ?_
    obtain ⟨v1, e1⟩ : ∃ z, M 686 (hv - 1) = z := ⟨_, rfl⟩
    have b1 : (-9223372036854775808) ≤ v1 ∧ v1 ≤ 9223372036854775807 := by rw [← e1]; exact (by have q := hI_M 686 (hv - 1) (Nat.le_of_ble_eq_true rfl); rw [xri_row rfl rfl] at q; exact q)
    refine jr.lald (i := (hv - 1)) (x := v1) rfl (nlt rfl) rfl (Nat.le_of_ble_eq_true rfl) (by omega) (by omega) e1 ?_
    refine jr.lconst (x := 0) rfl (by decide) ?_
    refine jr.lcmp_ne rfl rfl rfl (by omega) (by omega) (fun h425 => ?_) (fun h425 => ?_)
    · refine jr.lconst (x := 0) rfl (by decide) ?_
      refine jr.last (i := (hv - 1)) (x := 0) rfl (nlt rfl) rfl (Nat.le_of_ble_eq_true rfl) (by omega) (by omega) ?_
      refine jr.goto rfl rfl ?_
      have y2 : (ju M 686 (hv - 1) 0) 598 122 = Fv := ((ju_c _ _ (by decide)).trans hFv)
      obtain ⟨v3, e3⟩ : ∃ z, M 598 136 = z := ⟨_, rfl⟩
      have b3 : 0 ≤ v3 ∧ v3 ≤ 1 := by rw [← e3]; exact hI_M 598 136 (Nat.le_of_ble_eq_true rfl)
      obtain ⟨v4, e4⟩ : ∃ z, M 598 135 = z := ⟨_, rfl⟩
      have b4 : 0 ≤ v4 ∧ v4 ≤ 8 := by rw [← e4]; exact hI_M 598 135 (Nat.le_of_ble_eq_true rfl)
      refine jr.pick (ls := [_]) [2] rfl rfl ?_
      exact r_act_L487 (L := L) (n := n) (ht := ht) q (ju M 686 (hv - 1) 0)  (RI.u hI_M (a := 686) (i := (hv - 1)) (by rw [xri_row rfl rfl]; show (-9223372036854775808 : Int) ≤ _ ∧ _ ≤ (9223372036854775807 : Int); omega)) (RH.o hH_M (by decide) (by decide) (by decide)) (RF.o hS_M (by decide) (by decide))  (fun a i f598 f602 f603 f604 f605 f624 f670 f671 f672 f673 f674 f675 f676 f677 f678 f679 f680 f681 f682 f683 f684 f685 f686 f687 => ((ju_c _ _ f686).trans (hF_M a i f598 f602 f603 f604 f605 f624 f670 f671 f672 f673 f674 f675 f676 f677 f678 f679 f680 f681 f682 f683 f684 f685 f686 f687))) (fun i g6 g10 g11 g12 g59 g60 g61 g62 g63 g64 g65 g66 g110 g112 g122 g131 g132 g134 g135 g136 g137 g138 g139 g143 g145 => ((ju_c _ _ (by decide)).trans (hG_M i g6 g10 g11 g12 g59 g60 g61 g62 g63 g64 g65 g66 g110 g112 g122 g131 g132 g134 g135 g136 g137 g138 g139 g143 g145)))  (FRS.fr hFR (fun i => ((ju_c _ _ (by decide)).trans (rfl))) (fun i => ((ju_c _ _ (by decide)).trans (rfl))) (fun i => ((ju_c _ _ (by decide)).trans (rfl))) ((ju_c _ _ (by decide)).trans (rfl)) (by omega)) (AS.up (AS.o hAS (by decide) (Or.inl (by decide))) (by omega)) (by rw [((ju_c _ _ (by decide)).trans hFv)] <;> omega) (phi.fr (M := M) (M' := (ju M 686 (hv - 1) 0)) ((ju_c _ _ (by decide)).trans (rfl)) (fun i => ((ju_c _ _ (by decide)).trans (rfl)))) (by rw [((ju_c _ _ (by decide)).trans e3)] <;> omega) (by rw [((ju_c _ _ (by decide)).trans hP)] <;> omega) (by omega) (fun _ => by rw [((ju_c _ _ (by decide)).trans hhv), hP, q4]; omega) (by rw [((ju_c _ _ (by decide)).trans hst), ((ju_c _ _ (by decide)).trans e4), hst, hP]; first | (exact Or.inl ⟨by omega, cN⟩) | (exact Or.inr ⟨by omega, by omega⟩))
    · refine jr.lconst (x := 1) rfl (by decide) ?_
      refine jr.goto rfl rfl ?_
      refine jr.last (i := (hv - 1)) (x := 1) rfl (nlt rfl) rfl (Nat.le_of_ble_eq_true rfl) (by omega) (by omega) ?_
      refine jr.goto rfl rfl ?_
      have y5 : (ju M 686 (hv - 1) 1) 598 122 = Fv := ((ju_c _ _ (by decide)).trans hFv)
      obtain ⟨v6, e6⟩ : ∃ z, M 598 136 = z := ⟨_, rfl⟩
      have b6 : 0 ≤ v6 ∧ v6 ≤ 1 := by rw [← e6]; exact hI_M 598 136 (Nat.le_of_ble_eq_true rfl)
      obtain ⟨v7, e7⟩ : ∃ z, M 598 135 = z := ⟨_, rfl⟩
      have b7 : 0 ≤ v7 ∧ v7 ≤ 8 := by rw [← e7]; exact hI_M 598 135 (Nat.le_of_ble_eq_true rfl)
      refine jr.pick (ls := [_]) [2] rfl rfl ?_
      exact r_act_L487 (L := L) (n := n) (ht := ht) q (ju M 686 (hv - 1) 1)  (RI.u hI_M (a := 686) (i := (hv - 1)) (by rw [xri_row rfl rfl]; show (-9223372036854775808 : Int) ≤ _ ∧ _ ≤ (9223372036854775807 : Int); omega)) (RH.o hH_M (by decide) (by decide) (by decide)) (RF.o hS_M (by decide) (by decide))  (fun a i f598 f602 f603 f604 f605 f624 f670 f671 f672 f673 f674 f675 f676 f677 f678 f679 f680 f681 f682 f683 f684 f685 f686 f687 => ((ju_c _ _ f686).trans (hF_M a i f598 f602 f603 f604 f605 f624 f670 f671 f672 f673 f674 f675 f676 f677 f678 f679 f680 f681 f682 f683 f684 f685 f686 f687))) (fun i g6 g10 g11 g12 g59 g60 g61 g62 g63 g64 g65 g66 g110 g112 g122 g131 g132 g134 g135 g136 g137 g138 g139 g143 g145 => ((ju_c _ _ (by decide)).trans (hG_M i g6 g10 g11 g12 g59 g60 g61 g62 g63 g64 g65 g66 g110 g112 g122 g131 g132 g134 g135 g136 g137 g138 g139 g143 g145)))  (FRS.fr hFR (fun i => ((ju_c _ _ (by decide)).trans (rfl))) (fun i => ((ju_c _ _ (by decide)).trans (rfl))) (fun i => ((ju_c _ _ (by decide)).trans (rfl))) ((ju_c _ _ (by decide)).trans (rfl)) (by omega)) (AS.up (AS.o hAS (by decide) (Or.inl (by decide))) (by omega)) (by rw [((ju_c _ _ (by decide)).trans hFv)] <;> omega) (phi.fr (M := M) (M' := (ju M 686 (hv - 1) 1)) ((ju_c _ _ (by decide)).trans (rfl)) (fun i => ((ju_c _ _ (by decide)).trans (rfl)))) (by rw [((ju_c _ _ (by decide)).trans e6)] <;> omega) (by rw [((ju_c _ _ (by decide)).trans hP)] <;> omega) (by omega) (fun _ => by rw [((ju_c _ _ (by decide)).trans hhv), hP, q4]; omega) (by rw [((ju_c _ _ (by decide)).trans hst), ((ju_c _ _ (by decide)).trans e7), hst, hP]; first | (exact Or.inl ⟨by omega, cN⟩) | (exact Or.inr ⟨by omega, by omega⟩))
theorem r_act_L377 {A : Nat → Option (Nat × (Nat → Int32))} {Q : Option Value → jm → Prop} {L n : Int} {ht : Int → Int} {M0 : jm} (q : ∀ (M' : jm), RI M' → RH M' → RF M' → AS M' (L + 1) → ((M' 598 136 = 1 ∧ M' 598 135 = 0) ∨ (M' 598 136 = 0 ∧ FRS M' ht n (M' 598 122) ∧ 1 ≤ M' 598 122 ∧ M' 598 122 ≤ 8 ∧ ((M' 598 135 ≠ 0 ∧ phi M' = phi M0 ∧ M' 598 143 = M0 598 143) ∨ (M' 598 135 = 0 ∧ 0 ≤ M' 598 132 ∧ M' 598 132 < n ∧ M' 598 131 = ht (M' 598 132) ∧ mu M' < mu M0)))) → (∀ (a : Nat) (i : Int), a ≠ 598 → a ≠ 602 → a ≠ 603 → a ≠ 604 → a ≠ 605 → a ≠ 624 → a ≠ 670 → a ≠ 671 → a ≠ 672 → a ≠ 673 → a ≠ 674 → a ≠ 675 → a ≠ 676 → a ≠ 677 → a ≠ 678 → a ≠ 679 → a ≠ 680 → a ≠ 681 → a ≠ 682 → a ≠ 683 → a ≠ 684 → a ≠ 685 → a ≠ 686 → a ≠ 687 → M' a i = M0 a i) → (∀ (i : Int), i ≠ 6 → i ≠ 10 → i ≠ 11 → i ≠ 12 → i ≠ 59 → i ≠ 60 → i ≠ 61 → i ≠ 62 → i ≠ 63 → i ≠ 64 → i ≠ 65 → i ≠ 66 → i ≠ 110 → i ≠ 112 → i ≠ 122 → i ≠ 131 → i ≠ 132 → i ≠ 134 → i ≠ 135 → i ≠ 136 → i ≠ 137 → i ≠ 138 → i ≠ 139 → i ≠ 143 → i ≠ 145 → M' 598 i = M0 598 i) → Q none M') : ∀ (M : jm) (a : Int) (o : Int), RI M → RH M → RF M → (∀ (a : Nat) (i : Int), a ≠ 598 → a ≠ 602 → a ≠ 603 → a ≠ 604 → a ≠ 605 → a ≠ 624 → a ≠ 670 → a ≠ 671 → a ≠ 672 → a ≠ 673 → a ≠ 674 → a ≠ 675 → a ≠ 676 → a ≠ 677 → a ≠ 678 → a ≠ 679 → a ≠ 680 → a ≠ 681 → a ≠ 682 → a ≠ 683 → a ≠ 684 → a ≠ 685 → a ≠ 686 → a ≠ 687 → M a i = M0 a i) → (∀ (i : Int), i ≠ 6 → i ≠ 10 → i ≠ 11 → i ≠ 12 → i ≠ 59 → i ≠ 60 → i ≠ 61 → i ≠ 62 → i ≠ 63 → i ≠ 64 → i ≠ 65 → i ≠ 66 → i ≠ 110 → i ≠ 112 → i ≠ 122 → i ≠ 131 → i ≠ 132 → i ≠ 134 → i ≠ 135 → i ≠ 136 → i ≠ 137 → i ≠ 138 → i ≠ 139 → i ≠ 143 → i ≠ 145 → M 598 i = M0 598 i) → (-9223372036854775808) ≤ a ∧ a ≤ 9223372036854775807 → 0 ≤ o ∧ o ≤ 1000 → MX M ht n → FRS M ht n (M 598 122) → 1 ≤ M 598 122 ∧ M 598 122 ≤ 8 → AS M L → L ≤ 1999999999 → (0 ≤ M 598 132 ∧ M 598 132 < n) → M 598 131 = ht (M 598 132) → o = M 654 (M 598 132) → a = M 655 (M 598 132) → (M 598 135 = 0 ∧ M 598 136 = 0) → M = M0 → o = 10 → jr A 9 xm_380 377 [(2, .long (Int64.ofInt (a))), (1, .int (Int32.ofInt (o))), (0, .ref (598))] [] M Q := by
    intro M a o hI_M hH_M hS_M hF_M hG_M h_a h_o hy0 hy1 hy2 hy3 hy4 hy5 hy6 hy7 hy8 hy9 hy10 hy11
    have hyM := hy10
    have ho := hy11
    have hp0 := hy0
    have hp1 := hy1
    have hp2 := hy2
    have hp3 := hy3
    have hp4 := hy4
    have hp5 := hy5
    have hp6 := hy6
    have hp7 := hy7
    have hp8 := hy8
    have hp9 := hy9
    subst hyM
    have p0 := hp0
    have p1 := hp1
    have p2 := hp2
    have p3 := hp3
    have p4 := hp4
    have p5 := hp5
    have p6 := hp6
    have p7 := hp7
    have p8 := hp8
    have p9 := hp9
    have hMX := p0
    have hFR := p1
    have hAS := p3
    obtain ⟨P, hP⟩ : ∃ z, M 598 132 = z := ⟨_, rfl⟩
    rw [hP] at p5 p6 p7 p8
    have nb := hMX.1
    have nb2 := hMX.2.1
    obtain ⟨⟨q1, q2, q3, q4, q5, q6⟩, q7, q8, q9⟩ := hMX.2.2.1 P p5.1 p5.2
    rw [← p7] at q3 q4 q5 q6 q7 q8 q9
    rw [← p8] at q7 q8 q9
    have nd : ndo o = 1 := by
      first | (rw [ho]; decide) | (rcases ho with z | z <;> rw [z] <;> decide)
    have dl : dlo o = 0 := by
      first | (rw [ho]; decide) | (rcases ho with z | z <;> rw [z] <;> decide)
    rw [dl] at q4
    rw [nd] at q5
    clear q7
    have pn : P + 1 < n := by
      by_cases y : P = n - 1
      · exfalso
        have z2 := hMX.2.2.2.2
        rw [← y, ← p7] at z2
        omega
      · omega
    have cN : cr (M 654) (P + 1) = 0 := MX.cr0 hMX (by omega) pn (by rw [show P + 1 - 1 = P by omega, ← p7]; omega)
    obtain ⟨Fv, hFv⟩ : ∃ z, M 598 122 = z := ⟨_, rfl⟩
    obtain ⟨hv, hhv⟩ : ∃ z, M 598 131 = z := ⟨_, rfl⟩
    rw [hhv] at p6
    clear q3
    obtain ⟨st, hst⟩ : ∃ z, M 598 143 = z := ⟨_, rfl⟩
    have bst : (0 : Int) ≤ st ∧ st ≤ 300 := by rw [← hst]; exact hI_M 598 143 (Nat.le_of_ble_eq_true rfl)
    have cl := cr_le (M 654) P
    refine jr.aload_n rfl rfl ?_
    refine jr.getf (i := 130) (v := .ref 686) rfl rfl (nlt rfl) rfl (nlt rfl) rfl rfl rfl rfl ?_
    refine jr.aload_n rfl rfl ?_
    refine jr.getf (i := 131) (x := hv) (v := .int (Int32.ofInt (hv))) rfl rfl (nlt rfl) rfl (nlt rfl) rfl rfl hhv rfl ?_
    refine jr.iconst rfl ?_
    refine jr.isub rfl ?_
    refine jr.aload_n rfl rfl ?_
    refine jr.getf (i := 130) (v := .ref 686) rfl rfl (nlt rfl) rfl (nlt rfl) rfl rfl rfl rfl ?_
    refine jr.aload_n rfl rfl ?_
    refine jr.getf (i := 131) (x := hv) (v := .int (Int32.ofInt (hv))) rfl rfl (nlt rfl) rfl (nlt rfl) rfl rfl hhv rfl ?_
    refine jr.iconst rfl ?_
    refine jr.isub rfl ?_
    obtain ⟨v1, e1⟩ : ∃ z, M 686 (hv - 1) = z := ⟨_, rfl⟩
    have b1 : (-9223372036854775808) ≤ v1 ∧ v1 ≤ 9223372036854775807 := by rw [← e1]; exact (by have q := hI_M 686 (hv - 1) (Nat.le_of_ble_eq_true rfl); rw [xri_row rfl rfl] at q; exact q)
    refine jr.lald (i := (hv - 1)) (x := v1) rfl (nlt rfl) rfl (Nat.le_of_ble_eq_true rfl) (by omega) (by omega) e1 ?_
    refine jr.lneg rfl ?_
    refine jr.lw (jl_w (-v1)) (jl_w_eq _) ?_
    have b2 : -9223372036854775808 ≤ jl_w (-v1) ∧ jl_w (-v1) ≤ 9223372036854775807 := jbl_any _
    generalize jl_w (-v1) = v2 at b2 ⊢
    refine jr.last (i := (hv - 1)) (x := v2) rfl (nlt rfl) rfl (Nat.le_of_ble_eq_true rfl) (by omega) (by omega) ?_
    refine jr.goto rfl rfl ?_
    have y3 : (ju M 686 (hv - 1) v2) 598 122 = Fv := ((ju_c _ _ (by decide)).trans hFv)
    obtain ⟨v4, e4⟩ : ∃ z, M 598 136 = z := ⟨_, rfl⟩
    have b4 : 0 ≤ v4 ∧ v4 ≤ 1 := by rw [← e4]; exact hI_M 598 136 (Nat.le_of_ble_eq_true rfl)
    obtain ⟨v5, e5⟩ : ∃ z, M 598 135 = z := ⟨_, rfl⟩
    have b5 : 0 ≤ v5 ∧ v5 ≤ 8 := by rw [← e5]; exact hI_M 598 135 (Nat.le_of_ble_eq_true rfl)
    refine jr.pick (ls := [_]) [2] rfl rfl ?_
    exact r_act_L487 (L := L) (n := n) (ht := ht) q (ju M 686 (hv - 1) v2)  (RI.u hI_M (a := 686) (i := (hv - 1)) (by rw [xri_row rfl rfl]; show (-9223372036854775808 : Int) ≤ _ ∧ _ ≤ (9223372036854775807 : Int); omega)) (RH.o hH_M (by decide) (by decide) (by decide)) (RF.o hS_M (by decide) (by decide))  (fun a i f598 f602 f603 f604 f605 f624 f670 f671 f672 f673 f674 f675 f676 f677 f678 f679 f680 f681 f682 f683 f684 f685 f686 f687 => ((ju_c _ _ f686).trans (hF_M a i f598 f602 f603 f604 f605 f624 f670 f671 f672 f673 f674 f675 f676 f677 f678 f679 f680 f681 f682 f683 f684 f685 f686 f687))) (fun i g6 g10 g11 g12 g59 g60 g61 g62 g63 g64 g65 g66 g110 g112 g122 g131 g132 g134 g135 g136 g137 g138 g139 g143 g145 => ((ju_c _ _ (by decide)).trans (hG_M i g6 g10 g11 g12 g59 g60 g61 g62 g63 g64 g65 g66 g110 g112 g122 g131 g132 g134 g135 g136 g137 g138 g139 g143 g145)))  (FRS.fr hFR (fun i => ((ju_c _ _ (by decide)).trans (rfl))) (fun i => ((ju_c _ _ (by decide)).trans (rfl))) (fun i => ((ju_c _ _ (by decide)).trans (rfl))) ((ju_c _ _ (by decide)).trans (rfl)) (by omega)) (AS.up (AS.o hAS (by decide) (Or.inl (by decide))) (by omega)) (by rw [((ju_c _ _ (by decide)).trans hFv)] <;> omega) (phi.fr (M := M) (M' := (ju M 686 (hv - 1) v2)) ((ju_c _ _ (by decide)).trans (rfl)) (fun i => ((ju_c _ _ (by decide)).trans (rfl)))) (by rw [((ju_c _ _ (by decide)).trans e4)] <;> omega) (by rw [((ju_c _ _ (by decide)).trans hP)] <;> omega) (by omega) (fun _ => by rw [((ju_c _ _ (by decide)).trans hhv), hP, q4]; omega) (by rw [((ju_c _ _ (by decide)).trans hst), ((ju_c _ _ (by decide)).trans e5), hst, hP]; first | (exact Or.inl ⟨by omega, cN⟩) | (exact Or.inr ⟨by omega, by omega⟩))
theorem r_act_L342 {A : Nat → Option (Nat × (Nat → Int32))} {Q : Option Value → jm → Prop} {L n : Int} {ht : Int → Int} {M0 : jm} (q : ∀ (M' : jm), RI M' → RH M' → RF M' → AS M' (L + 1) → ((M' 598 136 = 1 ∧ M' 598 135 = 0) ∨ (M' 598 136 = 0 ∧ FRS M' ht n (M' 598 122) ∧ 1 ≤ M' 598 122 ∧ M' 598 122 ≤ 8 ∧ ((M' 598 135 ≠ 0 ∧ phi M' = phi M0 ∧ M' 598 143 = M0 598 143) ∨ (M' 598 135 = 0 ∧ 0 ≤ M' 598 132 ∧ M' 598 132 < n ∧ M' 598 131 = ht (M' 598 132) ∧ mu M' < mu M0)))) → (∀ (a : Nat) (i : Int), a ≠ 598 → a ≠ 602 → a ≠ 603 → a ≠ 604 → a ≠ 605 → a ≠ 624 → a ≠ 670 → a ≠ 671 → a ≠ 672 → a ≠ 673 → a ≠ 674 → a ≠ 675 → a ≠ 676 → a ≠ 677 → a ≠ 678 → a ≠ 679 → a ≠ 680 → a ≠ 681 → a ≠ 682 → a ≠ 683 → a ≠ 684 → a ≠ 685 → a ≠ 686 → a ≠ 687 → M' a i = M0 a i) → (∀ (i : Int), i ≠ 6 → i ≠ 10 → i ≠ 11 → i ≠ 12 → i ≠ 59 → i ≠ 60 → i ≠ 61 → i ≠ 62 → i ≠ 63 → i ≠ 64 → i ≠ 65 → i ≠ 66 → i ≠ 110 → i ≠ 112 → i ≠ 122 → i ≠ 131 → i ≠ 132 → i ≠ 134 → i ≠ 135 → i ≠ 136 → i ≠ 137 → i ≠ 138 → i ≠ 139 → i ≠ 143 → i ≠ 145 → M' 598 i = M0 598 i) → Q none M') : ∀ (M : jm) (a : Int) (o : Int), RI M → RH M → RF M → (∀ (a : Nat) (i : Int), a ≠ 598 → a ≠ 602 → a ≠ 603 → a ≠ 604 → a ≠ 605 → a ≠ 624 → a ≠ 670 → a ≠ 671 → a ≠ 672 → a ≠ 673 → a ≠ 674 → a ≠ 675 → a ≠ 676 → a ≠ 677 → a ≠ 678 → a ≠ 679 → a ≠ 680 → a ≠ 681 → a ≠ 682 → a ≠ 683 → a ≠ 684 → a ≠ 685 → a ≠ 686 → a ≠ 687 → M a i = M0 a i) → (∀ (i : Int), i ≠ 6 → i ≠ 10 → i ≠ 11 → i ≠ 12 → i ≠ 59 → i ≠ 60 → i ≠ 61 → i ≠ 62 → i ≠ 63 → i ≠ 64 → i ≠ 65 → i ≠ 66 → i ≠ 110 → i ≠ 112 → i ≠ 122 → i ≠ 131 → i ≠ 132 → i ≠ 134 → i ≠ 135 → i ≠ 136 → i ≠ 137 → i ≠ 138 → i ≠ 139 → i ≠ 143 → i ≠ 145 → M 598 i = M0 598 i) → (-9223372036854775808) ≤ a ∧ a ≤ 9223372036854775807 → 0 ≤ o ∧ o ≤ 1000 → MX M ht n → FRS M ht n (M 598 122) → 1 ≤ M 598 122 ∧ M 598 122 ≤ 8 → AS M L → L ≤ 1999999999 → (0 ≤ M 598 132 ∧ M 598 132 < n) → M 598 131 = ht (M 598 132) → o = M 654 (M 598 132) → a = M 655 (M 598 132) → (M 598 135 = 0 ∧ M 598 136 = 0) → M = M0 → o = 9 → jr A 9 xm_380 342 [(2, .long (Int64.ofInt (a))), (1, .int (Int32.ofInt (o))), (0, .ref (598))] [] M Q := by
    intro M a o hI_M hH_M hS_M hF_M hG_M h_a h_o hy0 hy1 hy2 hy3 hy4 hy5 hy6 hy7 hy8 hy9 hy10 hy11
    have hyM := hy10
    have ho := hy11
    have hp0 := hy0
    have hp1 := hy1
    have hp2 := hy2
    have hp3 := hy3
    have hp4 := hy4
    have hp5 := hy5
    have hp6 := hy6
    have hp7 := hy7
    have hp8 := hy8
    have hp9 := hy9
    subst hyM
    have p0 := hp0
    have p1 := hp1
    have p2 := hp2
    have p3 := hp3
    have p4 := hp4
    have p5 := hp5
    have p6 := hp6
    have p7 := hp7
    have p8 := hp8
    have p9 := hp9
    have hMX := p0
    have hFR := p1
    have hAS := p3
    obtain ⟨P, hP⟩ : ∃ z, M 598 132 = z := ⟨_, rfl⟩
    rw [hP] at p5 p6 p7 p8
    have nb := hMX.1
    have nb2 := hMX.2.1
    obtain ⟨⟨q1, q2, q3, q4, q5, q6⟩, q7, q8, q9⟩ := hMX.2.2.1 P p5.1 p5.2
    rw [← p7] at q3 q4 q5 q6 q7 q8 q9
    rw [← p8] at q7 q8 q9
    have nd : ndo o = 1 := by
      first | (rw [ho]; decide) | (rcases ho with z | z <;> rw [z] <;> decide)
    have dl : dlo o = 0 := by
      first | (rw [ho]; decide) | (rcases ho with z | z <;> rw [z] <;> decide)
    rw [dl] at q4
    rw [nd] at q5
    clear q7
    have pn : P + 1 < n := by
      by_cases y : P = n - 1
      · exfalso
        have z2 := hMX.2.2.2.2
        rw [← y, ← p7] at z2
        omega
      · omega
    have cN : cr (M 654) (P + 1) = 0 := MX.cr0 hMX (by omega) pn (by rw [show P + 1 - 1 = P by omega, ← p7]; omega)
    obtain ⟨Fv, hFv⟩ : ∃ z, M 598 122 = z := ⟨_, rfl⟩
    obtain ⟨hv, hhv⟩ : ∃ z, M 598 131 = z := ⟨_, rfl⟩
    rw [hhv] at p6
    clear q3
    obtain ⟨st, hst⟩ : ∃ z, M 598 143 = z := ⟨_, rfl⟩
    have bst : (0 : Int) ≤ st ∧ st ≤ 300 := by rw [← hst]; exact hI_M 598 143 (Nat.le_of_ble_eq_true rfl)
    have cl := cr_le (M 654) P
    refine jr.aload_n rfl rfl ?_
    refine jr.getf (i := 130) (v := .ref 686) rfl rfl (nlt rfl) rfl (nlt rfl) rfl rfl rfl rfl ?_
    refine jr.aload_n rfl rfl ?_
    refine jr.getf (i := 131) (x := hv) (v := .int (Int32.ofInt (hv))) rfl rfl (nlt rfl) rfl (nlt rfl) rfl rfl hhv rfl ?_
    refine jr.iconst rfl ?_
    refine jr.isub rfl ?_
    refine jr.aload_n rfl rfl ?_
    refine jr.getf (i := 130) (v := .ref 686) rfl rfl (nlt rfl) rfl (nlt rfl) rfl rfl rfl rfl ?_
    refine jr.aload_n rfl rfl ?_
    refine jr.getf (i := 131) (x := hv) (v := .int (Int32.ofInt (hv))) rfl rfl (nlt rfl) rfl (nlt rfl) rfl rfl hhv rfl ?_
    refine jr.iconst rfl ?_
    refine jr.isub rfl ?_
    obtain ⟨v1, e1⟩ : ∃ z, M 686 (hv - 1) = z := ⟨_, rfl⟩
    have b1 : (-9223372036854775808) ≤ v1 ∧ v1 ≤ 9223372036854775807 := by rw [← e1]; exact (by have q := hI_M 686 (hv - 1) (Nat.le_of_ble_eq_true rfl); rw [xri_row rfl rfl] at q; exact q)
    refine jr.lald (i := (hv - 1)) (x := v1) rfl (nlt rfl) rfl (Nat.le_of_ble_eq_true rfl) (by omega) (by omega) e1 ?_
    refine jr.lconst (x := 0) rfl (by decide) ?_
    refine jr.lcmp_eq rfl rfl rfl (by omega) (by omega) (fun h364 => ?_) (fun h364 => ?_)
    · refine jr.lconst (x := 0) rfl (by decide) ?_
      refine jr.last (i := (hv - 1)) (x := 0) rfl (nlt rfl) rfl (Nat.le_of_ble_eq_true rfl) (by omega) (by omega) ?_
      refine jr.goto rfl rfl ?_
      have y2 : (ju M 686 (hv - 1) 0) 598 122 = Fv := ((ju_c _ _ (by decide)).trans hFv)
      obtain ⟨v3, e3⟩ : ∃ z, M 598 136 = z := ⟨_, rfl⟩
      have b3 : 0 ≤ v3 ∧ v3 ≤ 1 := by rw [← e3]; exact hI_M 598 136 (Nat.le_of_ble_eq_true rfl)
      obtain ⟨v4, e4⟩ : ∃ z, M 598 135 = z := ⟨_, rfl⟩
      have b4 : 0 ≤ v4 ∧ v4 ≤ 8 := by rw [← e4]; exact hI_M 598 135 (Nat.le_of_ble_eq_true rfl)
      refine jr.pick (ls := [_]) [2] rfl rfl ?_
      exact r_act_L487 (L := L) (n := n) (ht := ht) q (ju M 686 (hv - 1) 0)  (RI.u hI_M (a := 686) (i := (hv - 1)) (by rw [xri_row rfl rfl]; show (-9223372036854775808 : Int) ≤ _ ∧ _ ≤ (9223372036854775807 : Int); omega)) (RH.o hH_M (by decide) (by decide) (by decide)) (RF.o hS_M (by decide) (by decide))  (fun a i f598 f602 f603 f604 f605 f624 f670 f671 f672 f673 f674 f675 f676 f677 f678 f679 f680 f681 f682 f683 f684 f685 f686 f687 => ((ju_c _ _ f686).trans (hF_M a i f598 f602 f603 f604 f605 f624 f670 f671 f672 f673 f674 f675 f676 f677 f678 f679 f680 f681 f682 f683 f684 f685 f686 f687))) (fun i g6 g10 g11 g12 g59 g60 g61 g62 g63 g64 g65 g66 g110 g112 g122 g131 g132 g134 g135 g136 g137 g138 g139 g143 g145 => ((ju_c _ _ (by decide)).trans (hG_M i g6 g10 g11 g12 g59 g60 g61 g62 g63 g64 g65 g66 g110 g112 g122 g131 g132 g134 g135 g136 g137 g138 g139 g143 g145)))  (FRS.fr hFR (fun i => ((ju_c _ _ (by decide)).trans (rfl))) (fun i => ((ju_c _ _ (by decide)).trans (rfl))) (fun i => ((ju_c _ _ (by decide)).trans (rfl))) ((ju_c _ _ (by decide)).trans (rfl)) (by omega)) (AS.up (AS.o hAS (by decide) (Or.inl (by decide))) (by omega)) (by rw [((ju_c _ _ (by decide)).trans hFv)] <;> omega) (phi.fr (M := M) (M' := (ju M 686 (hv - 1) 0)) ((ju_c _ _ (by decide)).trans (rfl)) (fun i => ((ju_c _ _ (by decide)).trans (rfl)))) (by rw [((ju_c _ _ (by decide)).trans e3)] <;> omega) (by rw [((ju_c _ _ (by decide)).trans hP)] <;> omega) (by omega) (fun _ => by rw [((ju_c _ _ (by decide)).trans hhv), hP, q4]; omega) (by rw [((ju_c _ _ (by decide)).trans hst), ((ju_c _ _ (by decide)).trans e4), hst, hP]; first | (exact Or.inl ⟨by omega, cN⟩) | (exact Or.inr ⟨by omega, by omega⟩))
    · refine jr.lconst (x := 1) rfl (by decide) ?_
      refine jr.goto rfl rfl ?_
      refine jr.last (i := (hv - 1)) (x := 1) rfl (nlt rfl) rfl (Nat.le_of_ble_eq_true rfl) (by omega) (by omega) ?_
      refine jr.goto rfl rfl ?_
      have y5 : (ju M 686 (hv - 1) 1) 598 122 = Fv := ((ju_c _ _ (by decide)).trans hFv)
      obtain ⟨v6, e6⟩ : ∃ z, M 598 136 = z := ⟨_, rfl⟩
      have b6 : 0 ≤ v6 ∧ v6 ≤ 1 := by rw [← e6]; exact hI_M 598 136 (Nat.le_of_ble_eq_true rfl)
      obtain ⟨v7, e7⟩ : ∃ z, M 598 135 = z := ⟨_, rfl⟩
      have b7 : 0 ≤ v7 ∧ v7 ≤ 8 := by rw [← e7]; exact hI_M 598 135 (Nat.le_of_ble_eq_true rfl)
      refine jr.pick (ls := [_]) [2] rfl rfl ?_
      exact r_act_L487 (L := L) (n := n) (ht := ht) q (ju M 686 (hv - 1) 1)  (RI.u hI_M (a := 686) (i := (hv - 1)) (by rw [xri_row rfl rfl]; show (-9223372036854775808 : Int) ≤ _ ∧ _ ≤ (9223372036854775807 : Int); omega)) (RH.o hH_M (by decide) (by decide) (by decide)) (RF.o hS_M (by decide) (by decide))  (fun a i f598 f602 f603 f604 f605 f624 f670 f671 f672 f673 f674 f675 f676 f677 f678 f679 f680 f681 f682 f683 f684 f685 f686 f687 => ((ju_c _ _ f686).trans (hF_M a i f598 f602 f603 f604 f605 f624 f670 f671 f672 f673 f674 f675 f676 f677 f678 f679 f680 f681 f682 f683 f684 f685 f686 f687))) (fun i g6 g10 g11 g12 g59 g60 g61 g62 g63 g64 g65 g66 g110 g112 g122 g131 g132 g134 g135 g136 g137 g138 g139 g143 g145 => ((ju_c _ _ (by decide)).trans (hG_M i g6 g10 g11 g12 g59 g60 g61 g62 g63 g64 g65 g66 g110 g112 g122 g131 g132 g134 g135 g136 g137 g138 g139 g143 g145)))  (FRS.fr hFR (fun i => ((ju_c _ _ (by decide)).trans (rfl))) (fun i => ((ju_c _ _ (by decide)).trans (rfl))) (fun i => ((ju_c _ _ (by decide)).trans (rfl))) ((ju_c _ _ (by decide)).trans (rfl)) (by omega)) (AS.up (AS.o hAS (by decide) (Or.inl (by decide))) (by omega)) (by rw [((ju_c _ _ (by decide)).trans hFv)] <;> omega) (phi.fr (M := M) (M' := (ju M 686 (hv - 1) 1)) ((ju_c _ _ (by decide)).trans (rfl)) (fun i => ((ju_c _ _ (by decide)).trans (rfl)))) (by rw [((ju_c _ _ (by decide)).trans e6)] <;> omega) (by rw [((ju_c _ _ (by decide)).trans hP)] <;> omega) (by omega) (fun _ => by rw [((ju_c _ _ (by decide)).trans hhv), hP, q4]; omega) (by rw [((ju_c _ _ (by decide)).trans hst), ((ju_c _ _ (by decide)).trans e7), hst, hP]; first | (exact Or.inl ⟨by omega, cN⟩) | (exact Or.inr ⟨by omega, by omega⟩))
theorem r_act_L305 {A : Nat → Option (Nat × (Nat → Int32))} {Q : Option Value → jm → Prop} {L n : Int} {ht : Int → Int} {M0 : jm} (q : ∀ (M' : jm), RI M' → RH M' → RF M' → AS M' (L + 1) → ((M' 598 136 = 1 ∧ M' 598 135 = 0) ∨ (M' 598 136 = 0 ∧ FRS M' ht n (M' 598 122) ∧ 1 ≤ M' 598 122 ∧ M' 598 122 ≤ 8 ∧ ((M' 598 135 ≠ 0 ∧ phi M' = phi M0 ∧ M' 598 143 = M0 598 143) ∨ (M' 598 135 = 0 ∧ 0 ≤ M' 598 132 ∧ M' 598 132 < n ∧ M' 598 131 = ht (M' 598 132) ∧ mu M' < mu M0)))) → (∀ (a : Nat) (i : Int), a ≠ 598 → a ≠ 602 → a ≠ 603 → a ≠ 604 → a ≠ 605 → a ≠ 624 → a ≠ 670 → a ≠ 671 → a ≠ 672 → a ≠ 673 → a ≠ 674 → a ≠ 675 → a ≠ 676 → a ≠ 677 → a ≠ 678 → a ≠ 679 → a ≠ 680 → a ≠ 681 → a ≠ 682 → a ≠ 683 → a ≠ 684 → a ≠ 685 → a ≠ 686 → a ≠ 687 → M' a i = M0 a i) → (∀ (i : Int), i ≠ 6 → i ≠ 10 → i ≠ 11 → i ≠ 12 → i ≠ 59 → i ≠ 60 → i ≠ 61 → i ≠ 62 → i ≠ 63 → i ≠ 64 → i ≠ 65 → i ≠ 66 → i ≠ 110 → i ≠ 112 → i ≠ 122 → i ≠ 131 → i ≠ 132 → i ≠ 134 → i ≠ 135 → i ≠ 136 → i ≠ 137 → i ≠ 138 → i ≠ 139 → i ≠ 143 → i ≠ 145 → M' 598 i = M0 598 i) → Q none M') : ∀ (M : jm) (a : Int) (o : Int), RI M → RH M → RF M → (∀ (a : Nat) (i : Int), a ≠ 598 → a ≠ 602 → a ≠ 603 → a ≠ 604 → a ≠ 605 → a ≠ 624 → a ≠ 670 → a ≠ 671 → a ≠ 672 → a ≠ 673 → a ≠ 674 → a ≠ 675 → a ≠ 676 → a ≠ 677 → a ≠ 678 → a ≠ 679 → a ≠ 680 → a ≠ 681 → a ≠ 682 → a ≠ 683 → a ≠ 684 → a ≠ 685 → a ≠ 686 → a ≠ 687 → M a i = M0 a i) → (∀ (i : Int), i ≠ 6 → i ≠ 10 → i ≠ 11 → i ≠ 12 → i ≠ 59 → i ≠ 60 → i ≠ 61 → i ≠ 62 → i ≠ 63 → i ≠ 64 → i ≠ 65 → i ≠ 66 → i ≠ 110 → i ≠ 112 → i ≠ 122 → i ≠ 131 → i ≠ 132 → i ≠ 134 → i ≠ 135 → i ≠ 136 → i ≠ 137 → i ≠ 138 → i ≠ 139 → i ≠ 143 → i ≠ 145 → M 598 i = M0 598 i) → (-9223372036854775808) ≤ a ∧ a ≤ 9223372036854775807 → 0 ≤ o ∧ o ≤ 1000 → MX M ht n → FRS M ht n (M 598 122) → 1 ≤ M 598 122 ∧ M 598 122 ≤ 8 → AS M L → L ≤ 1999999999 → (0 ≤ M 598 132 ∧ M 598 132 < n) → M 598 131 = ht (M 598 132) → o = M 654 (M 598 132) → a = M 655 (M 598 132) → (M 598 135 = 0 ∧ M 598 136 = 0) → M = M0 → o = 6 → jr A 9 xm_380 305 [(2, .long (Int64.ofInt (a))), (1, .int (Int32.ofInt (o))), (0, .ref (598))] [] M Q := by
    intro M a o hI_M hH_M hS_M hF_M hG_M h_a h_o hy0 hy1 hy2 hy3 hy4 hy5 hy6 hy7 hy8 hy9 hy10 hy11
    have hyM := hy10
    have ho := hy11
    have hp0 := hy0
    have hp1 := hy1
    have hp2 := hy2
    have hp3 := hy3
    have hp4 := hy4
    have hp5 := hy5
    have hp6 := hy6
    have hp7 := hy7
    have hp8 := hy8
    have hp9 := hy9
    subst hyM
    have p0 := hp0
    have p1 := hp1
    have p2 := hp2
    have p3 := hp3
    have p4 := hp4
    have p5 := hp5
    have p6 := hp6
    have p7 := hp7
    have p8 := hp8
    have p9 := hp9
    have hMX := p0
    have hFR := p1
    have hAS := p3
    obtain ⟨P, hP⟩ : ∃ z, M 598 132 = z := ⟨_, rfl⟩
    rw [hP] at p5 p6 p7 p8
    have nb := hMX.1
    have nb2 := hMX.2.1
    obtain ⟨⟨q1, q2, q3, q4, q5, q6⟩, q7, q8, q9⟩ := hMX.2.2.1 P p5.1 p5.2
    rw [← p7] at q3 q4 q5 q6 q7 q8 q9
    rw [← p8] at q7 q8 q9
    have nd : ndo o = 0 := by
      first | (rw [ho]; decide) | (rcases ho with z | z <;> rw [z] <;> decide)
    have dl : dlo o = 1 := by
      first | (rw [ho]; decide) | (rcases ho with z | z <;> rw [z] <;> decide)
    rw [dl] at q4
    rw [nd] at q5
    clear q7
    have pn : P + 1 < n := by
      by_cases y : P = n - 1
      · exfalso
        have z2 := hMX.2.2.2.2
        rw [← y, ← p7] at z2
        omega
      · omega
    have cN : cr (M 654) (P + 1) = 0 := MX.cr0 hMX (by omega) pn (by rw [show P + 1 - 1 = P by omega, ← p7]; omega)
    obtain ⟨Fv, hFv⟩ : ∃ z, M 598 122 = z := ⟨_, rfl⟩
    obtain ⟨hv, hhv⟩ : ∃ z, M 598 131 = z := ⟨_, rfl⟩
    rw [hhv] at p6
    clear q3
    obtain ⟨st, hst⟩ : ∃ z, M 598 143 = z := ⟨_, rfl⟩
    have bst : (0 : Int) ≤ st ∧ st ≤ 300 := by rw [← hst]; exact hI_M 598 143 (Nat.le_of_ble_eq_true rfl)
    have cl := cr_le (M 654) P
    refine jr.aload_n rfl rfl ?_
    refine jr.getf (i := 130) (v := .ref 686) rfl rfl (nlt rfl) rfl (nlt rfl) rfl rfl rfl rfl ?_
    refine jr.aload_n rfl rfl ?_
    refine jr.getf (i := 131) (x := hv) (v := .int (Int32.ofInt (hv))) rfl rfl (nlt rfl) rfl (nlt rfl) rfl rfl hhv rfl ?_
    refine jr.aload_n rfl rfl ?_
    refine jr.lload_n rfl rfl ?_
    refine jr.l2i rfl ?_
    refine jr.iw (j_w a) (j_w_eq _) ?_
    have b1 : -2147483648 ≤ j_w a ∧ j_w a ≤ 2147483647 := jb_any _
    generalize j_w a = v1 at b1 ⊢
    refine jr_v rfl rfl (Or.inl rfl) rfl rfl (nlt rfl) rfl ⟨rfl, Nat.le_of_ble_eq_true rfl, Nat.le_of_ble_eq_true rfl⟩ rfl (jc.deep (r_first hI_M hH_M hS_M (Kp.rfl _) (by omega)  (fun r2 M2 hI_M2 hH_M2 hS_M2 ht_M2 z2 w2_0 w2_1 w2_2 => ?_)) (Nat.le_of_ble_eq_true rfl))
    refine jr.iconst rfl ?_
    refine jr.icmp_ne rfl rfl (by first | (refine rgb (by assumption) ?_; exact rfl) | omega) (rgl rfl) (fun h320 => ?_) (fun h320 => ?_)
    · have sx320 : (0 : Int) ≤ r2 := by omega
      clear h320
      refine jr.lconst (x := 1) rfl (by decide) ?_
      refine jr.last (i := hv) (x := 1) rfl (nlt rfl) rfl (Nat.le_of_ble_eq_true rfl) (by omega) (by omega) ?_
      refine jr.aload_n rfl rfl ?_
      refine jr.dup rfl rfl ?_
      have e3 : M2 598 131 = hv := ((w2_2 131 (zne rfl) (zne rfl) (zne rfl) (zne rfl)).trans hhv)
      refine jr.getf (i := 131) (x := hv) (v := .int (Int32.ofInt (hv))) rfl rfl (nlt rfl) rfl (nlt rfl) rfl rfl ((ju_c _ _ (by decide)).trans e3) rfl ?_
      refine jr.iconst rfl ?_
      refine jr.iadd rfl ?_
      refine jr.putf (i := 131) (x := (hv + 1)) rfl rfl (nlt rfl) rfl (nlt rfl) rfl rfl rfl rfl rfl ?_
      refine jr.goto rfl rfl ?_
      have e4 : M2 598 122 = Fv := ((w2_2 122 (zne rfl) (zne rfl) (zne rfl) (zne rfl)).trans hFv)
      have y5 : (ju (ju M2 686 hv 1) 598 131 (hv + 1)) 598 122 = Fv := ((ju_i _ _ (zne (by decide))).trans ((ju_c _ _ (by decide)).trans e4))
      obtain ⟨v6, e6⟩ : ∃ z, M 598 136 = z := ⟨_, rfl⟩
      have b6 : 0 ≤ v6 ∧ v6 ≤ 1 := by rw [← e6]; exact hI_M 598 136 (Nat.le_of_ble_eq_true rfl)
      have e7 : M2 598 136 = v6 := ((w2_2 136 (zne rfl) (zne rfl) (zne rfl) (zne rfl)).trans e6)
      have e8 : M2 598 132 = P := ((w2_2 132 (zne rfl) (zne rfl) (zne rfl) (zne rfl)).trans hP)
      obtain ⟨v9, e9⟩ : ∃ z, M 598 135 = z := ⟨_, rfl⟩
      have b9 : 0 ≤ v9 ∧ v9 ≤ 8 := by rw [← e9]; exact hI_M 598 135 (Nat.le_of_ble_eq_true rfl)
      have e10 : M2 598 135 = v9 := ((w2_2 135 (zne rfl) (zne rfl) (zne rfl) (zne rfl)).trans e9)
      have e11 : M2 598 143 = st := ((w2_2 143 (zne rfl) (zne rfl) (zne rfl) (zne rfl)).trans hst)
      refine jr.pick (ls := [_]) [2] rfl rfl ?_
      exact r_act_L487 (L := L) (n := n) (ht := ht) q (ju (ju M2 686 hv 1) 598 131 (hv + 1))  (RI.u (RI.u hI_M2 (a := 686) (i := hv) (by rw [xri_row rfl rfl]; show (-9223372036854775808 : Int) ≤ _ ∧ _ ≤ (9223372036854775807 : Int); omega)) (a := 598) (i := 131) (show (0 : Int) ≤ _ ∧ _ ≤ (400 : Int) from by omega)) (RH.o (RH.o hH_M2 (by decide) (by decide) (by decide)) (by decide) (by decide) (by decide)) (RF.o (RF.o hS_M2 (by decide) (by decide)) (by decide) (by decide))  (fun a i f598 f602 f603 f604 f605 f624 f670 f671 f672 f673 f674 f675 f676 f677 f678 f679 f680 f681 f682 f683 f684 f685 f686 f687 => ((ju_c _ _ f598).trans ((ju_c _ _ f686).trans ((w2_1 a i f598 f603 f604 f605).trans (hF_M a i f598 f602 f603 f604 f605 f624 f670 f671 f672 f673 f674 f675 f676 f677 f678 f679 f680 f681 f682 f683 f684 f685 f686 f687))))) (fun i g6 g10 g11 g12 g59 g60 g61 g62 g63 g64 g65 g66 g110 g112 g122 g131 g132 g134 g135 g136 g137 g138 g139 g143 g145 => ((ju_i _ _ g131).trans ((ju_c _ _ (by decide)).trans ((w2_2 i g6 g10 g11 g12).trans (hG_M i g6 g10 g11 g12 g59 g60 g61 g62 g63 g64 g65 g66 g110 g112 g122 g131 g132 g134 g135 g136 g137 g138 g139 g143 g145)))))  (FRS.fr hFR (fun i => ((ju_c _ _ (by decide)).trans ((ju_c _ _ (by decide)).trans ((w2_1 679 i (nne rfl) (nne rfl) (nne rfl) (nne rfl)).trans (rfl))))) (fun i => ((ju_c _ _ (by decide)).trans ((ju_c _ _ (by decide)).trans ((w2_1 681 i (nne rfl) (nne rfl) (nne rfl) (nne rfl)).trans (rfl))))) (fun i => ((ju_c _ _ (by decide)).trans ((ju_c _ _ (by decide)).trans ((w2_1 654 i (nne rfl) (nne rfl) (nne rfl) (nne rfl)).trans (rfl))))) ((ju_i _ _ (zne (by decide))).trans ((ju_c _ _ (by decide)).trans ((w2_2 82 (zne rfl) (zne rfl) (zne rfl) (zne rfl)).trans (rfl)))) (by omega)) (AS.up (AS.o (AS.o (AS.fr hAS (fun i => (ht_M2 685 i rfl)) (ht_M2 598 112 rfl)) (by decide) (Or.inl (by decide))) (by decide) (Or.inr (by decide))) (by omega)) (by rw [((ju_i _ _ (zne (by decide))).trans ((ju_c _ _ (by decide)).trans e4))] <;> omega) (phi.fr (M := M) (M' := (ju (ju M2 686 hv 1) 598 131 (hv + 1))) ((ju_i _ _ (zne (by decide))).trans ((ju_c _ _ (by decide)).trans ((w2_2 122 (zne rfl) (zne rfl) (zne rfl) (zne rfl)).trans (rfl)))) (fun i => ((ju_c _ _ (by decide)).trans ((ju_c _ _ (by decide)).trans ((w2_1 680 i (nne rfl) (nne rfl) (nne rfl) (nne rfl)).trans (rfl)))))) (by rw [((ju_i _ _ (zne (by decide))).trans ((ju_c _ _ (by decide)).trans e7))] <;> omega) (by rw [((ju_i _ _ (zne (by decide))).trans ((ju_c _ _ (by decide)).trans e8))] <;> omega) (by omega) (fun _ => by rw [(ju_same _ _ _ _), hP, q4]; omega) (by rw [((ju_i _ _ (zne (by decide))).trans ((ju_c _ _ (by decide)).trans e11)), ((ju_i _ _ (zne (by decide))).trans ((ju_c _ _ (by decide)).trans e10)), hst, hP]; first | (exact Or.inl ⟨by omega, cN⟩) | (exact Or.inr ⟨by omega, by omega⟩))
    · refine jr.lconst (x := 0) rfl (by decide) ?_
      refine jr.goto rfl rfl ?_
      refine jr.last (i := hv) (x := 0) rfl (nlt rfl) rfl (Nat.le_of_ble_eq_true rfl) (by omega) (by omega) ?_
      refine jr.aload_n rfl rfl ?_
      refine jr.dup rfl rfl ?_
      have e12 : M2 598 131 = hv := ((w2_2 131 (zne rfl) (zne rfl) (zne rfl) (zne rfl)).trans hhv)
      refine jr.getf (i := 131) (x := hv) (v := .int (Int32.ofInt (hv))) rfl rfl (nlt rfl) rfl (nlt rfl) rfl rfl ((ju_c _ _ (by decide)).trans e12) rfl ?_
      refine jr.iconst rfl ?_
      refine jr.iadd rfl ?_
      refine jr.putf (i := 131) (x := (hv + 1)) rfl rfl (nlt rfl) rfl (nlt rfl) rfl rfl rfl rfl rfl ?_
      refine jr.goto rfl rfl ?_
      have e13 : M2 598 122 = Fv := ((w2_2 122 (zne rfl) (zne rfl) (zne rfl) (zne rfl)).trans hFv)
      have y14 : (ju (ju M2 686 hv 0) 598 131 (hv + 1)) 598 122 = Fv := ((ju_i _ _ (zne (by decide))).trans ((ju_c _ _ (by decide)).trans e13))
      obtain ⟨v15, e15⟩ : ∃ z, M 598 136 = z := ⟨_, rfl⟩
      have b15 : 0 ≤ v15 ∧ v15 ≤ 1 := by rw [← e15]; exact hI_M 598 136 (Nat.le_of_ble_eq_true rfl)
      have e16 : M2 598 136 = v15 := ((w2_2 136 (zne rfl) (zne rfl) (zne rfl) (zne rfl)).trans e15)
      have e17 : M2 598 132 = P := ((w2_2 132 (zne rfl) (zne rfl) (zne rfl) (zne rfl)).trans hP)
      obtain ⟨v18, e18⟩ : ∃ z, M 598 135 = z := ⟨_, rfl⟩
      have b18 : 0 ≤ v18 ∧ v18 ≤ 8 := by rw [← e18]; exact hI_M 598 135 (Nat.le_of_ble_eq_true rfl)
      have e19 : M2 598 135 = v18 := ((w2_2 135 (zne rfl) (zne rfl) (zne rfl) (zne rfl)).trans e18)
      have e20 : M2 598 143 = st := ((w2_2 143 (zne rfl) (zne rfl) (zne rfl) (zne rfl)).trans hst)
      refine jr.pick (ls := [_]) [2] rfl rfl ?_
      exact r_act_L487 (L := L) (n := n) (ht := ht) q (ju (ju M2 686 hv 0) 598 131 (hv + 1))  (RI.u (RI.u hI_M2 (a := 686) (i := hv) (by rw [xri_row rfl rfl]; show (-9223372036854775808 : Int) ≤ _ ∧ _ ≤ (9223372036854775807 : Int); omega)) (a := 598) (i := 131) (show (0 : Int) ≤ _ ∧ _ ≤ (400 : Int) from by omega)) (RH.o (RH.o hH_M2 (by decide) (by decide) (by decide)) (by decide) (by decide) (by decide)) (RF.o (RF.o hS_M2 (by decide) (by decide)) (by decide) (by decide))  (fun a i f598 f602 f603 f604 f605 f624 f670 f671 f672 f673 f674 f675 f676 f677 f678 f679 f680 f681 f682 f683 f684 f685 f686 f687 => ((ju_c _ _ f598).trans ((ju_c _ _ f686).trans ((w2_1 a i f598 f603 f604 f605).trans (hF_M a i f598 f602 f603 f604 f605 f624 f670 f671 f672 f673 f674 f675 f676 f677 f678 f679 f680 f681 f682 f683 f684 f685 f686 f687))))) (fun i g6 g10 g11 g12 g59 g60 g61 g62 g63 g64 g65 g66 g110 g112 g122 g131 g132 g134 g135 g136 g137 g138 g139 g143 g145 => ((ju_i _ _ g131).trans ((ju_c _ _ (by decide)).trans ((w2_2 i g6 g10 g11 g12).trans (hG_M i g6 g10 g11 g12 g59 g60 g61 g62 g63 g64 g65 g66 g110 g112 g122 g131 g132 g134 g135 g136 g137 g138 g139 g143 g145)))))  (FRS.fr hFR (fun i => ((ju_c _ _ (by decide)).trans ((ju_c _ _ (by decide)).trans ((w2_1 679 i (nne rfl) (nne rfl) (nne rfl) (nne rfl)).trans (rfl))))) (fun i => ((ju_c _ _ (by decide)).trans ((ju_c _ _ (by decide)).trans ((w2_1 681 i (nne rfl) (nne rfl) (nne rfl) (nne rfl)).trans (rfl))))) (fun i => ((ju_c _ _ (by decide)).trans ((ju_c _ _ (by decide)).trans ((w2_1 654 i (nne rfl) (nne rfl) (nne rfl) (nne rfl)).trans (rfl))))) ((ju_i _ _ (zne (by decide))).trans ((ju_c _ _ (by decide)).trans ((w2_2 82 (zne rfl) (zne rfl) (zne rfl) (zne rfl)).trans (rfl)))) (by omega)) (AS.up (AS.o (AS.o (AS.fr hAS (fun i => (ht_M2 685 i rfl)) (ht_M2 598 112 rfl)) (by decide) (Or.inl (by decide))) (by decide) (Or.inr (by decide))) (by omega)) (by rw [((ju_i _ _ (zne (by decide))).trans ((ju_c _ _ (by decide)).trans e13))] <;> omega) (phi.fr (M := M) (M' := (ju (ju M2 686 hv 0) 598 131 (hv + 1))) ((ju_i _ _ (zne (by decide))).trans ((ju_c _ _ (by decide)).trans ((w2_2 122 (zne rfl) (zne rfl) (zne rfl) (zne rfl)).trans (rfl)))) (fun i => ((ju_c _ _ (by decide)).trans ((ju_c _ _ (by decide)).trans ((w2_1 680 i (nne rfl) (nne rfl) (nne rfl) (nne rfl)).trans (rfl)))))) (by rw [((ju_i _ _ (zne (by decide))).trans ((ju_c _ _ (by decide)).trans e16))] <;> omega) (by rw [((ju_i _ _ (zne (by decide))).trans ((ju_c _ _ (by decide)).trans e17))] <;> omega) (by omega) (fun _ => by rw [(ju_same _ _ _ _), hP, q4]; omega) (by rw [((ju_i _ _ (zne (by decide))).trans ((ju_c _ _ (by decide)).trans e20)), ((ju_i _ _ (zne (by decide))).trans ((ju_c _ _ (by decide)).trans e19)), hst, hP]; first | (exact Or.inl ⟨by omega, cN⟩) | (exact Or.inr ⟨by omega, by omega⟩))
theorem r_act_L269 {A : Nat → Option (Nat × (Nat → Int32))} {Q : Option Value → jm → Prop} {L n : Int} {ht : Int → Int} {M0 : jm} (q : ∀ (M' : jm), RI M' → RH M' → RF M' → AS M' (L + 1) → ((M' 598 136 = 1 ∧ M' 598 135 = 0) ∨ (M' 598 136 = 0 ∧ FRS M' ht n (M' 598 122) ∧ 1 ≤ M' 598 122 ∧ M' 598 122 ≤ 8 ∧ ((M' 598 135 ≠ 0 ∧ phi M' = phi M0 ∧ M' 598 143 = M0 598 143) ∨ (M' 598 135 = 0 ∧ 0 ≤ M' 598 132 ∧ M' 598 132 < n ∧ M' 598 131 = ht (M' 598 132) ∧ mu M' < mu M0)))) → (∀ (a : Nat) (i : Int), a ≠ 598 → a ≠ 602 → a ≠ 603 → a ≠ 604 → a ≠ 605 → a ≠ 624 → a ≠ 670 → a ≠ 671 → a ≠ 672 → a ≠ 673 → a ≠ 674 → a ≠ 675 → a ≠ 676 → a ≠ 677 → a ≠ 678 → a ≠ 679 → a ≠ 680 → a ≠ 681 → a ≠ 682 → a ≠ 683 → a ≠ 684 → a ≠ 685 → a ≠ 686 → a ≠ 687 → M' a i = M0 a i) → (∀ (i : Int), i ≠ 6 → i ≠ 10 → i ≠ 11 → i ≠ 12 → i ≠ 59 → i ≠ 60 → i ≠ 61 → i ≠ 62 → i ≠ 63 → i ≠ 64 → i ≠ 65 → i ≠ 66 → i ≠ 110 → i ≠ 112 → i ≠ 122 → i ≠ 131 → i ≠ 132 → i ≠ 134 → i ≠ 135 → i ≠ 136 → i ≠ 137 → i ≠ 138 → i ≠ 139 → i ≠ 143 → i ≠ 145 → M' 598 i = M0 598 i) → Q none M') : ∀ (M : jm) (a : Int) (o : Int), RI M → RH M → RF M → (∀ (a : Nat) (i : Int), a ≠ 598 → a ≠ 602 → a ≠ 603 → a ≠ 604 → a ≠ 605 → a ≠ 624 → a ≠ 670 → a ≠ 671 → a ≠ 672 → a ≠ 673 → a ≠ 674 → a ≠ 675 → a ≠ 676 → a ≠ 677 → a ≠ 678 → a ≠ 679 → a ≠ 680 → a ≠ 681 → a ≠ 682 → a ≠ 683 → a ≠ 684 → a ≠ 685 → a ≠ 686 → a ≠ 687 → M a i = M0 a i) → (∀ (i : Int), i ≠ 6 → i ≠ 10 → i ≠ 11 → i ≠ 12 → i ≠ 59 → i ≠ 60 → i ≠ 61 → i ≠ 62 → i ≠ 63 → i ≠ 64 → i ≠ 65 → i ≠ 66 → i ≠ 110 → i ≠ 112 → i ≠ 122 → i ≠ 131 → i ≠ 132 → i ≠ 134 → i ≠ 135 → i ≠ 136 → i ≠ 137 → i ≠ 138 → i ≠ 139 → i ≠ 143 → i ≠ 145 → M 598 i = M0 598 i) → (-9223372036854775808) ≤ a ∧ a ≤ 9223372036854775807 → 0 ≤ o ∧ o ≤ 1000 → MX M ht n → FRS M ht n (M 598 122) → 1 ≤ M 598 122 ∧ M 598 122 ≤ 8 → AS M L → L ≤ 1999999999 → (0 ≤ M 598 132 ∧ M 598 132 < n) → M 598 131 = ht (M 598 132) → o = M 654 (M 598 132) → a = M 655 (M 598 132) → (M 598 135 = 0 ∧ M 598 136 = 0) → M = M0 → o = 5 → jr A 9 xm_380 269 [(2, .long (Int64.ofInt (a))), (1, .int (Int32.ofInt (o))), (0, .ref (598))] [] M Q := by
    intro M a o hI_M hH_M hS_M hF_M hG_M h_a h_o hy0 hy1 hy2 hy3 hy4 hy5 hy6 hy7 hy8 hy9 hy10 hy11
    have hyM := hy10
    have ho := hy11
    have hp0 := hy0
    have hp1 := hy1
    have hp2 := hy2
    have hp3 := hy3
    have hp4 := hy4
    have hp5 := hy5
    have hp6 := hy6
    have hp7 := hy7
    have hp8 := hy8
    have hp9 := hy9
    subst hyM
    have p0 := hp0
    have p1 := hp1
    have p2 := hp2
    have p3 := hp3
    have p4 := hp4
    have p5 := hp5
    have p6 := hp6
    have p7 := hp7
    have p8 := hp8
    have p9 := hp9
    have hMX := p0
    have hFR := p1
    have hAS := p3
    obtain ⟨P, hP⟩ : ∃ z, M 598 132 = z := ⟨_, rfl⟩
    rw [hP] at p5 p6 p7 p8
    have nb := hMX.1
    have nb2 := hMX.2.1
    obtain ⟨⟨q1, q2, q3, q4, q5, q6⟩, q7, q8, q9⟩ := hMX.2.2.1 P p5.1 p5.2
    rw [← p7] at q3 q4 q5 q6 q7 q8 q9
    rw [← p8] at q7 q8 q9
    have nd : ndo o = 0 := by
      first | (rw [ho]; decide) | (rcases ho with z | z <;> rw [z] <;> decide)
    have dl : dlo o = 1 := by
      first | (rw [ho]; decide) | (rcases ho with z | z <;> rw [z] <;> decide)
    rw [dl] at q4
    rw [nd] at q5
    clear q7
    have pn : P + 1 < n := by
      by_cases y : P = n - 1
      · exfalso
        have z2 := hMX.2.2.2.2
        rw [← y, ← p7] at z2
        omega
      · omega
    have cN : cr (M 654) (P + 1) = 0 := MX.cr0 hMX (by omega) pn (by rw [show P + 1 - 1 = P by omega, ← p7]; omega)
    have fv : 0 ≤ a ∧ a ≤ 218 := by
      obtain ⟨k, f, e, f0, f1, k0, k1, k2, k3⟩ := q8 ho
      omega
    obtain ⟨Fv, hFv⟩ : ∃ z, M 598 122 = z := ⟨_, rfl⟩
    obtain ⟨hv, hhv⟩ : ∃ z, M 598 131 = z := ⟨_, rfl⟩
    rw [hhv] at p6
    clear q3
    obtain ⟨st, hst⟩ : ∃ z, M 598 143 = z := ⟨_, rfl⟩
    have bst : (0 : Int) ≤ st ∧ st ≤ 300 := by rw [← hst]; exact hI_M 598 143 (Nat.le_of_ble_eq_true rfl)
    have cl := cr_le (M 654) P
    refine jr.aload_n rfl rfl ?_
    refine jr.getf (i := 130) (v := .ref 686) rfl rfl (nlt rfl) rfl (nlt rfl) rfl rfl rfl rfl ?_
    refine jr.aload_n rfl rfl ?_
    refine jr.getf (i := 131) (x := hv) (v := .int (Int32.ofInt (hv))) rfl rfl (nlt rfl) rfl (nlt rfl) rfl rfl hhv rfl ?_
    refine jr.aload_n rfl rfl ?_
    refine jr.lload_n rfl rfl ?_
    refine jr.l2i rfl ?_
    refine jr.bipush rfl (jbp _ (nlt rfl)) ?_
    refine jr.idiv rfl (by decide) ?_
    have b1 : j_div a 16 = a / 16 := j_div_ex (by omega) (by omega)
    generalize j_div a 16 = v1 at b1 ⊢
    refine jr.lload_n rfl rfl ?_
    refine jr.l2i rfl ?_
    refine jr.bipush rfl (jbp _ (nlt rfl)) ?_
    refine jr.irem rfl (by decide) ?_
    have b2 : j_rem a 16 = a % 16 := j_rem_ex (by omega) (by omega)
    generalize j_rem a 16 = v2 at b2 ⊢
    refine jr_v rfl rfl (Or.inl rfl) rfl rfl (nlt rfl) rfl ⟨rfl, Nat.le_of_ble_eq_true rfl, Nat.le_of_ble_eq_true rfl⟩ rfl (jc.deep (r_fieldOf hI_M hH_M hS_M  (by omega) (by omega) (by obtain ⟨k, f, e, f0, f1, k0, k1, k2, k3⟩ := q8 (by omega); have e1 : v1 = k := (by omega); have e2 : v2 = f := (by omega); rw [e1, e2]; exact ⟨k2, k3⟩) (fun r3 M3 hI_M3 hH_M3 hS_M3  z3 w3_0 w3_1 => ?_)) (Nat.le_of_ble_eq_true rfl))
    refine jr.last (i := hv) (x := r3) rfl (nlt rfl) rfl (Nat.le_of_ble_eq_true rfl) (by omega) (by omega) ?_
    refine jr.aload_n rfl rfl ?_
    refine jr.dup rfl rfl ?_
    have e4 : M3 598 131 = hv := ((w3_1 131 (zne rfl) (zne rfl) (zne rfl) (zne rfl) (zne rfl)).trans hhv)
    refine jr.getf (i := 131) (x := hv) (v := .int (Int32.ofInt (hv))) rfl rfl (nlt rfl) rfl (nlt rfl) rfl rfl ((ju_c _ _ (by decide)).trans e4) rfl ?_
    refine jr.iconst rfl ?_
    refine jr.iadd rfl ?_
    refine jr.putf (i := 131) (x := (hv + 1)) rfl rfl (nlt rfl) rfl (nlt rfl) rfl rfl rfl rfl rfl ?_
    refine jr.goto rfl rfl ?_
    have e5 : M3 598 122 = Fv := ((w3_1 122 (zne rfl) (zne rfl) (zne rfl) (zne rfl) (zne rfl)).trans hFv)
    have y6 : (ju (ju M3 686 hv r3) 598 131 (hv + 1)) 598 122 = Fv := ((ju_i _ _ (zne (by decide))).trans ((ju_c _ _ (by decide)).trans e5))
    obtain ⟨v7, e7⟩ : ∃ z, M 598 136 = z := ⟨_, rfl⟩
    have b7 : 0 ≤ v7 ∧ v7 ≤ 1 := by rw [← e7]; exact hI_M 598 136 (Nat.le_of_ble_eq_true rfl)
    have e8 : M3 598 136 = v7 := ((w3_1 136 (zne rfl) (zne rfl) (zne rfl) (zne rfl) (zne rfl)).trans e7)
    have e9 : M3 598 132 = P := ((w3_1 132 (zne rfl) (zne rfl) (zne rfl) (zne rfl) (zne rfl)).trans hP)
    obtain ⟨v10, e10⟩ : ∃ z, M3 598 135 = z := ⟨_, rfl⟩
    have b10 : 0 ≤ v10 ∧ v10 ≤ 8 := by rw [← e10]; exact hI_M3 598 135 (Nat.le_of_ble_eq_true rfl)
    have e11 : M3 598 143 = st := ((w3_1 143 (zne rfl) (zne rfl) (zne rfl) (zne rfl) (zne rfl)).trans hst)
    refine jr.pick (ls := [_]) [2] rfl rfl ?_
    exact r_act_L487 (L := L) (n := n) (ht := ht) q (ju (ju M3 686 hv r3) 598 131 (hv + 1))  (RI.u (RI.u hI_M3 (a := 686) (i := hv) (by rw [xri_row rfl rfl]; show (-9223372036854775808 : Int) ≤ _ ∧ _ ≤ (9223372036854775807 : Int); omega)) (a := 598) (i := 131) (show (0 : Int) ≤ _ ∧ _ ≤ (400 : Int) from by omega)) (RH.o (RH.o hH_M3 (by decide) (by decide) (by decide)) (by decide) (by decide) (by decide)) (RF.o (RF.o hS_M3 (by decide) (by decide)) (by decide) (by decide))  (fun a i f598 f602 f603 f604 f605 f624 f670 f671 f672 f673 f674 f675 f676 f677 f678 f679 f680 f681 f682 f683 f684 f685 f686 f687 => ((ju_c _ _ f598).trans ((ju_c _ _ f686).trans ((w3_0 a i f598 f603 f604 f605).trans (hF_M a i f598 f602 f603 f604 f605 f624 f670 f671 f672 f673 f674 f675 f676 f677 f678 f679 f680 f681 f682 f683 f684 f685 f686 f687))))) (fun i g6 g10 g11 g12 g59 g60 g61 g62 g63 g64 g65 g66 g110 g112 g122 g131 g132 g134 g135 g136 g137 g138 g139 g143 g145 => ((ju_i _ _ g131).trans ((ju_c _ _ (by decide)).trans ((w3_1 i g6 g10 g11 g12 g135).trans (hG_M i g6 g10 g11 g12 g59 g60 g61 g62 g63 g64 g65 g66 g110 g112 g122 g131 g132 g134 g135 g136 g137 g138 g139 g143 g145)))))  (FRS.fr hFR (fun i => ((ju_c _ _ (by decide)).trans ((ju_c _ _ (by decide)).trans ((w3_0 679 i (nne rfl) (nne rfl) (nne rfl) (nne rfl)).trans (rfl))))) (fun i => ((ju_c _ _ (by decide)).trans ((ju_c _ _ (by decide)).trans ((w3_0 681 i (nne rfl) (nne rfl) (nne rfl) (nne rfl)).trans (rfl))))) (fun i => ((ju_c _ _ (by decide)).trans ((ju_c _ _ (by decide)).trans ((w3_0 654 i (nne rfl) (nne rfl) (nne rfl) (nne rfl)).trans (rfl))))) ((ju_i _ _ (zne (by decide))).trans ((ju_c _ _ (by decide)).trans ((w3_1 82 (zne rfl) (zne rfl) (zne rfl) (zne rfl) (zne rfl)).trans (rfl)))) (by omega)) (AS.up (AS.o (AS.o (AS.fr hAS (fun i => w3_0 685 i (nne rfl) (nne rfl) (nne rfl) (nne rfl)) (w3_1 112 (zne rfl) (zne rfl) (zne rfl) (zne rfl) (zne rfl))) (by decide) (Or.inl (by decide))) (by decide) (Or.inr (by decide))) (by omega)) (by rw [((ju_i _ _ (zne (by decide))).trans ((ju_c _ _ (by decide)).trans e5))] <;> omega) (phi.fr (M := M) (M' := (ju (ju M3 686 hv r3) 598 131 (hv + 1))) ((ju_i _ _ (zne (by decide))).trans ((ju_c _ _ (by decide)).trans ((w3_1 122 (zne rfl) (zne rfl) (zne rfl) (zne rfl) (zne rfl)).trans (rfl)))) (fun i => ((ju_c _ _ (by decide)).trans ((ju_c _ _ (by decide)).trans ((w3_0 680 i (nne rfl) (nne rfl) (nne rfl) (nne rfl)).trans (rfl)))))) (by rw [((ju_i _ _ (zne (by decide))).trans ((ju_c _ _ (by decide)).trans e8))] <;> omega) (by rw [((ju_i _ _ (zne (by decide))).trans ((ju_c _ _ (by decide)).trans e9))] <;> omega) (by omega) (fun _ => by rw [(ju_same _ _ _ _), hP, q4]; omega) (by rw [((ju_i _ _ (zne (by decide))).trans ((ju_c _ _ (by decide)).trans e11)), ((ju_i _ _ (zne (by decide))).trans ((ju_c _ _ (by decide)).trans e10)), hst, hP]; first | (exact Or.inl ⟨by omega, cN⟩) | (exact Or.inr ⟨by omega, by omega⟩))
theorem r_act_L246 {A : Nat → Option (Nat × (Nat → Int32))} {Q : Option Value → jm → Prop} {L n : Int} {ht : Int → Int} {M0 : jm} (q : ∀ (M' : jm), RI M' → RH M' → RF M' → AS M' (L + 1) → ((M' 598 136 = 1 ∧ M' 598 135 = 0) ∨ (M' 598 136 = 0 ∧ FRS M' ht n (M' 598 122) ∧ 1 ≤ M' 598 122 ∧ M' 598 122 ≤ 8 ∧ ((M' 598 135 ≠ 0 ∧ phi M' = phi M0 ∧ M' 598 143 = M0 598 143) ∨ (M' 598 135 = 0 ∧ 0 ≤ M' 598 132 ∧ M' 598 132 < n ∧ M' 598 131 = ht (M' 598 132) ∧ mu M' < mu M0)))) → (∀ (a : Nat) (i : Int), a ≠ 598 → a ≠ 602 → a ≠ 603 → a ≠ 604 → a ≠ 605 → a ≠ 624 → a ≠ 670 → a ≠ 671 → a ≠ 672 → a ≠ 673 → a ≠ 674 → a ≠ 675 → a ≠ 676 → a ≠ 677 → a ≠ 678 → a ≠ 679 → a ≠ 680 → a ≠ 681 → a ≠ 682 → a ≠ 683 → a ≠ 684 → a ≠ 685 → a ≠ 686 → a ≠ 687 → M' a i = M0 a i) → (∀ (i : Int), i ≠ 6 → i ≠ 10 → i ≠ 11 → i ≠ 12 → i ≠ 59 → i ≠ 60 → i ≠ 61 → i ≠ 62 → i ≠ 63 → i ≠ 64 → i ≠ 65 → i ≠ 66 → i ≠ 110 → i ≠ 112 → i ≠ 122 → i ≠ 131 → i ≠ 132 → i ≠ 134 → i ≠ 135 → i ≠ 136 → i ≠ 137 → i ≠ 138 → i ≠ 139 → i ≠ 143 → i ≠ 145 → M' 598 i = M0 598 i) → Q none M') : ∀ (M : jm) (a : Int) (o : Int), RI M → RH M → RF M → (∀ (a : Nat) (i : Int), a ≠ 598 → a ≠ 602 → a ≠ 603 → a ≠ 604 → a ≠ 605 → a ≠ 624 → a ≠ 670 → a ≠ 671 → a ≠ 672 → a ≠ 673 → a ≠ 674 → a ≠ 675 → a ≠ 676 → a ≠ 677 → a ≠ 678 → a ≠ 679 → a ≠ 680 → a ≠ 681 → a ≠ 682 → a ≠ 683 → a ≠ 684 → a ≠ 685 → a ≠ 686 → a ≠ 687 → M a i = M0 a i) → (∀ (i : Int), i ≠ 6 → i ≠ 10 → i ≠ 11 → i ≠ 12 → i ≠ 59 → i ≠ 60 → i ≠ 61 → i ≠ 62 → i ≠ 63 → i ≠ 64 → i ≠ 65 → i ≠ 66 → i ≠ 110 → i ≠ 112 → i ≠ 122 → i ≠ 131 → i ≠ 132 → i ≠ 134 → i ≠ 135 → i ≠ 136 → i ≠ 137 → i ≠ 138 → i ≠ 139 → i ≠ 143 → i ≠ 145 → M 598 i = M0 598 i) → (-9223372036854775808) ≤ a ∧ a ≤ 9223372036854775807 → 0 ≤ o ∧ o ≤ 1000 → MX M ht n → FRS M ht n (M 598 122) → 1 ≤ M 598 122 ∧ M 598 122 ≤ 8 → AS M L → L ≤ 1999999999 → (0 ≤ M 598 132 ∧ M 598 132 < n) → M 598 131 = ht (M 598 132) → o = M 654 (M 598 132) → a = M 655 (M 598 132) → (M 598 135 = 0 ∧ M 598 136 = 0) → M = M0 → o = 4 → jr A 9 xm_380 246 [(2, .long (Int64.ofInt (a))), (1, .int (Int32.ofInt (o))), (0, .ref (598))] [] M Q := by
    intro M a o hI_M hH_M hS_M hF_M hG_M h_a h_o hy0 hy1 hy2 hy3 hy4 hy5 hy6 hy7 hy8 hy9 hy10 hy11
    have hyM := hy10
    have ho := hy11
    have hp0 := hy0
    have hp1 := hy1
    have hp2 := hy2
    have hp3 := hy3
    have hp4 := hy4
    have hp5 := hy5
    have hp6 := hy6
    have hp7 := hy7
    have hp8 := hy8
    have hp9 := hy9
    subst hyM
    have p0 := hp0
    have p1 := hp1
    have p2 := hp2
    have p3 := hp3
    have p4 := hp4
    have p5 := hp5
    have p6 := hp6
    have p7 := hp7
    have p8 := hp8
    have p9 := hp9
    have hMX := p0
    have hFR := p1
    have hAS := p3
    obtain ⟨P, hP⟩ : ∃ z, M 598 132 = z := ⟨_, rfl⟩
    rw [hP] at p5 p6 p7 p8
    have nb := hMX.1
    have nb2 := hMX.2.1
    obtain ⟨⟨q1, q2, q3, q4, q5, q6⟩, q7, q8, q9⟩ := hMX.2.2.1 P p5.1 p5.2
    rw [← p7] at q3 q4 q5 q6 q7 q8 q9
    rw [← p8] at q7 q8 q9
    have nd : ndo o = 0 := by
      first | (rw [ho]; decide) | (rcases ho with z | z <;> rw [z] <;> decide)
    have dl : dlo o = 1 := by
      first | (rw [ho]; decide) | (rcases ho with z | z <;> rw [z] <;> decide)
    rw [dl] at q4
    rw [nd] at q5
    clear q7
    have pn : P + 1 < n := by
      by_cases y : P = n - 1
      · exfalso
        have z2 := hMX.2.2.2.2
        rw [← y, ← p7] at z2
        omega
      · omega
    have cN : cr (M 654) (P + 1) = 0 := MX.cr0 hMX (by omega) pn (by rw [show P + 1 - 1 = P by omega, ← p7]; omega)
    obtain ⟨Fv, hFv⟩ : ∃ z, M 598 122 = z := ⟨_, rfl⟩
    obtain ⟨hv, hhv⟩ : ∃ z, M 598 131 = z := ⟨_, rfl⟩
    rw [hhv] at p6
    clear q3
    obtain ⟨st, hst⟩ : ∃ z, M 598 143 = z := ⟨_, rfl⟩
    have bst : (0 : Int) ≤ st ∧ st ≤ 300 := by rw [← hst]; exact hI_M 598 143 (Nat.le_of_ble_eq_true rfl)
    have cl := cr_le (M 654) P
    refine jr.aload_n rfl rfl ?_
    refine jr.getf (i := 130) (v := .ref 686) rfl rfl (nlt rfl) rfl (nlt rfl) rfl rfl rfl rfl ?_
    refine jr.aload_n rfl rfl ?_
    refine jr.getf (i := 131) (x := hv) (v := .int (Int32.ofInt (hv))) rfl rfl (nlt rfl) rfl (nlt rfl) rfl rfl hhv rfl ?_
    refine jr.lload_n rfl rfl ?_
    refine jr.last (i := hv) (x := a) rfl (nlt rfl) rfl (Nat.le_of_ble_eq_true rfl) (by omega) (by omega) ?_
    refine jr.aload_n rfl rfl ?_
    refine jr.dup rfl rfl ?_
    refine jr.getf (i := 131) (x := hv) (v := .int (Int32.ofInt (hv))) rfl rfl (nlt rfl) rfl (nlt rfl) rfl rfl ((ju_c _ _ (by decide)).trans hhv) rfl ?_
    refine jr.iconst rfl ?_
    refine jr.iadd rfl ?_
    refine jr.putf (i := 131) (x := (hv + 1)) rfl rfl (nlt rfl) rfl (nlt rfl) rfl rfl rfl rfl rfl ?_
    refine jr.goto rfl rfl ?_
    have y1 : (ju (ju M 686 hv a) 598 131 (hv + 1)) 598 122 = Fv := ((ju_i _ _ (zne (by decide))).trans ((ju_c _ _ (by decide)).trans hFv))
    obtain ⟨v2, e2⟩ : ∃ z, M 598 136 = z := ⟨_, rfl⟩
    have b2 : 0 ≤ v2 ∧ v2 ≤ 1 := by rw [← e2]; exact hI_M 598 136 (Nat.le_of_ble_eq_true rfl)
    obtain ⟨v3, e3⟩ : ∃ z, M 598 135 = z := ⟨_, rfl⟩
    have b3 : 0 ≤ v3 ∧ v3 ≤ 8 := by rw [← e3]; exact hI_M 598 135 (Nat.le_of_ble_eq_true rfl)
    refine jr.pick (ls := [_]) [2] rfl rfl ?_
    exact r_act_L487 (L := L) (n := n) (ht := ht) q (ju (ju M 686 hv a) 598 131 (hv + 1))  (RI.u (RI.u hI_M (a := 686) (i := hv) (by rw [xri_row rfl rfl]; show (-9223372036854775808 : Int) ≤ _ ∧ _ ≤ (9223372036854775807 : Int); omega)) (a := 598) (i := 131) (show (0 : Int) ≤ _ ∧ _ ≤ (400 : Int) from by omega)) (RH.o (RH.o hH_M (by decide) (by decide) (by decide)) (by decide) (by decide) (by decide)) (RF.o (RF.o hS_M (by decide) (by decide)) (by decide) (by decide))  (fun a i f598 f602 f603 f604 f605 f624 f670 f671 f672 f673 f674 f675 f676 f677 f678 f679 f680 f681 f682 f683 f684 f685 f686 f687 => ((ju_c _ _ f598).trans ((ju_c _ _ f686).trans (hF_M a i f598 f602 f603 f604 f605 f624 f670 f671 f672 f673 f674 f675 f676 f677 f678 f679 f680 f681 f682 f683 f684 f685 f686 f687)))) (fun i g6 g10 g11 g12 g59 g60 g61 g62 g63 g64 g65 g66 g110 g112 g122 g131 g132 g134 g135 g136 g137 g138 g139 g143 g145 => ((ju_i _ _ g131).trans ((ju_c _ _ (by decide)).trans (hG_M i g6 g10 g11 g12 g59 g60 g61 g62 g63 g64 g65 g66 g110 g112 g122 g131 g132 g134 g135 g136 g137 g138 g139 g143 g145))))  (FRS.fr hFR (fun i => ((ju_c _ _ (by decide)).trans ((ju_c _ _ (by decide)).trans (rfl)))) (fun i => ((ju_c _ _ (by decide)).trans ((ju_c _ _ (by decide)).trans (rfl)))) (fun i => ((ju_c _ _ (by decide)).trans ((ju_c _ _ (by decide)).trans (rfl)))) ((ju_i _ _ (zne (by decide))).trans ((ju_c _ _ (by decide)).trans (rfl))) (by omega)) (AS.up (AS.o (AS.o hAS (by decide) (Or.inl (by decide))) (by decide) (Or.inr (by decide))) (by omega)) (by rw [((ju_i _ _ (zne (by decide))).trans ((ju_c _ _ (by decide)).trans hFv))] <;> omega) (phi.fr (M := M) (M' := (ju (ju M 686 hv a) 598 131 (hv + 1))) ((ju_i _ _ (zne (by decide))).trans ((ju_c _ _ (by decide)).trans (rfl))) (fun i => ((ju_c _ _ (by decide)).trans ((ju_c _ _ (by decide)).trans (rfl))))) (by rw [((ju_i _ _ (zne (by decide))).trans ((ju_c _ _ (by decide)).trans e2))] <;> omega) (by rw [((ju_i _ _ (zne (by decide))).trans ((ju_c _ _ (by decide)).trans hP))] <;> omega) (by omega) (fun _ => by rw [(ju_same _ _ _ _), hP, q4]; omega) (by rw [((ju_i _ _ (zne (by decide))).trans ((ju_c _ _ (by decide)).trans hst)), ((ju_i _ _ (zne (by decide))).trans ((ju_c _ _ (by decide)).trans e3)), hst, hP]; first | (exact Or.inl ⟨by omega, cN⟩) | (exact Or.inr ⟨by omega, by omega⟩))
theorem r_act_L166 {A : Nat → Option (Nat × (Nat → Int32))} {Q : Option Value → jm → Prop} {L n : Int} {ht : Int → Int} {M0 : jm} (q : ∀ (M' : jm), RI M' → RH M' → RF M' → AS M' (L + 1) → ((M' 598 136 = 1 ∧ M' 598 135 = 0) ∨ (M' 598 136 = 0 ∧ FRS M' ht n (M' 598 122) ∧ 1 ≤ M' 598 122 ∧ M' 598 122 ≤ 8 ∧ ((M' 598 135 ≠ 0 ∧ phi M' = phi M0 ∧ M' 598 143 = M0 598 143) ∨ (M' 598 135 = 0 ∧ 0 ≤ M' 598 132 ∧ M' 598 132 < n ∧ M' 598 131 = ht (M' 598 132) ∧ mu M' < mu M0)))) → (∀ (a : Nat) (i : Int), a ≠ 598 → a ≠ 602 → a ≠ 603 → a ≠ 604 → a ≠ 605 → a ≠ 624 → a ≠ 670 → a ≠ 671 → a ≠ 672 → a ≠ 673 → a ≠ 674 → a ≠ 675 → a ≠ 676 → a ≠ 677 → a ≠ 678 → a ≠ 679 → a ≠ 680 → a ≠ 681 → a ≠ 682 → a ≠ 683 → a ≠ 684 → a ≠ 685 → a ≠ 686 → a ≠ 687 → M' a i = M0 a i) → (∀ (i : Int), i ≠ 6 → i ≠ 10 → i ≠ 11 → i ≠ 12 → i ≠ 59 → i ≠ 60 → i ≠ 61 → i ≠ 62 → i ≠ 63 → i ≠ 64 → i ≠ 65 → i ≠ 66 → i ≠ 110 → i ≠ 112 → i ≠ 122 → i ≠ 131 → i ≠ 132 → i ≠ 134 → i ≠ 135 → i ≠ 136 → i ≠ 137 → i ≠ 138 → i ≠ 139 → i ≠ 143 → i ≠ 145 → M' 598 i = M0 598 i) → Q none M') : ∀ (M : jm) (a : Int) (o : Int), RI M → RH M → RF M → (∀ (a : Nat) (i : Int), a ≠ 598 → a ≠ 602 → a ≠ 603 → a ≠ 604 → a ≠ 605 → a ≠ 624 → a ≠ 670 → a ≠ 671 → a ≠ 672 → a ≠ 673 → a ≠ 674 → a ≠ 675 → a ≠ 676 → a ≠ 677 → a ≠ 678 → a ≠ 679 → a ≠ 680 → a ≠ 681 → a ≠ 682 → a ≠ 683 → a ≠ 684 → a ≠ 685 → a ≠ 686 → a ≠ 687 → M a i = M0 a i) → (∀ (i : Int), i ≠ 6 → i ≠ 10 → i ≠ 11 → i ≠ 12 → i ≠ 59 → i ≠ 60 → i ≠ 61 → i ≠ 62 → i ≠ 63 → i ≠ 64 → i ≠ 65 → i ≠ 66 → i ≠ 110 → i ≠ 112 → i ≠ 122 → i ≠ 131 → i ≠ 132 → i ≠ 134 → i ≠ 135 → i ≠ 136 → i ≠ 137 → i ≠ 138 → i ≠ 139 → i ≠ 143 → i ≠ 145 → M 598 i = M0 598 i) → (-9223372036854775808) ≤ a ∧ a ≤ 9223372036854775807 → 0 ≤ o ∧ o ≤ 1000 → MX M ht n → FRS M ht n (M 598 122) → 1 ≤ M 598 122 ∧ M 598 122 ≤ 8 → AS M L → L ≤ 1999999999 → (0 ≤ M 598 132 ∧ M 598 132 < n) → M 598 131 = ht (M 598 132) → o = M 654 (M 598 132) → a = M 655 (M 598 132) → (M 598 135 = 0 ∧ M 598 136 = 0) → M = M0 → (o = 7 ∨ o = 8) → jr A 9 xm_380 166 [(2, .long (Int64.ofInt (a))), (1, .int (Int32.ofInt (o))), (0, .ref (598))] [] M Q := by
    intro M a o hI_M hH_M hS_M hF_M hG_M h_a h_o hy0 hy1 hy2 hy3 hy4 hy5 hy6 hy7 hy8 hy9 hy10 hy11
    have hyM := hy10
    have ho := hy11
    have hp0 := hy0
    have hp1 := hy1
    have hp2 := hy2
    have hp3 := hy3
    have hp4 := hy4
    have hp5 := hy5
    have hp6 := hy6
    have hp7 := hy7
    have hp8 := hy8
    have hp9 := hy9
    subst hyM
    have p0 := hp0
    have p1 := hp1
    have p2 := hp2
    have p3 := hp3
    have p4 := hp4
    have p5 := hp5
    have p6 := hp6
    have p7 := hp7
    have p8 := hp8
    have p9 := hp9
    have hMX := p0
    have hFR := p1
    have hAS := p3
    obtain ⟨P, hP⟩ : ∃ z, M 598 132 = z := ⟨_, rfl⟩
    rw [hP] at p5 p6 p7 p8
    have nb := hMX.1
    have nb2 := hMX.2.1
    obtain ⟨⟨q1, q2, q3, q4, q5, q6⟩, q7, q8, q9⟩ := hMX.2.2.1 P p5.1 p5.2
    rw [← p7] at q3 q4 q5 q6 q7 q8 q9
    rw [← p8] at q7 q8 q9
    have nd : ndo o = 1 := by
      first | (rw [ho]; decide) | (rcases ho with z | z <;> rw [z] <;> decide)
    have dl : dlo o = -1 := by
      first | (rw [ho]; decide) | (rcases ho with z | z <;> rw [z] <;> decide)
    rw [dl] at q4
    rw [nd] at q5
    obtain ⟨t1, t2, t3, t4⟩ := (q7 (by unfold jpo; omega)).resolve_left id
    clear q7
    have pn : P + 1 < n := by
      by_cases y : P = n - 1
      · exfalso
        have z2 := hMX.2.2.2.2
        rw [← y, ← p7] at z2
        omega
      · omega
    have cN : cr (M 654) (P + 1) = 0 := MX.cr0 hMX (by omega) pn (by rw [show P + 1 - 1 = P by omega, ← p7]; omega)
    obtain ⟨Fv, hFv⟩ : ∃ z, M 598 122 = z := ⟨_, rfl⟩
    obtain ⟨hv, hhv⟩ : ∃ z, M 598 131 = z := ⟨_, rfl⟩
    rw [hhv] at p6
    clear q3
    obtain ⟨st, hst⟩ : ∃ z, M 598 143 = z := ⟨_, rfl⟩
    have bst : (0 : Int) ≤ st ∧ st ≤ 300 := by rw [← hst]; exact hI_M 598 143 (Nat.le_of_ble_eq_true rfl)
    have cl := cr_le (M 654) P
    refine jr.aload_n rfl rfl ?_
    refine jr.getf (i := 130) (v := .ref 686) rfl rfl (nlt rfl) rfl (nlt rfl) rfl rfl rfl rfl ?_
    refine jr.aload_n rfl rfl ?_
    refine jr.getf (i := 131) (x := hv) (v := .int (Int32.ofInt (hv))) rfl rfl (nlt rfl) rfl (nlt rfl) rfl rfl hhv rfl ?_
    refine jr.iconst rfl ?_
    refine jr.isub rfl ?_
    obtain ⟨v1, e1⟩ : ∃ z, M 686 (hv - 1) = z := ⟨_, rfl⟩
    have b1 : (-9223372036854775808) ≤ v1 ∧ v1 ≤ 9223372036854775807 := by rw [← e1]; exact (by have q := hI_M 686 (hv - 1) (Nat.le_of_ble_eq_true rfl); rw [xri_row rfl rfl] at q; exact q)
    refine jr.lald (i := (hv - 1)) (x := v1) rfl (nlt rfl) rfl (Nat.le_of_ble_eq_true rfl) (by omega) (by omega) e1 ?_
    refine jr.lconst (x := 0) rfl (by decide) ?_
    refine jr.lcmp_eq rfl rfl rfl (by omega) (by omega) (fun h178 => ?_) (fun h178 => ?_)
    · refine jr.iconst rfl ?_
      refine jr.istore (ls' := [_, _, _, _]) rfl (nlt rfl) rfl ?_
      refine jr.iload rfl rfl ?_
      refine jr.iload_n rfl rfl ?_
      refine jr.bipush rfl (jbp _ (nlt rfl)) ?_
      refine jr.icmp_ne rfl rfl (by first | (refine rgb (by assumption) ?_; exact rfl) | omega) (rgl rfl) (fun h194 => ?_) (fun h194 => ?_)
      · refine jr.iconst rfl ?_
        refine jr.icmp_ne rfl rfl (by first | exact rgl rfl | omega) (rgl rfl) (fun h => absurd h (by decide)) (fun _ => ?_)
        refine jr.aload_n rfl rfl ?_
        refine jr.getf (i := 130) (v := .ref 686) rfl rfl (nlt rfl) rfl (nlt rfl) rfl rfl rfl rfl ?_
        refine jr.aload_n rfl rfl ?_
        refine jr.getf (i := 131) (x := hv) (v := .int (Int32.ofInt (hv))) rfl rfl (nlt rfl) rfl (nlt rfl) rfl rfl hhv rfl ?_
        refine jr.iconst rfl ?_
        refine jr.isub rfl ?_
        refine jr.iload rfl rfl ?_
        refine jr.if_eq rfl rfl (by first | exact rgl rfl | omega) (fun _ => ?_) (fun h => absurd (by decide) h)
        refine jr.lconst (x := 0) rfl (by decide) ?_
        refine jr.last (i := (hv - 1)) (x := 0) rfl (nlt rfl) rfl (Nat.le_of_ble_eq_true rfl) (by omega) (by omega) ?_
        refine jr.aload_n rfl rfl ?_
        refine jr.lload_n rfl rfl ?_
        refine jr.l2i rfl ?_
        refine jr.putf (i := 132) (x := a) rfl rfl (nlt rfl) rfl (nlt rfl) rfl rfl rfl rfl rfl ?_
        have y2 : (ju (ju M 686 (hv - 1) 0) 598 132 a) 598 122 = Fv := ((ju_i _ _ (zne (by decide))).trans ((ju_c _ _ (by decide)).trans hFv))
        have y3 : (ju (ju M 686 (hv - 1) 0) 598 132 a) 598 131 = hv := ((ju_i _ _ (zne (by decide))).trans ((ju_c _ _ (by decide)).trans hhv))
        have y4 : (ju (ju M 686 (hv - 1) 0) 598 132 a) 598 132 = a := (ju_same _ _ _ _)
        obtain ⟨v5, e5⟩ : ∃ z, M 598 135 = z := ⟨_, rfl⟩
        have b5 : 0 ≤ v5 ∧ v5 ≤ 8 := by rw [← e5]; exact hI_M 598 135 (Nat.le_of_ble_eq_true rfl)
        have y6 : (ju (ju M 686 (hv - 1) 0) 598 132 a) 598 135 = v5 := ((ju_i _ _ (zne (by decide))).trans ((ju_c _ _ (by decide)).trans e5))
        obtain ⟨v7, e7⟩ : ∃ z, M 598 136 = z := ⟨_, rfl⟩
        have b7 : 0 ≤ v7 ∧ v7 ≤ 1 := by rw [← e7]; exact hI_M 598 136 (Nat.le_of_ble_eq_true rfl)
        have y8 : (ju (ju M 686 (hv - 1) 0) 598 132 a) 598 136 = v7 := ((ju_i _ _ (zne (by decide))).trans ((ju_c _ _ (by decide)).trans e7))
        have y9 : (ju (ju M 686 (hv - 1) 0) 598 132 a) 598 143 = st := ((ju_i _ _ (zne (by decide))).trans ((ju_c _ _ (by decide)).trans hst))
        have hmu := mu.eq hst rfl hP (rfl : cr (M 654) P = cr (M 654) P)
        have zph : phi (ju (ju M 686 (hv - 1) 0) 598 132 a) = phi M := (phi.fr (M := M) (M' := (ju (ju M 686 (hv - 1) 0) 598 132 a)) ((ju_i _ _ (zne (by decide))).trans ((ju_c _ _ (by decide)).trans (rfl))) (fun i => ((ju_c _ _ (by decide)).trans ((ju_c _ _ (by decide)).trans (rfl)))))
        have zm := mu.eq (M := (ju (ju M 686 (hv - 1) 0) 598 132 a)) ((ju_i _ _ (zne (by decide))).trans ((ju_c _ _ (by decide)).trans hst)) zph (ju_same _ _ _ _) (show cr ((ju (ju M 686 (hv - 1) 0) 598 132 a) 654) a = 0 by rw [show (ju (ju M 686 (hv - 1) 0) 598 132 a) 654 = M 654 from funext (fun i => ((ju_c _ _ (by decide)).trans ((ju_c _ _ (by decide)).trans (rfl))))]; exact MX.cr0 hMX (by omega) (by omega) t4)
        exact jr.vreturn rfl rfl (q _ (RI.u (RI.u hI_M (a := 686) (i := (hv - 1)) (by rw [xri_row rfl rfl]; show (-9223372036854775808 : Int) ≤ _ ∧ _ ≤ (9223372036854775807 : Int); omega)) (a := 598) (i := 132) (show (0 : Int) ≤ _ ∧ _ ≤ (2200 : Int) from by omega)) (RH.o (RH.o hH_M (by decide) (by decide) (by decide)) (by decide) (by decide) (by decide)) (RF.o (RF.o hS_M (by decide) (by decide)) (by decide) (by decide))  (AS.up (AS.o (AS.o hAS (by decide) (Or.inl (by decide))) (by decide) (Or.inr (by decide))) (by omega)) (Or.inr ⟨by omega, (FRS.fr hFR (fun i => ((ju_c _ _ (by decide)).trans ((ju_c _ _ (by decide)).trans (rfl)))) (fun i => ((ju_c _ _ (by decide)).trans ((ju_c _ _ (by decide)).trans (rfl)))) (fun i => ((ju_c _ _ (by decide)).trans ((ju_c _ _ (by decide)).trans (rfl)))) ((ju_i _ _ (zne (by decide))).trans ((ju_c _ _ (by decide)).trans (rfl))) (by omega)), by omega, by omega, Or.inr ⟨by omega, by omega, by omega, (by rw [((ju_i _ _ (zne (by decide))).trans ((ju_c _ _ (by decide)).trans hhv)), (ju_same _ _ _ _), t3]; split <;> omega), by omega⟩⟩) (fun a i f598 f602 f603 f604 f605 f624 f670 f671 f672 f673 f674 f675 f676 f677 f678 f679 f680 f681 f682 f683 f684 f685 f686 f687 => ((ju_c _ _ f598).trans ((ju_c _ _ f686).trans (hF_M a i f598 f602 f603 f604 f605 f624 f670 f671 f672 f673 f674 f675 f676 f677 f678 f679 f680 f681 f682 f683 f684 f685 f686 f687)))) (fun i g6 g10 g11 g12 g59 g60 g61 g62 g63 g64 g65 g66 g110 g112 g122 g131 g132 g134 g135 g136 g137 g138 g139 g143 g145 => ((ju_i _ _ g132).trans ((ju_c _ _ (by decide)).trans (hG_M i g6 g10 g11 g12 g59 g60 g61 g62 g63 g64 g65 g66 g110 g112 g122 g131 g132 g134 g135 g136 g137 g138 g139 g143 g145)))))
      · refine jr.iconst rfl ?_
        refine jr.goto rfl rfl ?_
        refine jr.icmp_ne rfl rfl (by first | exact rgl rfl | omega) (by first | exact rgl rfl | omega) (fun _ => ?_) (fun h => absurd (by decide) h)
        refine jr.aload_n rfl rfl ?_
        refine jr.dup rfl rfl ?_
        refine jr.getf (i := 131) (x := hv) (v := .int (Int32.ofInt (hv))) rfl rfl (nlt rfl) rfl (nlt rfl) rfl rfl hhv rfl ?_
        refine jr.iconst rfl ?_
        refine jr.isub rfl ?_
        refine jr.putf (i := 131) (x := (hv - 1)) rfl rfl (nlt rfl) rfl (nlt rfl) rfl rfl rfl rfl rfl ?_
        refine jr.goto rfl rfl ?_
        have y10 : (ju M 598 131 (hv - 1)) 598 122 = Fv := ((ju_i _ _ (zne (by decide))).trans hFv)
        obtain ⟨v11, e11⟩ : ∃ z, M 598 136 = z := ⟨_, rfl⟩
        have b11 : 0 ≤ v11 ∧ v11 ≤ 1 := by rw [← e11]; exact hI_M 598 136 (Nat.le_of_ble_eq_true rfl)
        obtain ⟨v12, e12⟩ : ∃ z, M 598 135 = z := ⟨_, rfl⟩
        have b12 : 0 ≤ v12 ∧ v12 ≤ 8 := by rw [← e12]; exact hI_M 598 135 (Nat.le_of_ble_eq_true rfl)
        refine jr.pick (ls := [_]) [3] rfl rfl ?_
        exact r_act_L487 (L := L) (n := n) (ht := ht) q (ju M 598 131 (hv - 1))  (RI.u hI_M (a := 598) (i := 131) (show (0 : Int) ≤ _ ∧ _ ≤ (400 : Int) from by omega)) (RH.o hH_M (by decide) (by decide) (by decide)) (RF.o hS_M (by decide) (by decide))  (fun a i f598 f602 f603 f604 f605 f624 f670 f671 f672 f673 f674 f675 f676 f677 f678 f679 f680 f681 f682 f683 f684 f685 f686 f687 => ((ju_c _ _ f598).trans (hF_M a i f598 f602 f603 f604 f605 f624 f670 f671 f672 f673 f674 f675 f676 f677 f678 f679 f680 f681 f682 f683 f684 f685 f686 f687))) (fun i g6 g10 g11 g12 g59 g60 g61 g62 g63 g64 g65 g66 g110 g112 g122 g131 g132 g134 g135 g136 g137 g138 g139 g143 g145 => ((ju_i _ _ g131).trans (hG_M i g6 g10 g11 g12 g59 g60 g61 g62 g63 g64 g65 g66 g110 g112 g122 g131 g132 g134 g135 g136 g137 g138 g139 g143 g145)))  (FRS.fr hFR (fun i => ((ju_c _ _ (by decide)).trans (rfl))) (fun i => ((ju_c _ _ (by decide)).trans (rfl))) (fun i => ((ju_c _ _ (by decide)).trans (rfl))) ((ju_i _ _ (zne (by decide))).trans (rfl)) (by omega)) (AS.up (AS.o hAS (by decide) (Or.inr (by decide))) (by omega)) (by rw [((ju_i _ _ (zne (by decide))).trans hFv)] <;> omega) (phi.fr (M := M) (M' := (ju M 598 131 (hv - 1))) ((ju_i _ _ (zne (by decide))).trans (rfl)) (fun i => ((ju_c _ _ (by decide)).trans (rfl)))) (by rw [((ju_i _ _ (zne (by decide))).trans e11)] <;> omega) (by rw [((ju_i _ _ (zne (by decide))).trans hP)] <;> omega) (by omega) (fun _ => by rw [(ju_same _ _ _ _), hP, q4]; omega) (by rw [((ju_i _ _ (zne (by decide))).trans hst), ((ju_i _ _ (zne (by decide))).trans e12), hst, hP]; first | (exact Or.inl ⟨by omega, cN⟩) | (exact Or.inr ⟨by omega, by omega⟩))
    · refine jr.iconst rfl ?_
      refine jr.goto rfl rfl ?_
      refine jr.istore (ls' := [_, _, _, _]) rfl (nlt rfl) rfl ?_
      refine jr.iload rfl rfl ?_
      refine jr.iload_n rfl rfl ?_
      refine jr.bipush rfl (jbp _ (nlt rfl)) ?_
      refine jr.icmp_ne rfl rfl (by first | (refine rgb (by assumption) ?_; exact rfl) | omega) (rgl rfl) (fun h194 => ?_) (fun h194 => ?_)
      · refine jr.iconst rfl ?_
        refine jr.icmp_ne rfl rfl (by first | exact rgl rfl | omega) (rgl rfl) (fun _ => ?_) (fun h => absurd (by decide) h)
        refine jr.aload_n rfl rfl ?_
        refine jr.dup rfl rfl ?_
        refine jr.getf (i := 131) (x := hv) (v := .int (Int32.ofInt (hv))) rfl rfl (nlt rfl) rfl (nlt rfl) rfl rfl hhv rfl ?_
        refine jr.iconst rfl ?_
        refine jr.isub rfl ?_
        refine jr.putf (i := 131) (x := (hv - 1)) rfl rfl (nlt rfl) rfl (nlt rfl) rfl rfl rfl rfl rfl ?_
        refine jr.goto rfl rfl ?_
        have y13 : (ju M 598 131 (hv - 1)) 598 122 = Fv := ((ju_i _ _ (zne (by decide))).trans hFv)
        obtain ⟨v14, e14⟩ : ∃ z, M 598 136 = z := ⟨_, rfl⟩
        have b14 : 0 ≤ v14 ∧ v14 ≤ 1 := by rw [← e14]; exact hI_M 598 136 (Nat.le_of_ble_eq_true rfl)
        obtain ⟨v15, e15⟩ : ∃ z, M 598 135 = z := ⟨_, rfl⟩
        have b15 : 0 ≤ v15 ∧ v15 ≤ 8 := by rw [← e15]; exact hI_M 598 135 (Nat.le_of_ble_eq_true rfl)
        refine jr.pick (ls := [_]) [3] rfl rfl ?_
        exact r_act_L487 (L := L) (n := n) (ht := ht) q (ju M 598 131 (hv - 1))  (RI.u hI_M (a := 598) (i := 131) (show (0 : Int) ≤ _ ∧ _ ≤ (400 : Int) from by omega)) (RH.o hH_M (by decide) (by decide) (by decide)) (RF.o hS_M (by decide) (by decide))  (fun a i f598 f602 f603 f604 f605 f624 f670 f671 f672 f673 f674 f675 f676 f677 f678 f679 f680 f681 f682 f683 f684 f685 f686 f687 => ((ju_c _ _ f598).trans (hF_M a i f598 f602 f603 f604 f605 f624 f670 f671 f672 f673 f674 f675 f676 f677 f678 f679 f680 f681 f682 f683 f684 f685 f686 f687))) (fun i g6 g10 g11 g12 g59 g60 g61 g62 g63 g64 g65 g66 g110 g112 g122 g131 g132 g134 g135 g136 g137 g138 g139 g143 g145 => ((ju_i _ _ g131).trans (hG_M i g6 g10 g11 g12 g59 g60 g61 g62 g63 g64 g65 g66 g110 g112 g122 g131 g132 g134 g135 g136 g137 g138 g139 g143 g145)))  (FRS.fr hFR (fun i => ((ju_c _ _ (by decide)).trans (rfl))) (fun i => ((ju_c _ _ (by decide)).trans (rfl))) (fun i => ((ju_c _ _ (by decide)).trans (rfl))) ((ju_i _ _ (zne (by decide))).trans (rfl)) (by omega)) (AS.up (AS.o hAS (by decide) (Or.inr (by decide))) (by omega)) (by rw [((ju_i _ _ (zne (by decide))).trans hFv)] <;> omega) (phi.fr (M := M) (M' := (ju M 598 131 (hv - 1))) ((ju_i _ _ (zne (by decide))).trans (rfl)) (fun i => ((ju_c _ _ (by decide)).trans (rfl)))) (by rw [((ju_i _ _ (zne (by decide))).trans e14)] <;> omega) (by rw [((ju_i _ _ (zne (by decide))).trans hP)] <;> omega) (by omega) (fun _ => by rw [(ju_same _ _ _ _), hP, q4]; omega) (by rw [((ju_i _ _ (zne (by decide))).trans hst), ((ju_i _ _ (zne (by decide))).trans e15), hst, hP]; first | (exact Or.inl ⟨by omega, cN⟩) | (exact Or.inr ⟨by omega, by omega⟩))
      · refine jr.iconst rfl ?_
        refine jr.goto rfl rfl ?_
        refine jr.icmp_ne rfl rfl (by first | exact rgl rfl | omega) (by first | exact rgl rfl | omega) (fun h => absurd h (by decide)) (fun _ => ?_)
        refine jr.aload_n rfl rfl ?_
        refine jr.getf (i := 130) (v := .ref 686) rfl rfl (nlt rfl) rfl (nlt rfl) rfl rfl rfl rfl ?_
        refine jr.aload_n rfl rfl ?_
        refine jr.getf (i := 131) (x := hv) (v := .int (Int32.ofInt (hv))) rfl rfl (nlt rfl) rfl (nlt rfl) rfl rfl hhv rfl ?_
        refine jr.iconst rfl ?_
        refine jr.isub rfl ?_
        refine jr.iload rfl rfl ?_
        refine jr.if_eq rfl rfl (by first | exact rgl rfl | omega) (fun h => absurd h (by decide)) (fun _ => ?_)
        refine jr.lconst (x := 1) rfl (by decide) ?_
        refine jr.goto rfl rfl ?_
        refine jr.last (i := (hv - 1)) (x := 1) rfl (nlt rfl) rfl (Nat.le_of_ble_eq_true rfl) (by omega) (by omega) ?_
        refine jr.aload_n rfl rfl ?_
        refine jr.lload_n rfl rfl ?_
        refine jr.l2i rfl ?_
        refine jr.putf (i := 132) (x := a) rfl rfl (nlt rfl) rfl (nlt rfl) rfl rfl rfl rfl rfl ?_
        have y16 : (ju (ju M 686 (hv - 1) 1) 598 132 a) 598 122 = Fv := ((ju_i _ _ (zne (by decide))).trans ((ju_c _ _ (by decide)).trans hFv))
        have y17 : (ju (ju M 686 (hv - 1) 1) 598 132 a) 598 131 = hv := ((ju_i _ _ (zne (by decide))).trans ((ju_c _ _ (by decide)).trans hhv))
        have y18 : (ju (ju M 686 (hv - 1) 1) 598 132 a) 598 132 = a := (ju_same _ _ _ _)
        obtain ⟨v19, e19⟩ : ∃ z, M 598 135 = z := ⟨_, rfl⟩
        have b19 : 0 ≤ v19 ∧ v19 ≤ 8 := by rw [← e19]; exact hI_M 598 135 (Nat.le_of_ble_eq_true rfl)
        have y20 : (ju (ju M 686 (hv - 1) 1) 598 132 a) 598 135 = v19 := ((ju_i _ _ (zne (by decide))).trans ((ju_c _ _ (by decide)).trans e19))
        obtain ⟨v21, e21⟩ : ∃ z, M 598 136 = z := ⟨_, rfl⟩
        have b21 : 0 ≤ v21 ∧ v21 ≤ 1 := by rw [← e21]; exact hI_M 598 136 (Nat.le_of_ble_eq_true rfl)
        have y22 : (ju (ju M 686 (hv - 1) 1) 598 132 a) 598 136 = v21 := ((ju_i _ _ (zne (by decide))).trans ((ju_c _ _ (by decide)).trans e21))
        have y23 : (ju (ju M 686 (hv - 1) 1) 598 132 a) 598 143 = st := ((ju_i _ _ (zne (by decide))).trans ((ju_c _ _ (by decide)).trans hst))
        have hmu := mu.eq hst rfl hP (rfl : cr (M 654) P = cr (M 654) P)
        have zph : phi (ju (ju M 686 (hv - 1) 1) 598 132 a) = phi M := (phi.fr (M := M) (M' := (ju (ju M 686 (hv - 1) 1) 598 132 a)) ((ju_i _ _ (zne (by decide))).trans ((ju_c _ _ (by decide)).trans (rfl))) (fun i => ((ju_c _ _ (by decide)).trans ((ju_c _ _ (by decide)).trans (rfl)))))
        have zm := mu.eq (M := (ju (ju M 686 (hv - 1) 1) 598 132 a)) ((ju_i _ _ (zne (by decide))).trans ((ju_c _ _ (by decide)).trans hst)) zph (ju_same _ _ _ _) (show cr ((ju (ju M 686 (hv - 1) 1) 598 132 a) 654) a = 0 by rw [show (ju (ju M 686 (hv - 1) 1) 598 132 a) 654 = M 654 from funext (fun i => ((ju_c _ _ (by decide)).trans ((ju_c _ _ (by decide)).trans (rfl))))]; exact MX.cr0 hMX (by omega) (by omega) t4)
        exact jr.vreturn rfl rfl (q _ (RI.u (RI.u hI_M (a := 686) (i := (hv - 1)) (by rw [xri_row rfl rfl]; show (-9223372036854775808 : Int) ≤ _ ∧ _ ≤ (9223372036854775807 : Int); omega)) (a := 598) (i := 132) (show (0 : Int) ≤ _ ∧ _ ≤ (2200 : Int) from by omega)) (RH.o (RH.o hH_M (by decide) (by decide) (by decide)) (by decide) (by decide) (by decide)) (RF.o (RF.o hS_M (by decide) (by decide)) (by decide) (by decide))  (AS.up (AS.o (AS.o hAS (by decide) (Or.inl (by decide))) (by decide) (Or.inr (by decide))) (by omega)) (Or.inr ⟨by omega, (FRS.fr hFR (fun i => ((ju_c _ _ (by decide)).trans ((ju_c _ _ (by decide)).trans (rfl)))) (fun i => ((ju_c _ _ (by decide)).trans ((ju_c _ _ (by decide)).trans (rfl)))) (fun i => ((ju_c _ _ (by decide)).trans ((ju_c _ _ (by decide)).trans (rfl)))) ((ju_i _ _ (zne (by decide))).trans ((ju_c _ _ (by decide)).trans (rfl))) (by omega)), by omega, by omega, Or.inr ⟨by omega, by omega, by omega, (by rw [((ju_i _ _ (zne (by decide))).trans ((ju_c _ _ (by decide)).trans hhv)), (ju_same _ _ _ _), t3]; split <;> omega), by omega⟩⟩) (fun a i f598 f602 f603 f604 f605 f624 f670 f671 f672 f673 f674 f675 f676 f677 f678 f679 f680 f681 f682 f683 f684 f685 f686 f687 => ((ju_c _ _ f598).trans ((ju_c _ _ f686).trans (hF_M a i f598 f602 f603 f604 f605 f624 f670 f671 f672 f673 f674 f675 f676 f677 f678 f679 f680 f681 f682 f683 f684 f685 f686 f687)))) (fun i g6 g10 g11 g12 g59 g60 g61 g62 g63 g64 g65 g66 g110 g112 g122 g131 g132 g134 g135 g136 g137 g138 g139 g143 g145 => ((ju_i _ _ g132).trans ((ju_c _ _ (by decide)).trans (hG_M i g6 g10 g11 g12 g59 g60 g61 g62 g63 g64 g65 g66 g110 g112 g122 g131 g132 g134 g135 g136 g137 g138 g139 g143 g145)))))
theorem r_act_L132 {A : Nat → Option (Nat × (Nat → Int32))} {Q : Option Value → jm → Prop} {L n : Int} {ht : Int → Int} {M0 : jm} (q : ∀ (M' : jm), RI M' → RH M' → RF M' → AS M' (L + 1) → ((M' 598 136 = 1 ∧ M' 598 135 = 0) ∨ (M' 598 136 = 0 ∧ FRS M' ht n (M' 598 122) ∧ 1 ≤ M' 598 122 ∧ M' 598 122 ≤ 8 ∧ ((M' 598 135 ≠ 0 ∧ phi M' = phi M0 ∧ M' 598 143 = M0 598 143) ∨ (M' 598 135 = 0 ∧ 0 ≤ M' 598 132 ∧ M' 598 132 < n ∧ M' 598 131 = ht (M' 598 132) ∧ mu M' < mu M0)))) → (∀ (a : Nat) (i : Int), a ≠ 598 → a ≠ 602 → a ≠ 603 → a ≠ 604 → a ≠ 605 → a ≠ 624 → a ≠ 670 → a ≠ 671 → a ≠ 672 → a ≠ 673 → a ≠ 674 → a ≠ 675 → a ≠ 676 → a ≠ 677 → a ≠ 678 → a ≠ 679 → a ≠ 680 → a ≠ 681 → a ≠ 682 → a ≠ 683 → a ≠ 684 → a ≠ 685 → a ≠ 686 → a ≠ 687 → M' a i = M0 a i) → (∀ (i : Int), i ≠ 6 → i ≠ 10 → i ≠ 11 → i ≠ 12 → i ≠ 59 → i ≠ 60 → i ≠ 61 → i ≠ 62 → i ≠ 63 → i ≠ 64 → i ≠ 65 → i ≠ 66 → i ≠ 110 → i ≠ 112 → i ≠ 122 → i ≠ 131 → i ≠ 132 → i ≠ 134 → i ≠ 135 → i ≠ 136 → i ≠ 137 → i ≠ 138 → i ≠ 139 → i ≠ 143 → i ≠ 145 → M' 598 i = M0 598 i) → Q none M') : ∀ (M : jm) (a : Int) (o : Int), RI M → RH M → RF M → (∀ (a : Nat) (i : Int), a ≠ 598 → a ≠ 602 → a ≠ 603 → a ≠ 604 → a ≠ 605 → a ≠ 624 → a ≠ 670 → a ≠ 671 → a ≠ 672 → a ≠ 673 → a ≠ 674 → a ≠ 675 → a ≠ 676 → a ≠ 677 → a ≠ 678 → a ≠ 679 → a ≠ 680 → a ≠ 681 → a ≠ 682 → a ≠ 683 → a ≠ 684 → a ≠ 685 → a ≠ 686 → a ≠ 687 → M a i = M0 a i) → (∀ (i : Int), i ≠ 6 → i ≠ 10 → i ≠ 11 → i ≠ 12 → i ≠ 59 → i ≠ 60 → i ≠ 61 → i ≠ 62 → i ≠ 63 → i ≠ 64 → i ≠ 65 → i ≠ 66 → i ≠ 110 → i ≠ 112 → i ≠ 122 → i ≠ 131 → i ≠ 132 → i ≠ 134 → i ≠ 135 → i ≠ 136 → i ≠ 137 → i ≠ 138 → i ≠ 139 → i ≠ 143 → i ≠ 145 → M 598 i = M0 598 i) → (-9223372036854775808) ≤ a ∧ a ≤ 9223372036854775807 → 0 ≤ o ∧ o ≤ 1000 → MX M ht n → FRS M ht n (M 598 122) → 1 ≤ M 598 122 ∧ M 598 122 ≤ 8 → AS M L → L ≤ 1999999999 → (0 ≤ M 598 132 ∧ M 598 132 < n) → M 598 131 = ht (M 598 132) → o = M 654 (M 598 132) → a = M 655 (M 598 132) → (M 598 135 = 0 ∧ M 598 136 = 0) → M = M0 → o = 3 → jr A 9 xm_380 132 [(2, .long (Int64.ofInt (a))), (1, .int (Int32.ofInt (o))), (0, .ref (598))] [] M Q := by
    intro M a o hI_M hH_M hS_M hF_M hG_M h_a h_o hy0 hy1 hy2 hy3 hy4 hy5 hy6 hy7 hy8 hy9 hy10 hy11
    have hyM := hy10
    have ho := hy11
    have hp0 := hy0
    have hp1 := hy1
    have hp2 := hy2
    have hp3 := hy3
    have hp4 := hy4
    have hp5 := hy5
    have hp6 := hy6
    have hp7 := hy7
    have hp8 := hy8
    have hp9 := hy9
    subst hyM
    have p0 := hp0
    have p1 := hp1
    have p2 := hp2
    have p3 := hp3
    have p4 := hp4
    have p5 := hp5
    have p6 := hp6
    have p7 := hp7
    have p8 := hp8
    have p9 := hp9
    have hMX := p0
    have hFR := p1
    have hAS := p3
    obtain ⟨P, hP⟩ : ∃ z, M 598 132 = z := ⟨_, rfl⟩
    rw [hP] at p5 p6 p7 p8
    have nb := hMX.1
    have nb2 := hMX.2.1
    obtain ⟨⟨q1, q2, q3, q4, q5, q6⟩, q7, q8, q9⟩ := hMX.2.2.1 P p5.1 p5.2
    rw [← p7] at q3 q4 q5 q6 q7 q8 q9
    rw [← p8] at q7 q8 q9
    have nd : ndo o = 0 := by
      first | (rw [ho]; decide) | (rcases ho with z | z <;> rw [z] <;> decide)
    have dl : dlo o = 0 := by
      first | (rw [ho]; decide) | (rcases ho with z | z <;> rw [z] <;> decide)
    rw [dl] at q4
    rw [nd] at q5
    have q6 := q6 (by unfold exo; omega)
    clear q7
    obtain ⟨Fv, hFv⟩ : ∃ z, M 598 122 = z := ⟨_, rfl⟩
    obtain ⟨hv, hhv⟩ : ∃ z, M 598 131 = z := ⟨_, rfl⟩
    rw [hhv] at p6
    clear q3
    obtain ⟨st, hst⟩ : ∃ z, M 598 143 = z := ⟨_, rfl⟩
    have bst : (0 : Int) ≤ st ∧ st ≤ 300 := by rw [← hst]; exact hI_M 598 143 (Nat.le_of_ble_eq_true rfl)
    have cl := cr_le (M 654) P
    refine jr.aload_n rfl rfl ?_
    refine jr.getf (i := 122) (x := Fv) (v := .int (Int32.ofInt (Fv))) rfl rfl (nlt rfl) rfl (nlt rfl) rfl rfl hFv rfl ?_
    refine jr.iconst rfl ?_
    refine jr.isub rfl ?_
    refine jr.istore (ls' := [_, _, _, _]) rfl (nlt rfl) rfl ?_
    refine jr.aload_n rfl rfl ?_
    refine jr.getf (i := 124) (v := .ref 680) rfl rfl (nlt rfl) rfl (nlt rfl) rfl rfl rfl rfl ?_
    refine jr.iload rfl rfl ?_
    obtain ⟨v1, e1⟩ : ∃ z, M 680 (Fv - 1) = z := ⟨_, rfl⟩
    have b1 : 0 ≤ v1 ∧ v1 ≤ 1 := by rw [← e1]; exact (by have q := hI_M 680 (Fv - 1) (Nat.le_of_ble_eq_true rfl); rw [xri_row rfl rfl] at q; exact q)
    refine jr.zald (i := (Fv - 1)) (x := v1) rfl (nlt rfl) rfl (Nat.le_of_ble_eq_true rfl) (by omega) (by omega) e1 ?_
    refine jr.if_eq rfl rfl (by first | (refine rgb (by assumption) ?_; exact rfl) | omega) (fun h147 => ?_) (fun h147 => ?_)
    · refine jr.aload_n rfl rfl ?_
      refine jr.iconst rfl ?_
      refine jr.iconst rfl ?_
      have y3 : M 598 122 = Fv := hFv
      refine jr_v rfl rfl (Or.inl rfl) rfl rfl (nlt rfl) rfl ⟨rfl, Nat.le_of_ble_eq_true rfl, Nat.le_of_ble_eq_true rfl⟩ rfl (jc.deep (r_leave hI_M hH_M hS_M  (by omega) (by omega) hMX (FRS.fr hFR (fun i => (rfl)) (fun i => (rfl)) (fun i => (rfl)) (rfl) (by omega)) (by rw [hFv]; omega) hAS (by omega) (fun M2 hI_M2 hH_M2 hS_M2  w2_0 w2_1 w2_2 w2_3 => ?_)) (Nat.le_of_ble_eq_true rfl))
      obtain ⟨v4, e4⟩ : ∃ z, M2 598 122 = z := ⟨_, rfl⟩
      have b4 : 0 ≤ v4 ∧ v4 ≤ 9 := by rw [← e4]; exact hI_M2 598 122 (Nat.le_of_ble_eq_true rfl)
      have y5 : M2 598 122 = v4 := e4
      have e6 : M2 598 131 = hv := ((w2_3 131 (zne rfl) (zne rfl) (zne rfl) (zne rfl) (zne rfl) (zne rfl) (zne rfl)).trans hhv)
      obtain ⟨v8, e8⟩ : ∃ z, M2 598 132 = z := ⟨_, rfl⟩
      have b8 : 0 ≤ v8 ∧ v8 ≤ 2200 := by rw [← e8]; exact hI_M2 598 132 (Nat.le_of_ble_eq_true rfl)
      obtain ⟨v10, e10⟩ : ∃ z, M 598 135 = z := ⟨_, rfl⟩
      have b10 : 0 ≤ v10 ∧ v10 ≤ 8 := by rw [← e10]; exact hI_M 598 135 (Nat.le_of_ble_eq_true rfl)
      have e11 : M2 598 135 = v10 := ((w2_3 135 (zne rfl) (zne rfl) (zne rfl) (zne rfl) (zne rfl) (zne rfl) (zne rfl)).trans e10)
      obtain ⟨v13, e13⟩ : ∃ z, M2 598 136 = z := ⟨_, rfl⟩
      have b13 : 0 ≤ v13 ∧ v13 ≤ 1 := by rw [← e13]; exact hI_M2 598 136 (Nat.le_of_ble_eq_true rfl)
      have e15 : M2 598 143 = st := ((w2_3 143 (zne rfl) (zne rfl) (zne rfl) (zne rfl) (zne rfl) (zne rfl) (zne rfl)).trans hst)
      have hmu := mu.eq hst rfl hP (rfl : cr (M 654) P = cr (M 654) P)
      exact jr.vreturn rfl rfl (q _ hI_M2 hH_M2 hS_M2  (AS.up w2_0 (by omega)) (by rcases w2_1 with z | ⟨y1, y2, y3, y4, y5, y6⟩; (exact Or.inl ⟨z, by omega⟩); (have zr := y5; have zc := REr.cr0 y5; obtain ⟨r1, r2, r3, _, _⟩ := y5; have zm := mu.eq (M := M2) (e15) rfl rfl zc; exact Or.inr ⟨by omega, y2, y3, y4, Or.inr ⟨by omega, r1, r2, by rw [e6, r3]; omega, by omega⟩⟩)) (fun a i f598 f602 f603 f604 f605 f624 f670 f671 f672 f673 f674 f675 f676 f677 f678 f679 f680 f681 f682 f683 f684 f685 f686 f687 => ((w2_2 a i f598 f602 f624 f670 f671 f672 f673 f680 f683 f684).trans (hF_M a i f598 f602 f603 f604 f605 f624 f670 f671 f672 f673 f674 f675 f676 f677 f678 f679 f680 f681 f682 f683 f684 f685 f686 f687))) (fun i g6 g10 g11 g12 g59 g60 g61 g62 g63 g64 g65 g66 g110 g112 g122 g131 g132 g134 g135 g136 g137 g138 g139 g143 g145 => ((w2_3 i g112 g122 g132 g134 g136 g137 g138).trans (hG_M i g6 g10 g11 g12 g59 g60 g61 g62 g63 g64 g65 g66 g110 g112 g122 g131 g132 g134 g135 g136 g137 g138 g139 g143 g145))))
    · have sx147 : (1 : Int) ≤ v1 := by omega
      clear h147
      refine jr.aload_n rfl rfl ?_
      refine jr.iload rfl rfl ?_
      have y18 : M 598 122 = Fv := hFv
      refine jr_v rfl rfl (Or.inl rfl) rfl rfl (nlt rfl) rfl ⟨rfl, Nat.le_of_ble_eq_true rfl, Nat.le_of_ble_eq_true rfl⟩ rfl (jc.deep (r_endBehind hI_M hH_M hS_M  (by omega) hMX (FRS.fr hFR (fun i => (rfl)) (fun i => (rfl)) (fun i => (rfl)) (rfl) (by omega)) (by rw [hFv]; omega) hAS (by omega) (by rw [hFv] <;> omega) (fun M17 hI_M17 hH_M17 hS_M17  w17_0 w17_1 w17_2 w17_3 => ?_)) (Nat.le_of_ble_eq_true rfl))
      refine jr.goto rfl rfl ?_
      obtain ⟨v19, e19⟩ : ∃ z, M17 598 122 = z := ⟨_, rfl⟩
      have b19 : 0 ≤ v19 ∧ v19 ≤ 9 := by rw [← e19]; exact hI_M17 598 122 (Nat.le_of_ble_eq_true rfl)
      have e21 : M17 598 131 = hv := ((w17_3 131 (zne rfl) (zne rfl) (zne rfl) (zne rfl) (zne rfl) (zne rfl) (zne rfl)).trans hhv)
      obtain ⟨v23, e23⟩ : ∃ z, M17 598 132 = z := ⟨_, rfl⟩
      have b23 : 0 ≤ v23 ∧ v23 ≤ 2200 := by rw [← e23]; exact hI_M17 598 132 (Nat.le_of_ble_eq_true rfl)
      obtain ⟨v25, e25⟩ : ∃ z, M 598 135 = z := ⟨_, rfl⟩
      have b25 : 0 ≤ v25 ∧ v25 ≤ 8 := by rw [← e25]; exact hI_M 598 135 (Nat.le_of_ble_eq_true rfl)
      have e26 : M17 598 135 = v25 := ((w17_3 135 (zne rfl) (zne rfl) (zne rfl) (zne rfl) (zne rfl) (zne rfl) (zne rfl)).trans e25)
      obtain ⟨v28, e28⟩ : ∃ z, M17 598 136 = z := ⟨_, rfl⟩
      have b28 : 0 ≤ v28 ∧ v28 ≤ 1 := by rw [← e28]; exact hI_M17 598 136 (Nat.le_of_ble_eq_true rfl)
      have e30 : M17 598 143 = st := ((w17_3 143 (zne rfl) (zne rfl) (zne rfl) (zne rfl) (zne rfl) (zne rfl) (zne rfl)).trans hst)
      have hmu := mu.eq hst rfl hP (rfl : cr (M 654) P = cr (M 654) P)
      exact jr.vreturn rfl rfl (q _ hI_M17 hH_M17 hS_M17  (AS.up w17_0 (by omega)) (by rcases w17_1 with z | ⟨y1, y2, y3, y4, y5, y6⟩; (exact Or.inl ⟨z, by omega⟩); (have zr := y5; have zc := REr.cr0 y5; obtain ⟨r1, r2, r3, _, _⟩ := y5; have zm := mu.eq (M := M17) (e30) rfl rfl zc; exact Or.inr ⟨by omega, y2, y3, y4, Or.inr ⟨by omega, r1, r2, by rw [e21, r3]; omega, by omega⟩⟩)) (fun a i f598 f602 f603 f604 f605 f624 f670 f671 f672 f673 f674 f675 f676 f677 f678 f679 f680 f681 f682 f683 f684 f685 f686 f687 => ((w17_2 a i f598 f602 f624 f670 f671 f672 f673 f680 f683 f684).trans (hF_M a i f598 f602 f603 f604 f605 f624 f670 f671 f672 f673 f674 f675 f676 f677 f678 f679 f680 f681 f682 f683 f684 f685 f686 f687))) (fun i g6 g10 g11 g12 g59 g60 g61 g62 g63 g64 g65 g66 g110 g112 g122 g131 g132 g134 g135 g136 g137 g138 g139 g143 g145 => ((w17_3 i g112 g122 g132 g134 g136 g137 g138).trans (hG_M i g6 g10 g11 g12 g59 g60 g61 g62 g63 g64 g65 g66 g110 g112 g122 g131 g132 g134 g135 g136 g137 g138 g139 g143 g145))))
theorem r_act_L125 {A : Nat → Option (Nat × (Nat → Int32))} {Q : Option Value → jm → Prop} {L n : Int} {ht : Int → Int} {M0 : jm} (q : ∀ (M' : jm), RI M' → RH M' → RF M' → AS M' (L + 1) → ((M' 598 136 = 1 ∧ M' 598 135 = 0) ∨ (M' 598 136 = 0 ∧ FRS M' ht n (M' 598 122) ∧ 1 ≤ M' 598 122 ∧ M' 598 122 ≤ 8 ∧ ((M' 598 135 ≠ 0 ∧ phi M' = phi M0 ∧ M' 598 143 = M0 598 143) ∨ (M' 598 135 = 0 ∧ 0 ≤ M' 598 132 ∧ M' 598 132 < n ∧ M' 598 131 = ht (M' 598 132) ∧ mu M' < mu M0)))) → (∀ (a : Nat) (i : Int), a ≠ 598 → a ≠ 602 → a ≠ 603 → a ≠ 604 → a ≠ 605 → a ≠ 624 → a ≠ 670 → a ≠ 671 → a ≠ 672 → a ≠ 673 → a ≠ 674 → a ≠ 675 → a ≠ 676 → a ≠ 677 → a ≠ 678 → a ≠ 679 → a ≠ 680 → a ≠ 681 → a ≠ 682 → a ≠ 683 → a ≠ 684 → a ≠ 685 → a ≠ 686 → a ≠ 687 → M' a i = M0 a i) → (∀ (i : Int), i ≠ 6 → i ≠ 10 → i ≠ 11 → i ≠ 12 → i ≠ 59 → i ≠ 60 → i ≠ 61 → i ≠ 62 → i ≠ 63 → i ≠ 64 → i ≠ 65 → i ≠ 66 → i ≠ 110 → i ≠ 112 → i ≠ 122 → i ≠ 131 → i ≠ 132 → i ≠ 134 → i ≠ 135 → i ≠ 136 → i ≠ 137 → i ≠ 138 → i ≠ 139 → i ≠ 143 → i ≠ 145 → M' 598 i = M0 598 i) → Q none M') : ∀ (M : jm) (a : Int) (o : Int), RI M → RH M → RF M → (∀ (a : Nat) (i : Int), a ≠ 598 → a ≠ 602 → a ≠ 603 → a ≠ 604 → a ≠ 605 → a ≠ 624 → a ≠ 670 → a ≠ 671 → a ≠ 672 → a ≠ 673 → a ≠ 674 → a ≠ 675 → a ≠ 676 → a ≠ 677 → a ≠ 678 → a ≠ 679 → a ≠ 680 → a ≠ 681 → a ≠ 682 → a ≠ 683 → a ≠ 684 → a ≠ 685 → a ≠ 686 → a ≠ 687 → M a i = M0 a i) → (∀ (i : Int), i ≠ 6 → i ≠ 10 → i ≠ 11 → i ≠ 12 → i ≠ 59 → i ≠ 60 → i ≠ 61 → i ≠ 62 → i ≠ 63 → i ≠ 64 → i ≠ 65 → i ≠ 66 → i ≠ 110 → i ≠ 112 → i ≠ 122 → i ≠ 131 → i ≠ 132 → i ≠ 134 → i ≠ 135 → i ≠ 136 → i ≠ 137 → i ≠ 138 → i ≠ 139 → i ≠ 143 → i ≠ 145 → M 598 i = M0 598 i) → (-9223372036854775808) ≤ a ∧ a ≤ 9223372036854775807 → 0 ≤ o ∧ o ≤ 1000 → MX M ht n → FRS M ht n (M 598 122) → 1 ≤ M 598 122 ∧ M 598 122 ≤ 8 → AS M L → L ≤ 1999999999 → (0 ≤ M 598 132 ∧ M 598 132 < n) → M 598 131 = ht (M 598 132) → o = M 654 (M 598 132) → a = M 655 (M 598 132) → (M 598 135 = 0 ∧ M 598 136 = 0) → M = M0 → o = 2 → jr A 9 xm_380 125 [(2, .long (Int64.ofInt (a))), (1, .int (Int32.ofInt (o))), (0, .ref (598))] [] M Q := by
    intro M a o hI_M hH_M hS_M hF_M hG_M h_a h_o hy0 hy1 hy2 hy3 hy4 hy5 hy6 hy7 hy8 hy9 hy10 hy11
    have hyM := hy10
    have ho := hy11
    have hp0 := hy0
    have hp1 := hy1
    have hp2 := hy2
    have hp3 := hy3
    have hp4 := hy4
    have hp5 := hy5
    have hp6 := hy6
    have hp7 := hy7
    have hp8 := hy8
    have hp9 := hy9
    subst hyM
    have p0 := hp0
    have p1 := hp1
    have p2 := hp2
    have p3 := hp3
    have p4 := hp4
    have p5 := hp5
    have p6 := hp6
    have p7 := hp7
    have p8 := hp8
    have p9 := hp9
    have hMX := p0
    have hFR := p1
    have hAS := p3
    obtain ⟨P, hP⟩ : ∃ z, M 598 132 = z := ⟨_, rfl⟩
    rw [hP] at p5 p6 p7 p8
    have nb := hMX.1
    have nb2 := hMX.2.1
    obtain ⟨⟨q1, q2, q3, q4, q5, q6⟩, q7, q8, q9⟩ := hMX.2.2.1 P p5.1 p5.2
    rw [← p7] at q3 q4 q5 q6 q7 q8 q9
    rw [← p8] at q7 q8 q9
    have nd : ndo o = 0 := by
      first | (rw [ho]; decide) | (rcases ho with z | z <;> rw [z] <;> decide)
    have dl : dlo o = 0 := by
      first | (rw [ho]; decide) | (rcases ho with z | z <;> rw [z] <;> decide)
    rw [dl] at q4
    rw [nd] at q5
    have q6 := q6 (by unfold exo; omega)
    obtain ⟨t1, t2, t3, t4⟩ := (q7 (by unfold jpo; omega)).resolve_left id
    clear q7
    obtain ⟨Fv, hFv⟩ : ∃ z, M 598 122 = z := ⟨_, rfl⟩
    obtain ⟨hv, hhv⟩ : ∃ z, M 598 131 = z := ⟨_, rfl⟩
    rw [hhv] at p6
    clear q3
    obtain ⟨st, hst⟩ : ∃ z, M 598 143 = z := ⟨_, rfl⟩
    have bst : (0 : Int) ≤ st ∧ st ≤ 300 := by rw [← hst]; exact hI_M 598 143 (Nat.le_of_ble_eq_true rfl)
    have cl := cr_le (M 654) P
    refine jr.aload_n rfl rfl ?_
    refine jr.lload_n rfl rfl ?_
    refine jr.l2i rfl ?_
    refine jr.putf (i := 132) (x := a) rfl rfl (nlt rfl) rfl (nlt rfl) rfl rfl rfl rfl rfl ?_
    have y1 : (ju M 598 132 a) 598 122 = Fv := ((ju_i _ _ (zne (by decide))).trans hFv)
    have y2 : (ju M 598 132 a) 598 131 = hv := ((ju_i _ _ (zne (by decide))).trans hhv)
    have y3 : (ju M 598 132 a) 598 132 = a := (ju_same _ _ _ _)
    obtain ⟨v4, e4⟩ : ∃ z, M 598 135 = z := ⟨_, rfl⟩
    have b4 : 0 ≤ v4 ∧ v4 ≤ 8 := by rw [← e4]; exact hI_M 598 135 (Nat.le_of_ble_eq_true rfl)
    have y5 : (ju M 598 132 a) 598 135 = v4 := ((ju_i _ _ (zne (by decide))).trans e4)
    obtain ⟨v6, e6⟩ : ∃ z, M 598 136 = z := ⟨_, rfl⟩
    have b6 : 0 ≤ v6 ∧ v6 ≤ 1 := by rw [← e6]; exact hI_M 598 136 (Nat.le_of_ble_eq_true rfl)
    have y7 : (ju M 598 132 a) 598 136 = v6 := ((ju_i _ _ (zne (by decide))).trans e6)
    have y8 : (ju M 598 132 a) 598 143 = st := ((ju_i _ _ (zne (by decide))).trans hst)
    have hmu := mu.eq hst rfl hP (rfl : cr (M 654) P = cr (M 654) P)
    have zph : phi (ju M 598 132 a) = phi M := (phi.fr (M := M) (M' := (ju M 598 132 a)) ((ju_i _ _ (zne (by decide))).trans (rfl)) (fun i => ((ju_c _ _ (by decide)).trans (rfl))))
    have zm := mu.eq (M := (ju M 598 132 a)) ((ju_i _ _ (zne (by decide))).trans hst) zph (ju_same _ _ _ _) (show cr ((ju M 598 132 a) 654) a = 0 by rw [show (ju M 598 132 a) 654 = M 654 from funext (fun i => ((ju_c _ _ (by decide)).trans (rfl)))]; exact MX.cr0 hMX (by omega) (by omega) t4)
    exact jr.vreturn rfl rfl (q _ (RI.u hI_M (a := 598) (i := 132) (show (0 : Int) ≤ _ ∧ _ ≤ (2200 : Int) from by omega)) (RH.o hH_M (by decide) (by decide) (by decide)) (RF.o hS_M (by decide) (by decide))  (AS.up (AS.o hAS (by decide) (Or.inr (by decide))) (by omega)) (Or.inr ⟨by omega, (FRS.fr hFR (fun i => ((ju_c _ _ (by decide)).trans (rfl))) (fun i => ((ju_c _ _ (by decide)).trans (rfl))) (fun i => ((ju_c _ _ (by decide)).trans (rfl))) ((ju_i _ _ (zne (by decide))).trans (rfl)) (by omega)), by omega, by omega, Or.inr ⟨by omega, by omega, by omega, (by rw [((ju_i _ _ (zne (by decide))).trans hhv), (ju_same _ _ _ _), t3]; split <;> omega), by omega⟩⟩) (fun a i f598 f602 f603 f604 f605 f624 f670 f671 f672 f673 f674 f675 f676 f677 f678 f679 f680 f681 f682 f683 f684 f685 f686 f687 => ((ju_c _ _ f598).trans (hF_M a i f598 f602 f603 f604 f605 f624 f670 f671 f672 f673 f674 f675 f676 f677 f678 f679 f680 f681 f682 f683 f684 f685 f686 f687))) (fun i g6 g10 g11 g12 g59 g60 g61 g62 g63 g64 g65 g66 g110 g112 g122 g131 g132 g134 g135 g136 g137 g138 g139 g143 g145 => ((ju_i _ _ g132).trans (hG_M i g6 g10 g11 g12 g59 g60 g61 g62 g63 g64 g65 g66 g110 g112 g122 g131 g132 g134 g135 g136 g137 g138 g139 g143 g145))))
theorem r_act_L94 {A : Nat → Option (Nat × (Nat → Int32))} {Q : Option Value → jm → Prop} {L n : Int} {ht : Int → Int} {M0 : jm} (q : ∀ (M' : jm), RI M' → RH M' → RF M' → AS M' (L + 1) → ((M' 598 136 = 1 ∧ M' 598 135 = 0) ∨ (M' 598 136 = 0 ∧ FRS M' ht n (M' 598 122) ∧ 1 ≤ M' 598 122 ∧ M' 598 122 ≤ 8 ∧ ((M' 598 135 ≠ 0 ∧ phi M' = phi M0 ∧ M' 598 143 = M0 598 143) ∨ (M' 598 135 = 0 ∧ 0 ≤ M' 598 132 ∧ M' 598 132 < n ∧ M' 598 131 = ht (M' 598 132) ∧ mu M' < mu M0)))) → (∀ (a : Nat) (i : Int), a ≠ 598 → a ≠ 602 → a ≠ 603 → a ≠ 604 → a ≠ 605 → a ≠ 624 → a ≠ 670 → a ≠ 671 → a ≠ 672 → a ≠ 673 → a ≠ 674 → a ≠ 675 → a ≠ 676 → a ≠ 677 → a ≠ 678 → a ≠ 679 → a ≠ 680 → a ≠ 681 → a ≠ 682 → a ≠ 683 → a ≠ 684 → a ≠ 685 → a ≠ 686 → a ≠ 687 → M' a i = M0 a i) → (∀ (i : Int), i ≠ 6 → i ≠ 10 → i ≠ 11 → i ≠ 12 → i ≠ 59 → i ≠ 60 → i ≠ 61 → i ≠ 62 → i ≠ 63 → i ≠ 64 → i ≠ 65 → i ≠ 66 → i ≠ 110 → i ≠ 112 → i ≠ 122 → i ≠ 131 → i ≠ 132 → i ≠ 134 → i ≠ 135 → i ≠ 136 → i ≠ 137 → i ≠ 138 → i ≠ 139 → i ≠ 143 → i ≠ 145 → M' 598 i = M0 598 i) → Q none M') : ∀ (M : jm) (a : Int) (o : Int), RI M → RH M → RF M → (∀ (a : Nat) (i : Int), a ≠ 598 → a ≠ 602 → a ≠ 603 → a ≠ 604 → a ≠ 605 → a ≠ 624 → a ≠ 670 → a ≠ 671 → a ≠ 672 → a ≠ 673 → a ≠ 674 → a ≠ 675 → a ≠ 676 → a ≠ 677 → a ≠ 678 → a ≠ 679 → a ≠ 680 → a ≠ 681 → a ≠ 682 → a ≠ 683 → a ≠ 684 → a ≠ 685 → a ≠ 686 → a ≠ 687 → M a i = M0 a i) → (∀ (i : Int), i ≠ 6 → i ≠ 10 → i ≠ 11 → i ≠ 12 → i ≠ 59 → i ≠ 60 → i ≠ 61 → i ≠ 62 → i ≠ 63 → i ≠ 64 → i ≠ 65 → i ≠ 66 → i ≠ 110 → i ≠ 112 → i ≠ 122 → i ≠ 131 → i ≠ 132 → i ≠ 134 → i ≠ 135 → i ≠ 136 → i ≠ 137 → i ≠ 138 → i ≠ 139 → i ≠ 143 → i ≠ 145 → M 598 i = M0 598 i) → (-9223372036854775808) ≤ a ∧ a ≤ 9223372036854775807 → 0 ≤ o ∧ o ≤ 1000 → MX M ht n → FRS M ht n (M 598 122) → 1 ≤ M 598 122 ∧ M 598 122 ≤ 8 → AS M L → L ≤ 1999999999 → (0 ≤ M 598 132 ∧ M 598 132 < n) → M 598 131 = ht (M 598 132) → o = M 654 (M 598 132) → a = M 655 (M 598 132) → (M 598 135 = 0 ∧ M 598 136 = 0) → M = M0 → o = 1 → jr A 9 xm_380 94 [(2, .long (Int64.ofInt (a))), (1, .int (Int32.ofInt (o))), (0, .ref (598))] [] M Q := by
    intro M a o hI_M hH_M hS_M hF_M hG_M h_a h_o hy0 hy1 hy2 hy3 hy4 hy5 hy6 hy7 hy8 hy9 hy10 hy11
    have hyM := hy10
    have ho := hy11
    have hp0 := hy0
    have hp1 := hy1
    have hp2 := hy2
    have hp3 := hy3
    have hp4 := hy4
    have hp5 := hy5
    have hp6 := hy6
    have hp7 := hy7
    have hp8 := hy8
    have hp9 := hy9
    subst hyM
    have p0 := hp0
    have p1 := hp1
    have p2 := hp2
    have p3 := hp3
    have p4 := hp4
    have p5 := hp5
    have p6 := hp6
    have p7 := hp7
    have p8 := hp8
    have p9 := hp9
    have hMX := p0
    have hFR := p1
    have hAS := p3
    obtain ⟨P, hP⟩ : ∃ z, M 598 132 = z := ⟨_, rfl⟩
    rw [hP] at p5 p6 p7 p8
    have nb := hMX.1
    have nb2 := hMX.2.1
    obtain ⟨⟨q1, q2, q3, q4, q5, q6⟩, q7, q8, q9⟩ := hMX.2.2.1 P p5.1 p5.2
    rw [← p7] at q3 q4 q5 q6 q7 q8 q9
    rw [← p8] at q7 q8 q9
    have nd : ndo o = 1 := by
      first | (rw [ho]; decide) | (rcases ho with z | z <;> rw [z] <;> decide)
    have dl : dlo o = -1 := by
      first | (rw [ho]; decide) | (rcases ho with z | z <;> rw [z] <;> decide)
    rw [dl] at q4
    rw [nd] at q5
    have q6 := q6 (by unfold exo; omega)
    obtain ⟨t1, t2, t3, t4⟩ := (q7 (by unfold jpo; omega)).resolve_left id
    clear q7
    have pn : P + 1 < n := by
      by_cases y : P = n - 1
      · exfalso
        have z2 := hMX.2.2.2.2
        rw [← y, ← p7] at z2
        omega
      · omega
    have cN : cr (M 654) (P + 1) = 0 := MX.cr0 hMX (by omega) pn (by rw [show P + 1 - 1 = P by omega, ← p7]; omega)
    obtain ⟨Fv, hFv⟩ : ∃ z, M 598 122 = z := ⟨_, rfl⟩
    obtain ⟨hv, hhv⟩ : ∃ z, M 598 131 = z := ⟨_, rfl⟩
    rw [hhv] at p6
    clear q3
    obtain ⟨st, hst⟩ : ∃ z, M 598 143 = z := ⟨_, rfl⟩
    have bst : (0 : Int) ≤ st ∧ st ≤ 300 := by rw [← hst]; exact hI_M 598 143 (Nat.le_of_ble_eq_true rfl)
    have cl := cr_le (M 654) P
    refine jr.aload_n rfl rfl ?_
    refine jr.dup rfl rfl ?_
    refine jr.getf (i := 131) (x := hv) (v := .int (Int32.ofInt (hv))) rfl rfl (nlt rfl) rfl (nlt rfl) rfl rfl hhv rfl ?_
    refine jr.iconst rfl ?_
    refine jr.isub rfl ?_
    refine jr.putf (i := 131) (x := (hv - 1)) rfl rfl (nlt rfl) rfl (nlt rfl) rfl rfl rfl rfl rfl ?_
    refine jr.aload_n rfl rfl ?_
    refine jr.getf (i := 130) (v := .ref 686) rfl rfl (nlt rfl) rfl (nlt rfl) rfl rfl rfl rfl ?_
    refine jr.aload_n rfl rfl ?_
    refine jr.getf (i := 131) (x := (hv - 1)) (v := .int (Int32.ofInt (hv - 1))) rfl rfl (nlt rfl) rfl (nlt rfl) rfl rfl (ju_same _ _ _ _) rfl ?_
    obtain ⟨v1, e1⟩ : ∃ z, M 686 (hv - 1) = z := ⟨_, rfl⟩
    have b1 : (-9223372036854775808) ≤ v1 ∧ v1 ≤ 9223372036854775807 := by rw [← e1]; exact (by have q := hI_M 686 (hv - 1) (Nat.le_of_ble_eq_true rfl); rw [xri_row rfl rfl] at q; exact q)
    refine jr.lald (i := (hv - 1)) (x := v1) rfl (nlt rfl) rfl (Nat.le_of_ble_eq_true rfl) (by omega) (by omega) ((ju_c _ _ (by decide)).trans e1) ?_
    refine jr.lconst (x := 0) rfl (by decide) ?_
    refine jr.lcmp_ne rfl rfl rfl (by omega) (by omega) (fun h114 => ?_) (fun h114 => ?_)
    · have y2 : (ju M 598 131 (hv - 1)) 598 122 = Fv := ((ju_i _ _ (zne (by decide))).trans hFv)
      obtain ⟨v3, e3⟩ : ∃ z, M 598 136 = z := ⟨_, rfl⟩
      have b3 : 0 ≤ v3 ∧ v3 ≤ 1 := by rw [← e3]; exact hI_M 598 136 (Nat.le_of_ble_eq_true rfl)
      obtain ⟨v4, e4⟩ : ∃ z, M 598 135 = z := ⟨_, rfl⟩
      have b4 : 0 ≤ v4 ∧ v4 ≤ 8 := by rw [← e4]; exact hI_M 598 135 (Nat.le_of_ble_eq_true rfl)
      refine jr.pick (ls := [_]) [2] rfl rfl ?_
      exact r_act_L487 (L := L) (n := n) (ht := ht) q (ju M 598 131 (hv - 1))  (RI.u hI_M (a := 598) (i := 131) (show (0 : Int) ≤ _ ∧ _ ≤ (400 : Int) from by omega)) (RH.o hH_M (by decide) (by decide) (by decide)) (RF.o hS_M (by decide) (by decide))  (fun a i f598 f602 f603 f604 f605 f624 f670 f671 f672 f673 f674 f675 f676 f677 f678 f679 f680 f681 f682 f683 f684 f685 f686 f687 => ((ju_c _ _ f598).trans (hF_M a i f598 f602 f603 f604 f605 f624 f670 f671 f672 f673 f674 f675 f676 f677 f678 f679 f680 f681 f682 f683 f684 f685 f686 f687))) (fun i g6 g10 g11 g12 g59 g60 g61 g62 g63 g64 g65 g66 g110 g112 g122 g131 g132 g134 g135 g136 g137 g138 g139 g143 g145 => ((ju_i _ _ g131).trans (hG_M i g6 g10 g11 g12 g59 g60 g61 g62 g63 g64 g65 g66 g110 g112 g122 g131 g132 g134 g135 g136 g137 g138 g139 g143 g145)))  (FRS.fr hFR (fun i => ((ju_c _ _ (by decide)).trans (rfl))) (fun i => ((ju_c _ _ (by decide)).trans (rfl))) (fun i => ((ju_c _ _ (by decide)).trans (rfl))) ((ju_i _ _ (zne (by decide))).trans (rfl)) (by omega)) (AS.up (AS.o hAS (by decide) (Or.inr (by decide))) (by omega)) (by rw [((ju_i _ _ (zne (by decide))).trans hFv)] <;> omega) (phi.fr (M := M) (M' := (ju M 598 131 (hv - 1))) ((ju_i _ _ (zne (by decide))).trans (rfl)) (fun i => ((ju_c _ _ (by decide)).trans (rfl)))) (by rw [((ju_i _ _ (zne (by decide))).trans e3)] <;> omega) (by rw [((ju_i _ _ (zne (by decide))).trans hP)] <;> omega) (by omega) (fun _ => by rw [(ju_same _ _ _ _), hP, q4]; omega) (by rw [((ju_i _ _ (zne (by decide))).trans hst), ((ju_i _ _ (zne (by decide))).trans e4), hst, hP]; first | (exact Or.inl ⟨by omega, cN⟩) | (exact Or.inr ⟨by omega, by omega⟩))
    · refine jr.aload_n rfl rfl ?_
      refine jr.lload_n rfl rfl ?_
      refine jr.l2i rfl ?_
      refine jr.putf (i := 132) (x := a) rfl rfl (nlt rfl) rfl (nlt rfl) rfl rfl rfl rfl rfl ?_
      have y5 : (ju (ju M 598 131 (hv - 1)) 598 132 a) 598 122 = Fv := ((ju_i _ _ (zne (by decide))).trans ((ju_i _ _ (zne (by decide))).trans hFv))
      have y6 : (ju (ju M 598 131 (hv - 1)) 598 132 a) 598 131 = hv - 1 := ((ju_i _ _ (zne (by decide))).trans (ju_same _ _ _ _))
      have y7 : (ju (ju M 598 131 (hv - 1)) 598 132 a) 598 132 = a := (ju_same _ _ _ _)
      obtain ⟨v8, e8⟩ : ∃ z, M 598 135 = z := ⟨_, rfl⟩
      have b8 : 0 ≤ v8 ∧ v8 ≤ 8 := by rw [← e8]; exact hI_M 598 135 (Nat.le_of_ble_eq_true rfl)
      have y9 : (ju (ju M 598 131 (hv - 1)) 598 132 a) 598 135 = v8 := ((ju_i _ _ (zne (by decide))).trans ((ju_i _ _ (zne (by decide))).trans e8))
      obtain ⟨v10, e10⟩ : ∃ z, M 598 136 = z := ⟨_, rfl⟩
      have b10 : 0 ≤ v10 ∧ v10 ≤ 1 := by rw [← e10]; exact hI_M 598 136 (Nat.le_of_ble_eq_true rfl)
      have y11 : (ju (ju M 598 131 (hv - 1)) 598 132 a) 598 136 = v10 := ((ju_i _ _ (zne (by decide))).trans ((ju_i _ _ (zne (by decide))).trans e10))
      have y12 : (ju (ju M 598 131 (hv - 1)) 598 132 a) 598 143 = st := ((ju_i _ _ (zne (by decide))).trans ((ju_i _ _ (zne (by decide))).trans hst))
      have hmu := mu.eq hst rfl hP (rfl : cr (M 654) P = cr (M 654) P)
      have zph : phi (ju (ju M 598 131 (hv - 1)) 598 132 a) = phi M := (phi.fr (M := M) (M' := (ju (ju M 598 131 (hv - 1)) 598 132 a)) ((ju_i _ _ (zne (by decide))).trans ((ju_i _ _ (zne (by decide))).trans (rfl))) (fun i => ((ju_c _ _ (by decide)).trans ((ju_c _ _ (by decide)).trans (rfl)))))
      have zm := mu.eq (M := (ju (ju M 598 131 (hv - 1)) 598 132 a)) ((ju_i _ _ (zne (by decide))).trans ((ju_i _ _ (zne (by decide))).trans hst)) zph (ju_same _ _ _ _) (show cr ((ju (ju M 598 131 (hv - 1)) 598 132 a) 654) a = 0 by rw [show (ju (ju M 598 131 (hv - 1)) 598 132 a) 654 = M 654 from funext (fun i => ((ju_c _ _ (by decide)).trans ((ju_c _ _ (by decide)).trans (rfl))))]; exact MX.cr0 hMX (by omega) (by omega) t4)
      exact jr.vreturn rfl rfl (q _ (RI.u (RI.u hI_M (a := 598) (i := 131) (show (0 : Int) ≤ _ ∧ _ ≤ (400 : Int) from by omega)) (a := 598) (i := 132) (show (0 : Int) ≤ _ ∧ _ ≤ (2200 : Int) from by omega)) (RH.o (RH.o hH_M (by decide) (by decide) (by decide)) (by decide) (by decide) (by decide)) (RF.o (RF.o hS_M (by decide) (by decide)) (by decide) (by decide))  (AS.up (AS.o (AS.o hAS (by decide) (Or.inr (by decide))) (by decide) (Or.inr (by decide))) (by omega)) (Or.inr ⟨by omega, (FRS.fr hFR (fun i => ((ju_c _ _ (by decide)).trans ((ju_c _ _ (by decide)).trans (rfl)))) (fun i => ((ju_c _ _ (by decide)).trans ((ju_c _ _ (by decide)).trans (rfl)))) (fun i => ((ju_c _ _ (by decide)).trans ((ju_c _ _ (by decide)).trans (rfl)))) ((ju_i _ _ (zne (by decide))).trans ((ju_i _ _ (zne (by decide))).trans (rfl))) (by omega)), by omega, by omega, Or.inr ⟨by omega, by omega, by omega, (by rw [((ju_i _ _ (zne (by decide))).trans (ju_same _ _ _ _)), (ju_same _ _ _ _), t3]; split <;> omega), by omega⟩⟩) (fun a i f598 f602 f603 f604 f605 f624 f670 f671 f672 f673 f674 f675 f676 f677 f678 f679 f680 f681 f682 f683 f684 f685 f686 f687 => ((ju_c _ _ f598).trans ((ju_c _ _ f598).trans (hF_M a i f598 f602 f603 f604 f605 f624 f670 f671 f672 f673 f674 f675 f676 f677 f678 f679 f680 f681 f682 f683 f684 f685 f686 f687)))) (fun i g6 g10 g11 g12 g59 g60 g61 g62 g63 g64 g65 g66 g110 g112 g122 g131 g132 g134 g135 g136 g137 g138 g139 g143 g145 => ((ju_i _ _ g132).trans ((ju_i _ _ g131).trans (hG_M i g6 g10 g11 g12 g59 g60 g61 g62 g63 g64 g65 g66 g110 g112 g122 g131 g132 g134 g135 g136 g137 g138 g139 g143 g145)))))
theorem r_act_L64 {A : Nat → Option (Nat × (Nat → Int32))} {Q : Option Value → jm → Prop} {L n : Int} {ht : Int → Int} {M0 : jm} (q : ∀ (M' : jm), RI M' → RH M' → RF M' → AS M' (L + 1) → ((M' 598 136 = 1 ∧ M' 598 135 = 0) ∨ (M' 598 136 = 0 ∧ FRS M' ht n (M' 598 122) ∧ 1 ≤ M' 598 122 ∧ M' 598 122 ≤ 8 ∧ ((M' 598 135 ≠ 0 ∧ phi M' = phi M0 ∧ M' 598 143 = M0 598 143) ∨ (M' 598 135 = 0 ∧ 0 ≤ M' 598 132 ∧ M' 598 132 < n ∧ M' 598 131 = ht (M' 598 132) ∧ mu M' < mu M0)))) → (∀ (a : Nat) (i : Int), a ≠ 598 → a ≠ 602 → a ≠ 603 → a ≠ 604 → a ≠ 605 → a ≠ 624 → a ≠ 670 → a ≠ 671 → a ≠ 672 → a ≠ 673 → a ≠ 674 → a ≠ 675 → a ≠ 676 → a ≠ 677 → a ≠ 678 → a ≠ 679 → a ≠ 680 → a ≠ 681 → a ≠ 682 → a ≠ 683 → a ≠ 684 → a ≠ 685 → a ≠ 686 → a ≠ 687 → M' a i = M0 a i) → (∀ (i : Int), i ≠ 6 → i ≠ 10 → i ≠ 11 → i ≠ 12 → i ≠ 59 → i ≠ 60 → i ≠ 61 → i ≠ 62 → i ≠ 63 → i ≠ 64 → i ≠ 65 → i ≠ 66 → i ≠ 110 → i ≠ 112 → i ≠ 122 → i ≠ 131 → i ≠ 132 → i ≠ 134 → i ≠ 135 → i ≠ 136 → i ≠ 137 → i ≠ 138 → i ≠ 139 → i ≠ 143 → i ≠ 145 → M' 598 i = M0 598 i) → Q none M') : ∀ (M : jm) (a : Int) (o : Int), RI M → RH M → RF M → (∀ (a : Nat) (i : Int), a ≠ 598 → a ≠ 602 → a ≠ 603 → a ≠ 604 → a ≠ 605 → a ≠ 624 → a ≠ 670 → a ≠ 671 → a ≠ 672 → a ≠ 673 → a ≠ 674 → a ≠ 675 → a ≠ 676 → a ≠ 677 → a ≠ 678 → a ≠ 679 → a ≠ 680 → a ≠ 681 → a ≠ 682 → a ≠ 683 → a ≠ 684 → a ≠ 685 → a ≠ 686 → a ≠ 687 → M a i = M0 a i) → (∀ (i : Int), i ≠ 6 → i ≠ 10 → i ≠ 11 → i ≠ 12 → i ≠ 59 → i ≠ 60 → i ≠ 61 → i ≠ 62 → i ≠ 63 → i ≠ 64 → i ≠ 65 → i ≠ 66 → i ≠ 110 → i ≠ 112 → i ≠ 122 → i ≠ 131 → i ≠ 132 → i ≠ 134 → i ≠ 135 → i ≠ 136 → i ≠ 137 → i ≠ 138 → i ≠ 139 → i ≠ 143 → i ≠ 145 → M 598 i = M0 598 i) → (-9223372036854775808) ≤ a ∧ a ≤ 9223372036854775807 → 0 ≤ o ∧ o ≤ 1000 → MX M ht n → FRS M ht n (M 598 122) → 1 ≤ M 598 122 ∧ M 598 122 ≤ 8 → AS M L → L ≤ 1999999999 → (0 ≤ M 598 132 ∧ M 598 132 < n) → M 598 131 = ht (M 598 132) → o = M 654 (M 598 132) → a = M 655 (M 598 132) → (M 598 135 = 0 ∧ M 598 136 = 0) → M = M0 → o = 0 → jr A 9 xm_380 64 [(2, .long (Int64.ofInt (a))), (1, .int (Int32.ofInt (o))), (0, .ref (598))] [] M Q := by
    intro M a o hI_M hH_M hS_M hF_M hG_M h_a h_o hy0 hy1 hy2 hy3 hy4 hy5 hy6 hy7 hy8 hy9 hy10 hy11
    have hyM := hy10
    have ho := hy11
    have hp0 := hy0
    have hp1 := hy1
    have hp2 := hy2
    have hp3 := hy3
    have hp4 := hy4
    have hp5 := hy5
    have hp6 := hy6
    have hp7 := hy7
    have hp8 := hy8
    have hp9 := hy9
    subst hyM
    have p0 := hp0
    have p1 := hp1
    have p2 := hp2
    have p3 := hp3
    have p4 := hp4
    have p5 := hp5
    have p6 := hp6
    have p7 := hp7
    have p8 := hp8
    have p9 := hp9
    have hMX := p0
    have hFR := p1
    have hAS := p3
    obtain ⟨P, hP⟩ : ∃ z, M 598 132 = z := ⟨_, rfl⟩
    rw [hP] at p5 p6 p7 p8
    have nb := hMX.1
    have nb2 := hMX.2.1
    obtain ⟨⟨q1, q2, q3, q4, q5, q6⟩, q7, q8, q9⟩ := hMX.2.2.1 P p5.1 p5.2
    rw [← p7] at q3 q4 q5 q6 q7 q8 q9
    rw [← p8] at q7 q8 q9
    have nd : ndo o = 0 := by
      first | (rw [ho]; decide) | (rcases ho with z | z <;> rw [z] <;> decide)
    have dl : dlo o = 0 := by
      first | (rw [ho]; decide) | (rcases ho with z | z <;> rw [z] <;> decide)
    rw [dl] at q4
    rw [nd] at q5
    have q6 := q6 (by unfold exo; omega)
    clear q7
    have pn : P + 1 < n := by
      by_cases y : P = n - 1
      · exfalso
        have z2 := hMX.2.2.2.2
        rw [← y, ← p7] at z2
        omega
      · omega
    obtain ⟨Fv, hFv⟩ : ∃ z, M 598 122 = z := ⟨_, rfl⟩
    obtain ⟨hv, hhv⟩ : ∃ z, M 598 131 = z := ⟨_, rfl⟩
    rw [hhv] at p6
    clear q3
    obtain ⟨st, hst⟩ : ∃ z, M 598 143 = z := ⟨_, rfl⟩
    have bst : (0 : Int) ≤ st ∧ st ≤ 300 := by rw [← hst]; exact hI_M 598 143 (Nat.le_of_ble_eq_true rfl)
    have cl := cr_le (M 654) P
    refine jr.aload_n rfl rfl ?_
    refine jr.getf (i := 143) (x := st) (v := .int (Int32.ofInt (st))) rfl rfl (nlt rfl) rfl (nlt rfl) rfl rfl hst rfl ?_
    refine jr.sipush rfl (by decide) ?_
    refine jr.icmp_ne rfl rfl (by first | (refine rgb (by assumption) ?_; exact rfl) | omega) (rgl rfl) (fun h71 => ?_) (fun h71 => ?_)
    · have sx71 : st ≤ (299 : Int) := by omega
      clear h71
      refine jr.aload_n rfl rfl ?_
      refine jr.dup rfl rfl ?_
      refine jr.getf (i := 143) (x := st) (v := .int (Int32.ofInt (st))) rfl rfl (nlt rfl) rfl (nlt rfl) rfl rfl hst rfl ?_
      refine jr.iconst rfl ?_
      refine jr.iadd rfl ?_
      refine jr.putf (i := 143) (x := (st + 1)) rfl rfl (nlt rfl) rfl (nlt rfl) rfl rfl rfl rfl rfl ?_
      refine jr.goto rfl rfl ?_
      have y1 : (ju M 598 143 (st + 1)) 598 122 = Fv := ((ju_i _ _ (zne (by decide))).trans hFv)
      obtain ⟨v2, e2⟩ : ∃ z, M 598 136 = z := ⟨_, rfl⟩
      have b2 : 0 ≤ v2 ∧ v2 ≤ 1 := by rw [← e2]; exact hI_M 598 136 (Nat.le_of_ble_eq_true rfl)
      obtain ⟨v3, e3⟩ : ∃ z, M 598 135 = z := ⟨_, rfl⟩
      have b3 : 0 ≤ v3 ∧ v3 ≤ 8 := by rw [← e3]; exact hI_M 598 135 (Nat.le_of_ble_eq_true rfl)
      refine jr.pick (ls := [_]) [2] rfl rfl ?_
      exact r_act_L487 (L := L) (n := n) (ht := ht) q (ju M 598 143 (st + 1))  (RI.u hI_M (a := 598) (i := 143) (show (0 : Int) ≤ _ ∧ _ ≤ (300 : Int) from by omega)) (RH.o hH_M (by decide) (by decide) (by decide)) (RF.o hS_M (by decide) (by decide))  (fun a i f598 f602 f603 f604 f605 f624 f670 f671 f672 f673 f674 f675 f676 f677 f678 f679 f680 f681 f682 f683 f684 f685 f686 f687 => ((ju_c _ _ f598).trans (hF_M a i f598 f602 f603 f604 f605 f624 f670 f671 f672 f673 f674 f675 f676 f677 f678 f679 f680 f681 f682 f683 f684 f685 f686 f687))) (fun i g6 g10 g11 g12 g59 g60 g61 g62 g63 g64 g65 g66 g110 g112 g122 g131 g132 g134 g135 g136 g137 g138 g139 g143 g145 => ((ju_i _ _ g143).trans (hG_M i g6 g10 g11 g12 g59 g60 g61 g62 g63 g64 g65 g66 g110 g112 g122 g131 g132 g134 g135 g136 g137 g138 g139 g143 g145)))  (FRS.fr hFR (fun i => ((ju_c _ _ (by decide)).trans (rfl))) (fun i => ((ju_c _ _ (by decide)).trans (rfl))) (fun i => ((ju_c _ _ (by decide)).trans (rfl))) ((ju_i _ _ (zne (by decide))).trans (rfl)) (by omega)) (AS.up (AS.o hAS (by decide) (Or.inr (by decide))) (by omega)) (by rw [((ju_i _ _ (zne (by decide))).trans hFv)] <;> omega) (phi.fr (M := M) (M' := (ju M 598 143 (st + 1))) ((ju_i _ _ (zne (by decide))).trans (rfl)) (fun i => ((ju_c _ _ (by decide)).trans (rfl)))) (by rw [((ju_i _ _ (zne (by decide))).trans e2)] <;> omega) (by rw [((ju_i _ _ (zne (by decide))).trans hP)] <;> omega) (by omega) (fun _ => by rw [((ju_i _ _ (zne (by decide))).trans hhv), hP, q4]; omega) (by rw [(ju_same _ _ _ _), ((ju_i _ _ (zne (by decide))).trans e3), hst, hP]; first | (exact Or.inl ⟨by omega, cN⟩) | (exact Or.inr ⟨by omega, by omega⟩))
    · refine jr.aload_n rfl rfl ?_
      refine jr.bipush rfl (jbp _ (nlt rfl)) ?_
      refine jr.putf (i := 135) (x := 8) rfl rfl (nlt rfl) rfl (nlt rfl) rfl rfl rfl rfl rfl ?_
      have y4 : (ju M 598 135 8) 598 122 = Fv := ((ju_i _ _ (zne (by decide))).trans hFv)
      have y5 : (ju M 598 135 8) 598 131 = hv := ((ju_i _ _ (zne (by decide))).trans hhv)
      have y6 : (ju M 598 135 8) 598 132 = P := ((ju_i _ _ (zne (by decide))).trans hP)
      have y7 : (ju M 598 135 8) 598 135 = 8 := (ju_same _ _ _ _)
      obtain ⟨v8, e8⟩ : ∃ z, M 598 136 = z := ⟨_, rfl⟩
      have b8 : 0 ≤ v8 ∧ v8 ≤ 1 := by rw [← e8]; exact hI_M 598 136 (Nat.le_of_ble_eq_true rfl)
      have y9 : (ju M 598 135 8) 598 136 = v8 := ((ju_i _ _ (zne (by decide))).trans e8)
      have y10 : (ju M 598 135 8) 598 143 = st := ((ju_i _ _ (zne (by decide))).trans hst)
      exact jr.vreturn rfl rfl (q _ (RI.u hI_M (a := 598) (i := 135) (show (0 : Int) ≤ _ ∧ _ ≤ (8 : Int) from by omega)) (RH.o hH_M (by decide) (by decide) (by decide)) (RF.o hS_M (by decide) (by decide))  (AS.up (AS.o hAS (by decide) (Or.inr (by decide))) (by omega)) (Or.inr ⟨by omega, (FRS.fr hFR (fun i => ((ju_c _ _ (by decide)).trans (rfl))) (fun i => ((ju_c _ _ (by decide)).trans (rfl))) (fun i => ((ju_c _ _ (by decide)).trans (rfl))) ((ju_i _ _ (zne (by decide))).trans (rfl)) (by omega)), by omega, by omega, Or.inl ⟨by omega, (phi.fr (M := M) (M' := (ju M 598 135 8)) ((ju_i _ _ (zne (by decide))).trans (rfl)) (fun i => ((ju_c _ _ (by decide)).trans (rfl)))), by omega⟩⟩) (fun a i f598 f602 f603 f604 f605 f624 f670 f671 f672 f673 f674 f675 f676 f677 f678 f679 f680 f681 f682 f683 f684 f685 f686 f687 => ((ju_c _ _ f598).trans (hF_M a i f598 f602 f603 f604 f605 f624 f670 f671 f672 f673 f674 f675 f676 f677 f678 f679 f680 f681 f682 f683 f684 f685 f686 f687))) (fun i g6 g10 g11 g12 g59 g60 g61 g62 g63 g64 g65 g66 g110 g112 g122 g131 g132 g134 g135 g136 g137 g138 g139 g143 g145 => ((ju_i _ _ g135).trans (hG_M i g6 g10 g11 g12 g59 g60 g61 g62 g63 g64 g65 g66 g110 g112 g122 g131 g132 g134 g135 g136 g137 g138 g139 g143 g145))))
theorem r_act {A : Nat → Option (Nat × (Nat → Int32))} {Q : Option Value → jm → Prop} {L n : Int} {ht : Int → Int} {M : jm} (hI_M : RI M) (hH_M : RH M) (hS_M : RF M) {o : Int} (h_o : 0 ≤ o ∧ o ≤ 1000) {a : Int} (h_a : (-9223372036854775808) ≤ a ∧ a ≤ 9223372036854775807) (p0 : MX M ht n) (p1 : FRS M ht n (M 598 122)) (p2 : 1 ≤ M 598 122 ∧ M 598 122 ≤ 8) (p3 : AS M L) (p4 : L ≤ 1999999999) (p5 : (0 ≤ M 598 132 ∧ M 598 132 < n)) (p6 : M 598 131 = ht (M 598 132)) (p7 : o = M 654 (M 598 132)) (p8 : a = M 655 (M 598 132)) (p9 : (M 598 135 = 0 ∧ M 598 136 = 0)) (q : ∀ (M' : jm), RI M' → RH M' → RF M' → AS M' (L + 1) → ((M' 598 136 = 1 ∧ M' 598 135 = 0) ∨ (M' 598 136 = 0 ∧ FRS M' ht n (M' 598 122) ∧ 1 ≤ M' 598 122 ∧ M' 598 122 ≤ 8 ∧ ((M' 598 135 ≠ 0 ∧ phi M' = phi M ∧ M' 598 143 = M 598 143) ∨ (M' 598 135 = 0 ∧ 0 ≤ M' 598 132 ∧ M' 598 132 < n ∧ M' 598 131 = ht (M' 598 132) ∧ mu M' < mu M)))) → (∀ (a : Nat) (i : Int), a ≠ 598 → a ≠ 602 → a ≠ 603 → a ≠ 604 → a ≠ 605 → a ≠ 624 → a ≠ 670 → a ≠ 671 → a ≠ 672 → a ≠ 673 → a ≠ 674 → a ≠ 675 → a ≠ 676 → a ≠ 677 → a ≠ 678 → a ≠ 679 → a ≠ 680 → a ≠ 681 → a ≠ 682 → a ≠ 683 → a ≠ 684 → a ≠ 685 → a ≠ 686 → a ≠ 687 → M' a i = M a i) → (∀ (i : Int), i ≠ 6 → i ≠ 10 → i ≠ 11 → i ≠ 12 → i ≠ 59 → i ≠ 60 → i ≠ 61 → i ≠ 62 → i ≠ 63 → i ≠ 64 → i ≠ 65 → i ≠ 66 → i ≠ 110 → i ≠ 112 → i ≠ 122 → i ≠ 131 → i ≠ 132 → i ≠ 134 → i ≠ 135 → i ≠ 136 → i ≠ 137 → i ≠ 138 → i ≠ 139 → i ≠ 143 → i ≠ 145 → M' 598 i = M 598 i) → Q none M') : jc A 10 380 [.ref (598), .int (Int32.ofInt (o)), .long (Int64.ofInt (a))] M Q := by
  refine jc_of (m := xm_380) rfl (Nat.le_of_ble_eq_true rfl) rfl ?_
  refine jr.iload_n rfl rfl ?_
  rcases (show o = 0 ∨ o = 1 ∨ o = 2 ∨ o = 3 ∨ o = 4 ∨ o = 5 ∨ o = 6 ∨ o = 7 ∨ o = 8 ∨ o = 9 ∨ o = 10 ∨ o = 11 ∨ (o ≠ 0 ∧ o ≠ 1 ∧ o ≠ 2 ∧ o ≠ 3 ∧ o ≠ 4 ∧ o ≠ 5 ∧ o ≠ 6 ∧ o ≠ 7 ∧ o ≠ 8 ∧ o ≠ 9 ∧ o ≠ 10 ∧ o ≠ 11) by omega) with h1 | h1 | h1 | h1 | h1 | h1 | h1 | h1 | h1 | h1 | h1 | h1 | h1
  · refine jr.tsw_k 0 rfl h1 rfl ?_
    refine jr.pick (ls := [_, _, _]) [2, 1, 0] rfl rfl ?_
    exact r_act_L64 (L := L) (n := n) (ht := ht) q M a o hI_M hH_M hS_M  (fun a i f598 f602 f603 f604 f605 f624 f670 f671 f672 f673 f674 f675 f676 f677 f678 f679 f680 f681 f682 f683 f684 f685 f686 f687 => rfl) (fun i g6 g10 g11 g12 g59 g60 g61 g62 g63 g64 g65 g66 g110 g112 g122 g131 g132 g134 g135 g136 g137 g138 g139 g143 g145 => rfl) (by omega) (by omega) p0 p1 p2 p3 p4 p5 p6 p7 p8 p9 rfl (by omega)
  · refine jr.tsw_k 1 rfl h1 rfl ?_
    refine jr.pick (ls := [_, _, _]) [2, 1, 0] rfl rfl ?_
    exact r_act_L94 (L := L) (n := n) (ht := ht) q M a o hI_M hH_M hS_M  (fun a i f598 f602 f603 f604 f605 f624 f670 f671 f672 f673 f674 f675 f676 f677 f678 f679 f680 f681 f682 f683 f684 f685 f686 f687 => rfl) (fun i g6 g10 g11 g12 g59 g60 g61 g62 g63 g64 g65 g66 g110 g112 g122 g131 g132 g134 g135 g136 g137 g138 g139 g143 g145 => rfl) (by omega) (by omega) p0 p1 p2 p3 p4 p5 p6 p7 p8 p9 rfl (by omega)
  · refine jr.tsw_k 2 rfl h1 rfl ?_
    refine jr.pick (ls := [_, _, _]) [2, 1, 0] rfl rfl ?_
    exact r_act_L125 (L := L) (n := n) (ht := ht) q M a o hI_M hH_M hS_M  (fun a i f598 f602 f603 f604 f605 f624 f670 f671 f672 f673 f674 f675 f676 f677 f678 f679 f680 f681 f682 f683 f684 f685 f686 f687 => rfl) (fun i g6 g10 g11 g12 g59 g60 g61 g62 g63 g64 g65 g66 g110 g112 g122 g131 g132 g134 g135 g136 g137 g138 g139 g143 g145 => rfl) (by omega) (by omega) p0 p1 p2 p3 p4 p5 p6 p7 p8 p9 rfl (by omega)
  · refine jr.tsw_k 3 rfl h1 rfl ?_
    refine jr.pick (ls := [_, _, _]) [2, 1, 0] rfl rfl ?_
    exact r_act_L132 (L := L) (n := n) (ht := ht) q M a o hI_M hH_M hS_M  (fun a i f598 f602 f603 f604 f605 f624 f670 f671 f672 f673 f674 f675 f676 f677 f678 f679 f680 f681 f682 f683 f684 f685 f686 f687 => rfl) (fun i g6 g10 g11 g12 g59 g60 g61 g62 g63 g64 g65 g66 g110 g112 g122 g131 g132 g134 g135 g136 g137 g138 g139 g143 g145 => rfl) (by omega) (by omega) p0 p1 p2 p3 p4 p5 p6 p7 p8 p9 rfl (by omega)
  · refine jr.tsw_k 4 rfl h1 rfl ?_
    refine jr.pick (ls := [_, _, _]) [2, 1, 0] rfl rfl ?_
    exact r_act_L246 (L := L) (n := n) (ht := ht) q M a o hI_M hH_M hS_M  (fun a i f598 f602 f603 f604 f605 f624 f670 f671 f672 f673 f674 f675 f676 f677 f678 f679 f680 f681 f682 f683 f684 f685 f686 f687 => rfl) (fun i g6 g10 g11 g12 g59 g60 g61 g62 g63 g64 g65 g66 g110 g112 g122 g131 g132 g134 g135 g136 g137 g138 g139 g143 g145 => rfl) (by omega) (by omega) p0 p1 p2 p3 p4 p5 p6 p7 p8 p9 rfl (by omega)
  · refine jr.tsw_k 5 rfl h1 rfl ?_
    refine jr.pick (ls := [_, _, _]) [2, 1, 0] rfl rfl ?_
    exact r_act_L269 (L := L) (n := n) (ht := ht) q M a o hI_M hH_M hS_M  (fun a i f598 f602 f603 f604 f605 f624 f670 f671 f672 f673 f674 f675 f676 f677 f678 f679 f680 f681 f682 f683 f684 f685 f686 f687 => rfl) (fun i g6 g10 g11 g12 g59 g60 g61 g62 g63 g64 g65 g66 g110 g112 g122 g131 g132 g134 g135 g136 g137 g138 g139 g143 g145 => rfl) (by omega) (by omega) p0 p1 p2 p3 p4 p5 p6 p7 p8 p9 rfl (by omega)
  · refine jr.tsw_k 6 rfl h1 rfl ?_
    refine jr.pick (ls := [_, _, _]) [2, 1, 0] rfl rfl ?_
    exact r_act_L305 (L := L) (n := n) (ht := ht) q M a o hI_M hH_M hS_M  (fun a i f598 f602 f603 f604 f605 f624 f670 f671 f672 f673 f674 f675 f676 f677 f678 f679 f680 f681 f682 f683 f684 f685 f686 f687 => rfl) (fun i g6 g10 g11 g12 g59 g60 g61 g62 g63 g64 g65 g66 g110 g112 g122 g131 g132 g134 g135 g136 g137 g138 g139 g143 g145 => rfl) (by omega) (by omega) p0 p1 p2 p3 p4 p5 p6 p7 p8 p9 rfl (by omega)
  · refine jr.tsw_k 7 rfl h1 rfl ?_
    refine jr.pick (ls := [_, _, _]) [2, 1, 0] rfl rfl ?_
    exact r_act_L166 (L := L) (n := n) (ht := ht) q M a o hI_M hH_M hS_M  (fun a i f598 f602 f603 f604 f605 f624 f670 f671 f672 f673 f674 f675 f676 f677 f678 f679 f680 f681 f682 f683 f684 f685 f686 f687 => rfl) (fun i g6 g10 g11 g12 g59 g60 g61 g62 g63 g64 g65 g66 g110 g112 g122 g131 g132 g134 g135 g136 g137 g138 g139 g143 g145 => rfl) (by omega) (by omega) p0 p1 p2 p3 p4 p5 p6 p7 p8 p9 rfl (by omega)
  · refine jr.tsw_k 8 rfl h1 rfl ?_
    refine jr.pick (ls := [_, _, _]) [2, 1, 0] rfl rfl ?_
    exact r_act_L166 (L := L) (n := n) (ht := ht) q M a o hI_M hH_M hS_M  (fun a i f598 f602 f603 f604 f605 f624 f670 f671 f672 f673 f674 f675 f676 f677 f678 f679 f680 f681 f682 f683 f684 f685 f686 f687 => rfl) (fun i g6 g10 g11 g12 g59 g60 g61 g62 g63 g64 g65 g66 g110 g112 g122 g131 g132 g134 g135 g136 g137 g138 g139 g143 g145 => rfl) (by omega) (by omega) p0 p1 p2 p3 p4 p5 p6 p7 p8 p9 rfl (by omega)
  · refine jr.tsw_k 9 rfl h1 rfl ?_
    refine jr.pick (ls := [_, _, _]) [2, 1, 0] rfl rfl ?_
    exact r_act_L342 (L := L) (n := n) (ht := ht) q M a o hI_M hH_M hS_M  (fun a i f598 f602 f603 f604 f605 f624 f670 f671 f672 f673 f674 f675 f676 f677 f678 f679 f680 f681 f682 f683 f684 f685 f686 f687 => rfl) (fun i g6 g10 g11 g12 g59 g60 g61 g62 g63 g64 g65 g66 g110 g112 g122 g131 g132 g134 g135 g136 g137 g138 g139 g143 g145 => rfl) (by omega) (by omega) p0 p1 p2 p3 p4 p5 p6 p7 p8 p9 rfl (by omega)
  · refine jr.tsw_k 10 rfl h1 rfl ?_
    refine jr.pick (ls := [_, _, _]) [2, 1, 0] rfl rfl ?_
    exact r_act_L377 (L := L) (n := n) (ht := ht) q M a o hI_M hH_M hS_M  (fun a i f598 f602 f603 f604 f605 f624 f670 f671 f672 f673 f674 f675 f676 f677 f678 f679 f680 f681 f682 f683 f684 f685 f686 f687 => rfl) (fun i g6 g10 g11 g12 g59 g60 g61 g62 g63 g64 g65 g66 g110 g112 g122 g131 g132 g134 g135 g136 g137 g138 g139 g143 g145 => rfl) (by omega) (by omega) p0 p1 p2 p3 p4 p5 p6 p7 p8 p9 rfl (by omega)
  · refine jr.tsw_k 11 rfl h1 rfl ?_
    refine jr.pick (ls := [_, _, _]) [2, 1, 0] rfl rfl ?_
    exact r_act_L403 (L := L) (n := n) (ht := ht) q M a o hI_M hH_M hS_M  (fun a i f598 f602 f603 f604 f605 f624 f670 f671 f672 f673 f674 f675 f676 f677 f678 f679 f680 f681 f682 f683 f684 f685 f686 f687 => rfl) (fun i g6 g10 g11 g12 g59 g60 g61 g62 g63 g64 g65 g66 g110 g112 g122 g131 g132 g134 g135 g136 g137 g138 g139 g143 g145 => rfl) (by omega) (by omega) p0 p1 p2 p3 p4 p5 p6 p7 p8 p9 rfl (by omega)
  · refine jr.tsw_d rfl (by omega) (by omega) rfl ?_
    refine jr.iload_n rfl rfl ?_
    refine jr.sipush rfl (by decide) ?_
    refine jr.icmp_lt rfl rfl (by first | (refine rgb (by assumption) ?_; exact rfl) | omega) (rgl rfl) (fun h442 => ?_) (fun h442 => ?_)
    · refine jr.iload_n rfl rfl ?_
      refine jr.bipush rfl (jbp _ (nlt rfl)) ?_
      refine jr.icmp_lt rfl rfl (by first | (refine rgb (by assumption) ?_; exact rfl) | omega) (rgl rfl) (fun h463 => ?_) (fun h463 => ?_)
      · refine jr.pick (ls := [_, _, _]) [2, 1, 0] rfl rfl ?_
        exact r_act_L477 (L := L) (n := n) (ht := ht) q M a o hI_M hH_M hS_M  (fun a i f598 f602 f603 f604 f605 f624 f670 f671 f672 f673 f674 f675 f676 f677 f678 f679 f680 f681 f682 f683 f684 f685 f686 f687 => rfl) (fun i g6 g10 g11 g12 g59 g60 g61 g62 g63 g64 g65 g66 g110 g112 g122 g131 g132 g134 g135 g136 g137 g138 g139 g143 g145 => rfl) (by omega) (by omega) p0 p1 p2 p3 p4 p5 p6 p7 p8 p9 rfl (by omega)
      · refine jr.pick (ls := [_, _, _]) [2, 1, 0] rfl rfl ?_
        exact r_act_L466 (L := L) (n := n) (ht := ht) q M a o hI_M hH_M hS_M  (fun a i f598 f602 f603 f604 f605 f624 f670 f671 f672 f673 f674 f675 f676 f677 f678 f679 f680 f681 f682 f683 f684 f685 f686 f687 => rfl) (fun i g6 g10 g11 g12 g59 g60 g61 g62 g63 g64 g65 g66 g110 g112 g122 g131 g132 g134 g135 g136 g137 g138 g139 g143 g145 => rfl) (by omega) (by omega) p0 p1 p2 p3 p4 p5 p6 p7 p8 p9 rfl (by omega)
    · refine jr.pick (ls := [_, _, _]) [2, 1, 0] rfl rfl ?_
      exact r_act_L445 (L := L) (n := n) (ht := ht) q M a o hI_M hH_M hS_M  (fun a i f598 f602 f603 f604 f605 f624 f670 f671 f672 f673 f674 f675 f676 f677 f678 f679 f680 f681 f682 f683 f684 f685 f686 f687 => rfl) (fun i g6 g10 g11 g12 g59 g60 g61 g62 g63 g64 g65 g66 g110 g112 g122 g131 g132 g134 g135 g136 g137 g138 g139 g143 g145 => rfl) (by omega) (by omega) p0 p1 p2 p3 p4 p5 p6 p7 p8 p9 rfl (by omega)
