section
/-! ===== the reference: contracts, 37.mh ===== -/
noncomputable def mu2 (M : jm) : Int := if M 598 136 = 1 then 0 else mu M + 1
noncomputable def RV3 (M : jm) (C : Int) : Prop := ∃ (ht : Int → Int) (n : Int), MX M ht n ∧ AS M (C - mu2 M) ∧ 0 ≤ mu2 M ∧ mu2 M ≤ 2689622 ∧ (M 598 136 = 1 ∨ (M 598 136 = 0 ∧ FRS M ht n (M 598 122) ∧ (1 ≤ M 598 122 ∧ M 598 122 ≤ 8) ∧ (0 ≤ M 598 132 ∧ M 598 132 < n) ∧ M 598 131 = ht (M 598 132)))
theorem mu.rng {M : jm} (h1 : 0 ≤ M 598 143 ∧ M 598 143 ≤ 300) (h2 : 1 ≤ M 598 122 ∧ M 598 122 ≤ 8) (h3 : 0 ≤ M 598 132 ∧ M 598 132 ≤ 2199) : 0 ≤ mu M ∧ mu M ≤ 2689621 := by
  have a := phi.le M
  have b := cr_le (M 654) (M 598 132)
  unfold mu
  omega
theorem RV3.over {M : jm} {ht : Int → Int} {n C L : Int} (hM : MX M ht n) (hA : AS M L) (ho : M 598 136 = 1) (hL : L ≤ C) : RV3 M C := by
  have e : mu2 M = 0 := by unfold mu2; rw [if_pos ho]
  exact ⟨ht, n, hM, hA.up (by omega), by omega, by omega, Or.inl ho⟩
theorem RV3.run {M : jm} {ht : Int → Int} {n C L : Int} (hM : MX M ht n) (hA : AS M L) (ho : M 598 136 = 0) (hF : FRS M ht n (M 598 122)) (h2 : 1 ≤ M 598 122 ∧ M 598 122 ≤ 8) (h3 : 0 ≤ M 598 132 ∧ M 598 132 < n) (h4 : M 598 131 = ht (M 598 132)) (h5 : 0 ≤ M 598 143 ∧ M 598 143 ≤ 300) (hL : L + mu M + 1 ≤ C) : RV3 M C := by
  have e : mu2 M = mu M + 1 := by unfold mu2; rw [if_neg (by omega)]
  have r := mu.rng h5 h2 (by have := hM.2.1; omega)
  exact ⟨ht, n, hM, hA.up (by omega), by omega, by omega, Or.inr ⟨ho, hF, h2, h3, h4⟩⟩
theorem mu2.o {M : jm} (h : M 598 136 = 1) : mu2 M = 0 := by unfold mu2; rw [if_pos h]
theorem mu2.r {M : jm} (h : M 598 136 = 0) : mu2 M = mu M + 1 := by unfold mu2; rw [if_neg (by omega)]
theorem mu135 (M : jm) (v : Int) : mu (ju M 598 135 v) = mu M ∧ phi (ju M 598 135 v) = phi M := by
  have p : phi (ju M 598 135 v) = phi M := phi.fr (ju_i _ _ (zne (by decide))) (fun i => ju_c _ _ (by decide))
  refine ⟨?_, p⟩
  unfold mu
  rw [p, ju_i _ _ (zne (by decide)), ju_i _ _ (zne (by decide)), jw_o (by decide)]
theorem r_verdict_L86 {A : Nat → Option (Nat × (Nat → Int32))} {Q : Option Value → jm → Prop} {L : Int} {M0 : jm} (q : ∀ (r : Int) (M' : jm), RI M' → RH M' → RF M' → (-18) ≤ r ∧ r ≤ 8 → AS M' (L + 2689623) → (∀ (a : Nat) (i : Int), a ≠ 598 → a ≠ 602 → a ≠ 603 → a ≠ 604 → a ≠ 605 → a ≠ 624 → a ≠ 670 → a ≠ 671 → a ≠ 672 → a ≠ 673 → a ≠ 674 → a ≠ 675 → a ≠ 676 → a ≠ 677 → a ≠ 678 → a ≠ 679 → a ≠ 680 → a ≠ 681 → a ≠ 682 → a ≠ 683 → a ≠ 684 → a ≠ 685 → a ≠ 686 → a ≠ 687 → M' a i = M0 a i) → (∀ (i : Int), i ≠ 6 → i ≠ 10 → i ≠ 11 → i ≠ 12 → i ≠ 59 → i ≠ 60 → i ≠ 61 → i ≠ 62 → i ≠ 63 → i ≠ 64 → i ≠ 65 → i ≠ 66 → i ≠ 110 → i ≠ 111 → i ≠ 112 → i ≠ 122 → i ≠ 131 → i ≠ 132 → i ≠ 133 → i ≠ 134 → i ≠ 135 → i ≠ 136 → i ≠ 137 → i ≠ 138 → i ≠ 139 → i ≠ 140 → i ≠ 141 → i ≠ 142 → i ≠ 143 → i ≠ 144 → i ≠ 145 → i ≠ 147 → M' 598 i = M0 598 i) → Q (some (.int (Int32.ofInt r))) M') : ∀ (nM : Nat) (M : jm) , RI M → RH M → RF M → (∀ (a : Nat) (i : Int), a ≠ 598 → a ≠ 602 → a ≠ 603 → a ≠ 604 → a ≠ 605 → a ≠ 624 → a ≠ 670 → a ≠ 671 → a ≠ 672 → a ≠ 673 → a ≠ 674 → a ≠ 675 → a ≠ 676 → a ≠ 677 → a ≠ 678 → a ≠ 679 → a ≠ 680 → a ≠ 681 → a ≠ 682 → a ≠ 683 → a ≠ 684 → a ≠ 685 → a ≠ 686 → a ≠ 687 → M a i = M0 a i) → (∀ (i : Int), i ≠ 6 → i ≠ 10 → i ≠ 11 → i ≠ 12 → i ≠ 59 → i ≠ 60 → i ≠ 61 → i ≠ 62 → i ≠ 63 → i ≠ 64 → i ≠ 65 → i ≠ 66 → i ≠ 110 → i ≠ 111 → i ≠ 112 → i ≠ 122 → i ≠ 131 → i ≠ 132 → i ≠ 133 → i ≠ 134 → i ≠ 135 → i ≠ 136 → i ≠ 137 → i ≠ 138 → i ≠ 139 → i ≠ 140 → i ≠ 141 → i ≠ 142 → i ≠ 143 → i ≠ 144 → i ≠ 145 → i ≠ 147 → M 598 i = M0 598 i) → RV3 M (L + 2689623) → 0 ≤ L ∧ L ≤ 1990000000 → mu2 M ≤ nM → jr A 10 xm_379 86 [(0, .ref (598))] [] M Q := by
  intro nM
  induction nM using Nat.strongRecOn with
  | ind nM ih =>
    intro M  hI_M hH_M hS_M hF_M hG_M  hy0 hy1 hm
    obtain ⟨ht, n, hMX, hAS, m0, m1, hor⟩ := hy0
    rcases hor with ho | hn
    · have mo := mu2.o ho
      refine jr.aload_n rfl rfl ?_
      refine jr.getf (i := 136) (x := 1) (v := .int (Int32.ofInt (1))) rfl rfl (nlt rfl) rfl (nlt rfl) rfl rfl ho rfl ?_
      refine jr.if_ne rfl rfl (by first | (refine rgb (by assumption) ?_; exact rfl) | omega) (fun h90 => ?_) (fun h90 => ?_)
      · refine jr.aload_n rfl rfl ?_
        refine jr.aload_n rfl rfl ?_
        obtain ⟨v1, e1⟩ : ∃ z, M 598 137 = z := ⟨_, rfl⟩
        have b1 : 0 ≤ v1 ∧ v1 ≤ 2 := by rw [← e1]; exact hI_M 598 137 (Nat.le_of_ble_eq_true rfl)
        refine jr.getf (i := 137) (x := v1) (v := .int (Int32.ofInt (v1))) rfl rfl (nlt rfl) rfl (nlt rfl) rfl rfl e1 rfl ?_
        refine jr.iconst rfl ?_
        refine jr.icmp_ne rfl rfl (by first | (refine rgb (by assumption) ?_; exact rfl) | omega) (rgl rfl) (fun h144 => ?_) (fun h144 => ?_)
        · have sx144 : v1 ≤ (1 : Int) := by omega
          clear h144
          refine jr.iconst rfl ?_
          refine jr.putf (i := 141) (x := 0) rfl rfl (nlt rfl) rfl (nlt rfl) rfl rfl rfl rfl rfl ?_
          refine jr.aload_n rfl rfl ?_
          refine jr.aload_n rfl rfl ?_
          refine jr.getf (i := 137) (x := v1) (v := .int (Int32.ofInt (v1))) rfl rfl (nlt rfl) rfl (nlt rfl) rfl rfl ((ju_i _ _ (zne (by decide))).trans e1) rfl ?_
          refine jr.iconst rfl ?_
          refine jr.icmp_ne rfl rfl (by first | (refine rgb (by assumption) ?_; exact rfl) | omega) (rgl rfl) (fun h164 => ?_) (fun h164 => ?_)
          · refine jr.iconst rfl ?_
            refine jr.putf (i := 144) (x := (-1)) rfl rfl (nlt rfl) rfl (nlt rfl) rfl rfl rfl rfl rfl ?_
            refine jr.aload_n rfl rfl ?_
            refine jr.aload_n rfl rfl ?_
            refine jr.getf (i := 141) (x := 0) (v := .int (Int32.ofInt (0))) rfl rfl (nlt rfl) rfl (nlt rfl) rfl rfl ((ju_i _ _ (zne (by decide))).trans (ju_same _ _ _ _)) rfl ?_
            refine jr.bipush rfl (jbp _ (nlt rfl)) ?_
            refine jr.icmp_ne rfl rfl (by first | (refine rgb (by assumption) ?_; exact rfl) | omega) (rgl rfl) (fun h185 => ?_) (fun h185 => ?_)
            · refine jr.lconst (x := 0) rfl (by decide) ?_
              refine jr.putf (i := 142) (x := 0) rfl rfl (nlt rfl) rfl (nlt rfl) rfl rfl rfl rfl rfl ?_
              refine jr.aload_n rfl rfl ?_
              refine jr.getf (i := 137) (x := v1) (v := .int (Int32.ofInt (v1))) rfl rfl (nlt rfl) rfl (nlt rfl) rfl rfl ((ju_i _ _ (zne (by decide))).trans ((ju_i _ _ (zne (by decide))).trans ((ju_i _ _ (zne (by decide))).trans e1))) rfl ?_
              refine jr.if_ne rfl rfl (by first | (refine rgb (by assumption) ?_; exact rfl) | omega) (fun h203 => ?_) (fun h203 => ?_)
              · have sx203 : (1 : Int) ≤ v1 := by omega
                clear h203
                refine jr.aload_n rfl rfl ?_
                refine jr.getf (i := 137) (x := v1) (v := .int (Int32.ofInt (v1))) rfl rfl (nlt rfl) rfl (nlt rfl) rfl rfl ((ju_i _ _ (zne (by decide))).trans ((ju_i _ _ (zne (by decide))).trans ((ju_i _ _ (zne (by decide))).trans e1))) rfl ?_
                refine jr.iconst rfl ?_
                refine jr.icmp_ne rfl rfl (by first | (refine rgb (by assumption) ?_; exact rfl) | omega) (rgl rfl) (fun h215 => ?_) (fun h215 => ?_)
                · exact absurd h215 (by omega)
                · refine jr.aload_n rfl rfl ?_
                  obtain ⟨v2, e2⟩ : ∃ z, M 598 138 = z := ⟨_, rfl⟩
                  have b2 : 0 ≤ v2 ∧ v2 ≤ 8 := by rw [← e2]; exact hI_M 598 138 (Nat.le_of_ble_eq_true rfl)
                  refine jr.getf (i := 138) (x := v2) (v := .int (Int32.ofInt (v2))) rfl rfl (nlt rfl) rfl (nlt rfl) rfl rfl ((ju_i _ _ (zne (by decide))).trans ((ju_i _ _ (zne (by decide))).trans ((ju_i _ _ (zne (by decide))).trans e2))) rfl ?_
                  refine jr.goto rfl rfl ?_
                  exact jr.ireturn rfl rfl rfl (q _ _ (RI.u (RI.u (RI.u hI_M (a := 598) (i := 141) (show (0 : Int) ≤ _ ∧ _ ≤ (8 : Int) from by omega)) (a := 598) (i := 144) (show (-1 : Int) ≤ _ ∧ _ ≤ (15 : Int) from by omega)) (a := 598) (i := 142) (show (-9223372036854775808 : Int) ≤ _ ∧ _ ≤ (9223372036854775807 : Int) from by omega)) (RH.o (RH.o (RH.o hH_M (by decide) (by decide) (by decide)) (by decide) (by decide) (by decide)) (by decide) (by decide) (by decide)) (RF.o (RF.o (RF.o hS_M (by decide) (by decide)) (by decide) (by decide)) (by decide) (by decide))  (by omega) (AS.up (AS.o (AS.o (AS.o hAS (by decide) (Or.inr (by decide))) (by decide) (Or.inr (by decide))) (by decide) (Or.inr (by decide))) (by omega)) (fun a i f598 f602 f603 f604 f605 f624 f670 f671 f672 f673 f674 f675 f676 f677 f678 f679 f680 f681 f682 f683 f684 f685 f686 f687 => ((ju_c _ _ f598).trans ((ju_c _ _ f598).trans ((ju_c _ _ f598).trans (hF_M a i f598 f602 f603 f604 f605 f624 f670 f671 f672 f673 f674 f675 f676 f677 f678 f679 f680 f681 f682 f683 f684 f685 f686 f687))))) (fun i g6 g10 g11 g12 g59 g60 g61 g62 g63 g64 g65 g66 g110 g111 g112 g122 g131 g132 g133 g134 g135 g136 g137 g138 g139 g140 g141 g142 g143 g144 g145 g147 => ((ju_i _ _ g142).trans ((ju_i _ _ g144).trans ((ju_i _ _ g141).trans (hG_M i g6 g10 g11 g12 g59 g60 g61 g62 g63 g64 g65 g66 g110 g111 g112 g122 g131 g132 g133 g134 g135 g136 g137 g138 g139 g140 g141 g142 g143 g144 g145 g147))))))
              · refine jr.iconst rfl ?_
                refine jr.goto rfl rfl ?_
                exact jr.ireturn rfl rfl rfl (q _ _ (RI.u (RI.u (RI.u hI_M (a := 598) (i := 141) (show (0 : Int) ≤ _ ∧ _ ≤ (8 : Int) from by omega)) (a := 598) (i := 144) (show (-1 : Int) ≤ _ ∧ _ ≤ (15 : Int) from by omega)) (a := 598) (i := 142) (show (-9223372036854775808 : Int) ≤ _ ∧ _ ≤ (9223372036854775807 : Int) from by omega)) (RH.o (RH.o (RH.o hH_M (by decide) (by decide) (by decide)) (by decide) (by decide) (by decide)) (by decide) (by decide) (by decide)) (RF.o (RF.o (RF.o hS_M (by decide) (by decide)) (by decide) (by decide)) (by decide) (by decide))  (by omega) (AS.up (AS.o (AS.o (AS.o hAS (by decide) (Or.inr (by decide))) (by decide) (Or.inr (by decide))) (by decide) (Or.inr (by decide))) (by omega)) (fun a i f598 f602 f603 f604 f605 f624 f670 f671 f672 f673 f674 f675 f676 f677 f678 f679 f680 f681 f682 f683 f684 f685 f686 f687 => ((ju_c _ _ f598).trans ((ju_c _ _ f598).trans ((ju_c _ _ f598).trans (hF_M a i f598 f602 f603 f604 f605 f624 f670 f671 f672 f673 f674 f675 f676 f677 f678 f679 f680 f681 f682 f683 f684 f685 f686 f687))))) (fun i g6 g10 g11 g12 g59 g60 g61 g62 g63 g64 g65 g66 g110 g111 g112 g122 g131 g132 g133 g134 g135 g136 g137 g138 g139 g140 g141 g142 g143 g144 g145 g147 => ((ju_i _ _ g142).trans ((ju_i _ _ g144).trans ((ju_i _ _ g141).trans (hG_M i g6 g10 g11 g12 g59 g60 g61 g62 g63 g64 g65 g66 g110 g111 g112 g122 g131 g132 g133 g134 g135 g136 g137 g138 g139 g140 g141 g142 g143 g144 g145 g147))))))
            · refine jr.aload_n rfl rfl ?_
              obtain ⟨v3, e3⟩ : ∃ z, M 598 142 = z := ⟨_, rfl⟩
              have b3 : (-9223372036854775808) ≤ v3 ∧ v3 ≤ 9223372036854775807 := by rw [← e3]; exact hI_M 598 142 (Nat.le_of_ble_eq_true rfl)
              refine jr.getf (i := 142) (x := v3) (v := .long (Int64.ofInt (v3))) rfl rfl (nlt rfl) rfl (nlt rfl) rfl rfl ((ju_i _ _ (zne (by decide))).trans ((ju_i _ _ (zne (by decide))).trans e3)) rfl ?_
              refine jr.goto rfl rfl ?_
              refine jr.putf (i := 142) (x := v3) rfl rfl (nlt rfl) rfl (nlt rfl) rfl rfl rfl rfl rfl ?_
              refine jr.aload_n rfl rfl ?_
              refine jr.getf (i := 137) (x := v1) (v := .int (Int32.ofInt (v1))) rfl rfl (nlt rfl) rfl (nlt rfl) rfl rfl ((ju_i _ _ (zne (by decide))).trans ((ju_i _ _ (zne (by decide))).trans ((ju_i _ _ (zne (by decide))).trans e1))) rfl ?_
              refine jr.if_ne rfl rfl (by first | (refine rgb (by assumption) ?_; exact rfl) | omega) (fun h203 => ?_) (fun h203 => ?_)
              · have sx203 : (1 : Int) ≤ v1 := by omega
                clear h203
                refine jr.aload_n rfl rfl ?_
                refine jr.getf (i := 137) (x := v1) (v := .int (Int32.ofInt (v1))) rfl rfl (nlt rfl) rfl (nlt rfl) rfl rfl ((ju_i _ _ (zne (by decide))).trans ((ju_i _ _ (zne (by decide))).trans ((ju_i _ _ (zne (by decide))).trans e1))) rfl ?_
                refine jr.iconst rfl ?_
                refine jr.icmp_ne rfl rfl (by first | (refine rgb (by assumption) ?_; exact rfl) | omega) (rgl rfl) (fun h215 => ?_) (fun h215 => ?_)
                · exact absurd h215 (by omega)
                · refine jr.aload_n rfl rfl ?_
                  obtain ⟨v4, e4⟩ : ∃ z, M 598 138 = z := ⟨_, rfl⟩
                  have b4 : 0 ≤ v4 ∧ v4 ≤ 8 := by rw [← e4]; exact hI_M 598 138 (Nat.le_of_ble_eq_true rfl)
                  refine jr.getf (i := 138) (x := v4) (v := .int (Int32.ofInt (v4))) rfl rfl (nlt rfl) rfl (nlt rfl) rfl rfl ((ju_i _ _ (zne (by decide))).trans ((ju_i _ _ (zne (by decide))).trans ((ju_i _ _ (zne (by decide))).trans e4))) rfl ?_
                  refine jr.goto rfl rfl ?_
                  exact jr.ireturn rfl rfl rfl (q _ _ (RI.u (RI.u (RI.u hI_M (a := 598) (i := 141) (show (0 : Int) ≤ _ ∧ _ ≤ (8 : Int) from by omega)) (a := 598) (i := 144) (show (-1 : Int) ≤ _ ∧ _ ≤ (15 : Int) from by omega)) (a := 598) (i := 142) (show (-9223372036854775808 : Int) ≤ _ ∧ _ ≤ (9223372036854775807 : Int) from by omega)) (RH.o (RH.o (RH.o hH_M (by decide) (by decide) (by decide)) (by decide) (by decide) (by decide)) (by decide) (by decide) (by decide)) (RF.o (RF.o (RF.o hS_M (by decide) (by decide)) (by decide) (by decide)) (by decide) (by decide))  (by omega) (AS.up (AS.o (AS.o (AS.o hAS (by decide) (Or.inr (by decide))) (by decide) (Or.inr (by decide))) (by decide) (Or.inr (by decide))) (by omega)) (fun a i f598 f602 f603 f604 f605 f624 f670 f671 f672 f673 f674 f675 f676 f677 f678 f679 f680 f681 f682 f683 f684 f685 f686 f687 => ((ju_c _ _ f598).trans ((ju_c _ _ f598).trans ((ju_c _ _ f598).trans (hF_M a i f598 f602 f603 f604 f605 f624 f670 f671 f672 f673 f674 f675 f676 f677 f678 f679 f680 f681 f682 f683 f684 f685 f686 f687))))) (fun i g6 g10 g11 g12 g59 g60 g61 g62 g63 g64 g65 g66 g110 g111 g112 g122 g131 g132 g133 g134 g135 g136 g137 g138 g139 g140 g141 g142 g143 g144 g145 g147 => ((ju_i _ _ g142).trans ((ju_i _ _ g144).trans ((ju_i _ _ g141).trans (hG_M i g6 g10 g11 g12 g59 g60 g61 g62 g63 g64 g65 g66 g110 g111 g112 g122 g131 g132 g133 g134 g135 g136 g137 g138 g139 g140 g141 g142 g143 g144 g145 g147))))))
              · refine jr.iconst rfl ?_
                refine jr.goto rfl rfl ?_
                exact jr.ireturn rfl rfl rfl (q _ _ (RI.u (RI.u (RI.u hI_M (a := 598) (i := 141) (show (0 : Int) ≤ _ ∧ _ ≤ (8 : Int) from by omega)) (a := 598) (i := 144) (show (-1 : Int) ≤ _ ∧ _ ≤ (15 : Int) from by omega)) (a := 598) (i := 142) (show (-9223372036854775808 : Int) ≤ _ ∧ _ ≤ (9223372036854775807 : Int) from by omega)) (RH.o (RH.o (RH.o hH_M (by decide) (by decide) (by decide)) (by decide) (by decide) (by decide)) (by decide) (by decide) (by decide)) (RF.o (RF.o (RF.o hS_M (by decide) (by decide)) (by decide) (by decide)) (by decide) (by decide))  (by omega) (AS.up (AS.o (AS.o (AS.o hAS (by decide) (Or.inr (by decide))) (by decide) (Or.inr (by decide))) (by decide) (Or.inr (by decide))) (by omega)) (fun a i f598 f602 f603 f604 f605 f624 f670 f671 f672 f673 f674 f675 f676 f677 f678 f679 f680 f681 f682 f683 f684 f685 f686 f687 => ((ju_c _ _ f598).trans ((ju_c _ _ f598).trans ((ju_c _ _ f598).trans (hF_M a i f598 f602 f603 f604 f605 f624 f670 f671 f672 f673 f674 f675 f676 f677 f678 f679 f680 f681 f682 f683 f684 f685 f686 f687))))) (fun i g6 g10 g11 g12 g59 g60 g61 g62 g63 g64 g65 g66 g110 g111 g112 g122 g131 g132 g133 g134 g135 g136 g137 g138 g139 g140 g141 g142 g143 g144 g145 g147 => ((ju_i _ _ g142).trans ((ju_i _ _ g144).trans ((ju_i _ _ g141).trans (hG_M i g6 g10 g11 g12 g59 g60 g61 g62 g63 g64 g65 g66 g110 g111 g112 g122 g131 g132 g133 g134 g135 g136 g137 g138 g139 g140 g141 g142 g143 g144 g145 g147))))))
          · exact absurd (by omega) h164
        · refine jr.aload_n rfl rfl ?_
          obtain ⟨v5, e5⟩ : ∃ z, M 598 138 = z := ⟨_, rfl⟩
          have b5 : 0 ≤ v5 ∧ v5 ≤ 8 := by rw [← e5]; exact hI_M 598 138 (Nat.le_of_ble_eq_true rfl)
          refine jr.getf (i := 138) (x := v5) (v := .int (Int32.ofInt (v5))) rfl rfl (nlt rfl) rfl (nlt rfl) rfl rfl e5 rfl ?_
          refine jr.goto rfl rfl ?_
          refine jr.putf (i := 141) (x := v5) rfl rfl (nlt rfl) rfl (nlt rfl) rfl rfl rfl rfl rfl ?_
          refine jr.aload_n rfl rfl ?_
          refine jr.aload_n rfl rfl ?_
          refine jr.getf (i := 137) (x := v1) (v := .int (Int32.ofInt (v1))) rfl rfl (nlt rfl) rfl (nlt rfl) rfl rfl ((ju_i _ _ (zne (by decide))).trans e1) rfl ?_
          refine jr.iconst rfl ?_
          refine jr.icmp_ne rfl rfl (by first | (refine rgb (by assumption) ?_; exact rfl) | omega) (rgl rfl) (fun h164 => ?_) (fun h164 => ?_)
          · exact absurd h164 (by omega)
          · refine jr.aload_n rfl rfl ?_
            obtain ⟨v6, e6⟩ : ∃ z, M 598 147 = z := ⟨_, rfl⟩
            have b6 : 0 ≤ v6 ∧ v6 ≤ 15 := by rw [← e6]; exact hI_M 598 147 (Nat.le_of_ble_eq_true rfl)
            refine jr.getf (i := 147) (x := v6) (v := .int (Int32.ofInt (v6))) rfl rfl (nlt rfl) rfl (nlt rfl) rfl rfl ((ju_i _ _ (zne (by decide))).trans e6) rfl ?_
            refine jr.goto rfl rfl ?_
            refine jr.putf (i := 144) (x := v6) rfl rfl (nlt rfl) rfl (nlt rfl) rfl rfl rfl rfl rfl ?_
            refine jr.aload_n rfl rfl ?_
            refine jr.aload_n rfl rfl ?_
            refine jr.getf (i := 141) (x := v5) (v := .int (Int32.ofInt (v5))) rfl rfl (nlt rfl) rfl (nlt rfl) rfl rfl ((ju_i _ _ (zne (by decide))).trans (ju_same _ _ _ _)) rfl ?_
            refine jr.bipush rfl (jbp _ (nlt rfl)) ?_
            refine jr.icmp_ne rfl rfl (by first | (refine rgb (by assumption) ?_; exact rfl) | omega) (rgl rfl) (fun h185 => ?_) (fun h185 => ?_)
            · refine jr.lconst (x := 0) rfl (by decide) ?_
              refine jr.putf (i := 142) (x := 0) rfl rfl (nlt rfl) rfl (nlt rfl) rfl rfl rfl rfl rfl ?_
              refine jr.aload_n rfl rfl ?_
              refine jr.getf (i := 137) (x := v1) (v := .int (Int32.ofInt (v1))) rfl rfl (nlt rfl) rfl (nlt rfl) rfl rfl ((ju_i _ _ (zne (by decide))).trans ((ju_i _ _ (zne (by decide))).trans ((ju_i _ _ (zne (by decide))).trans e1))) rfl ?_
              refine jr.if_ne rfl rfl (by first | (refine rgb (by assumption) ?_; exact rfl) | omega) (fun h203 => ?_) (fun h203 => ?_)
              · refine jr.aload_n rfl rfl ?_
                refine jr.getf (i := 137) (x := v1) (v := .int (Int32.ofInt (v1))) rfl rfl (nlt rfl) rfl (nlt rfl) rfl rfl ((ju_i _ _ (zne (by decide))).trans ((ju_i _ _ (zne (by decide))).trans ((ju_i _ _ (zne (by decide))).trans e1))) rfl ?_
                refine jr.iconst rfl ?_
                refine jr.icmp_ne rfl rfl (by first | (refine rgb (by assumption) ?_; exact rfl) | omega) (rgl rfl) (fun h215 => ?_) (fun h215 => ?_)
                · refine jr.bipush rfl (by decide) ?_
                  refine jr.aload_n rfl rfl ?_
                  refine jr.getf (i := 138) (x := v5) (v := .int (Int32.ofInt (v5))) rfl rfl (nlt rfl) rfl (nlt rfl) rfl rfl ((ju_i _ _ (zne (by decide))).trans ((ju_i _ _ (zne (by decide))).trans ((ju_i _ _ (zne (by decide))).trans e5))) rfl ?_
                  refine jr.isub rfl ?_
                  exact jr.ireturn rfl rfl rfl (q _ _ (RI.u (RI.u (RI.u hI_M (a := 598) (i := 141) (show (0 : Int) ≤ _ ∧ _ ≤ (8 : Int) from by omega)) (a := 598) (i := 144) (show (-1 : Int) ≤ _ ∧ _ ≤ (15 : Int) from by omega)) (a := 598) (i := 142) (show (-9223372036854775808 : Int) ≤ _ ∧ _ ≤ (9223372036854775807 : Int) from by omega)) (RH.o (RH.o (RH.o hH_M (by decide) (by decide) (by decide)) (by decide) (by decide) (by decide)) (by decide) (by decide) (by decide)) (RF.o (RF.o (RF.o hS_M (by decide) (by decide)) (by decide) (by decide)) (by decide) (by decide))  (by omega) (AS.up (AS.o (AS.o (AS.o hAS (by decide) (Or.inr (by decide))) (by decide) (Or.inr (by decide))) (by decide) (Or.inr (by decide))) (by omega)) (fun a i f598 f602 f603 f604 f605 f624 f670 f671 f672 f673 f674 f675 f676 f677 f678 f679 f680 f681 f682 f683 f684 f685 f686 f687 => ((ju_c _ _ f598).trans ((ju_c _ _ f598).trans ((ju_c _ _ f598).trans (hF_M a i f598 f602 f603 f604 f605 f624 f670 f671 f672 f673 f674 f675 f676 f677 f678 f679 f680 f681 f682 f683 f684 f685 f686 f687))))) (fun i g6 g10 g11 g12 g59 g60 g61 g62 g63 g64 g65 g66 g110 g111 g112 g122 g131 g132 g133 g134 g135 g136 g137 g138 g139 g140 g141 g142 g143 g144 g145 g147 => ((ju_i _ _ g142).trans ((ju_i _ _ g144).trans ((ju_i _ _ g141).trans (hG_M i g6 g10 g11 g12 g59 g60 g61 g62 g63 g64 g65 g66 g110 g111 g112 g122 g131 g132 g133 g134 g135 g136 g137 g138 g139 g140 g141 g142 g143 g144 g145 g147))))))
                · exact absurd (by omega) h215
              · exact absurd (by omega) h203
            · refine jr.aload_n rfl rfl ?_
              obtain ⟨v7, e7⟩ : ∃ z, M 598 142 = z := ⟨_, rfl⟩
              have b7 : (-9223372036854775808) ≤ v7 ∧ v7 ≤ 9223372036854775807 := by rw [← e7]; exact hI_M 598 142 (Nat.le_of_ble_eq_true rfl)
              refine jr.getf (i := 142) (x := v7) (v := .long (Int64.ofInt (v7))) rfl rfl (nlt rfl) rfl (nlt rfl) rfl rfl ((ju_i _ _ (zne (by decide))).trans ((ju_i _ _ (zne (by decide))).trans e7)) rfl ?_
              refine jr.goto rfl rfl ?_
              refine jr.putf (i := 142) (x := v7) rfl rfl (nlt rfl) rfl (nlt rfl) rfl rfl rfl rfl rfl ?_
              refine jr.aload_n rfl rfl ?_
              refine jr.getf (i := 137) (x := v1) (v := .int (Int32.ofInt (v1))) rfl rfl (nlt rfl) rfl (nlt rfl) rfl rfl ((ju_i _ _ (zne (by decide))).trans ((ju_i _ _ (zne (by decide))).trans ((ju_i _ _ (zne (by decide))).trans e1))) rfl ?_
              refine jr.if_ne rfl rfl (by first | (refine rgb (by assumption) ?_; exact rfl) | omega) (fun h203 => ?_) (fun h203 => ?_)
              · refine jr.aload_n rfl rfl ?_
                refine jr.getf (i := 137) (x := v1) (v := .int (Int32.ofInt (v1))) rfl rfl (nlt rfl) rfl (nlt rfl) rfl rfl ((ju_i _ _ (zne (by decide))).trans ((ju_i _ _ (zne (by decide))).trans ((ju_i _ _ (zne (by decide))).trans e1))) rfl ?_
                refine jr.iconst rfl ?_
                refine jr.icmp_ne rfl rfl (by first | (refine rgb (by assumption) ?_; exact rfl) | omega) (rgl rfl) (fun h215 => ?_) (fun h215 => ?_)
                · refine jr.bipush rfl (by decide) ?_
                  refine jr.aload_n rfl rfl ?_
                  refine jr.getf (i := 138) (x := v5) (v := .int (Int32.ofInt (v5))) rfl rfl (nlt rfl) rfl (nlt rfl) rfl rfl ((ju_i _ _ (zne (by decide))).trans ((ju_i _ _ (zne (by decide))).trans ((ju_i _ _ (zne (by decide))).trans e5))) rfl ?_
                  refine jr.isub rfl ?_
                  exact jr.ireturn rfl rfl rfl (q _ _ (RI.u (RI.u (RI.u hI_M (a := 598) (i := 141) (show (0 : Int) ≤ _ ∧ _ ≤ (8 : Int) from by omega)) (a := 598) (i := 144) (show (-1 : Int) ≤ _ ∧ _ ≤ (15 : Int) from by omega)) (a := 598) (i := 142) (show (-9223372036854775808 : Int) ≤ _ ∧ _ ≤ (9223372036854775807 : Int) from by omega)) (RH.o (RH.o (RH.o hH_M (by decide) (by decide) (by decide)) (by decide) (by decide) (by decide)) (by decide) (by decide) (by decide)) (RF.o (RF.o (RF.o hS_M (by decide) (by decide)) (by decide) (by decide)) (by decide) (by decide))  (by omega) (AS.up (AS.o (AS.o (AS.o hAS (by decide) (Or.inr (by decide))) (by decide) (Or.inr (by decide))) (by decide) (Or.inr (by decide))) (by omega)) (fun a i f598 f602 f603 f604 f605 f624 f670 f671 f672 f673 f674 f675 f676 f677 f678 f679 f680 f681 f682 f683 f684 f685 f686 f687 => ((ju_c _ _ f598).trans ((ju_c _ _ f598).trans ((ju_c _ _ f598).trans (hF_M a i f598 f602 f603 f604 f605 f624 f670 f671 f672 f673 f674 f675 f676 f677 f678 f679 f680 f681 f682 f683 f684 f685 f686 f687))))) (fun i g6 g10 g11 g12 g59 g60 g61 g62 g63 g64 g65 g66 g110 g111 g112 g122 g131 g132 g133 g134 g135 g136 g137 g138 g139 g140 g141 g142 g143 g144 g145 g147 => ((ju_i _ _ g142).trans ((ju_i _ _ g144).trans ((ju_i _ _ g141).trans (hG_M i g6 g10 g11 g12 g59 g60 g61 g62 g63 g64 g65 g66 g110 g111 g112 g122 g131 g132 g133 g134 g135 g136 g137 g138 g139 g140 g141 g142 g143 g144 g145 g147))))))
                · exact absurd (by omega) h215
              · exact absurd (by omega) h203
      · exact absurd (by omega) h90
    · obtain ⟨ho, hFR, h2, h3, h4⟩ := hn
      obtain ⟨P, hP⟩ : ∃ z, M 598 132 = z := ⟨_, rfl⟩
      rw [hP] at h3 h4
      obtain ⟨hv, hhv⟩ : ∃ z, M 598 131 = z := ⟨_, rfl⟩
      rw [hhv] at h4
      have nb := hMX.2.1
      have mr0 := mu2.r ho
      have mz := mu135 M 0
      have rg := mu.rng (M := M) (hI_M 598 143 (Nat.le_of_ble_eq_true rfl)) h2 (by rw [hP]; omega)
      have b131 : (0 : Int) ≤ hv ∧ hv ≤ 400 := by rw [← hhv]; exact hI_M 598 131 (Nat.le_of_ble_eq_true rfl)
      refine jr.aload_n rfl rfl ?_
      refine jr.getf (i := 136) (x := 0) (v := .int (Int32.ofInt (0))) rfl rfl (nlt rfl) rfl (nlt rfl) rfl rfl ho rfl ?_
      refine jr.if_ne rfl rfl (by first | (refine rgb (by assumption) ?_; exact rfl) | omega) (fun h90 => ?_) (fun h90 => ?_)
      · exact absurd h90 (by omega)
      · refine jr.aload_n rfl rfl ?_
        refine jr.iconst rfl ?_
        refine jr.putf (i := 135) (x := 0) rfl rfl (nlt rfl) rfl (nlt rfl) rfl rfl rfl rfl rfl ?_
        refine jr.aload_n rfl rfl ?_
        refine jr.aload_n rfl rfl ?_
        refine jr.getf (i := 86) (v := .ref 654) rfl rfl (nlt rfl) rfl (nlt rfl) rfl rfl rfl rfl ?_
        refine jr.aload_n rfl rfl ?_
        refine jr.getf (i := 132) (x := P) (v := .int (Int32.ofInt (P))) rfl rfl (nlt rfl) rfl (nlt rfl) rfl rfl ((ju_i _ _ (zne (by decide))).trans hP) rfl ?_
        obtain ⟨v8, e8⟩ : ∃ z, M 654 P = z := ⟨_, rfl⟩
        have b8 : 0 ≤ v8 ∧ v8 ≤ 1000 := by rw [← e8]; exact (by have q := hI_M 654 P (by decide); rw [xri_row rfl rfl] at q; exact q)
        refine jr.iald (i := P) (x := v8) rfl (nlt rfl) rfl (Nat.le_of_ble_eq_true rfl) (by omega) (by omega) ((ju_c _ _ (by decide)).trans e8) ?_
        refine jr.aload_n rfl rfl ?_
        refine jr.getf (i := 87) (v := .ref 655) rfl rfl (nlt rfl) rfl (nlt rfl) rfl rfl rfl rfl ?_
        refine jr.aload_n rfl rfl ?_
        refine jr.getf (i := 132) (x := P) (v := .int (Int32.ofInt (P))) rfl rfl (nlt rfl) rfl (nlt rfl) rfl rfl ((ju_i _ _ (zne (by decide))).trans hP) rfl ?_
        obtain ⟨v9, e9⟩ : ∃ z, M 655 P = z := ⟨_, rfl⟩
        have b9 : (-9223372036854775808) ≤ v9 ∧ v9 ≤ 9223372036854775807 := by rw [← e9]; exact (by have q := hI_M 655 P (by decide); rw [xri_row rfl rfl] at q; exact q)
        refine jr.lald (i := P) (x := v9) rfl (nlt rfl) rfl (Nat.le_of_ble_eq_true rfl) (by omega) (by omega) ((ju_c _ _ (by decide)).trans e9) ?_
        obtain ⟨v11, e11⟩ : ∃ z, M 598 122 = z := ⟨_, rfl⟩
        have b11 : 0 ≤ v11 ∧ v11 ≤ 9 := by rw [← e11]; exact hI_M 598 122 (Nat.le_of_ble_eq_true rfl)
        have y12 : (ju M 598 135 0) 598 122 = v11 := ((ju_i _ _ (zne (by decide))).trans e11)
        refine jr_v rfl rfl (Or.inl rfl) rfl rfl (nlt rfl) rfl ⟨rfl, Nat.le_of_ble_eq_true rfl, Nat.le_of_ble_eq_true rfl⟩ rfl (jc.deep (r_act (RI.u hI_M (a := 598) (i := 135) (show (0 : Int) ≤ _ ∧ _ ≤ (8 : Int) from by omega)) (RH.o hH_M (by decide) (by decide) (by decide)) (RF.o hS_M (by decide) (by decide))  (by omega) (by omega) (MX.o hMX (by decide) (Or.inr (by decide))) (FRS.fr hFR (fun i => ((ju_c _ _ (by decide)).trans (rfl))) (fun i => ((ju_c _ _ (by decide)).trans (rfl))) (fun i => ((ju_c _ _ (by decide)).trans (rfl))) ((ju_i _ _ (zne (by decide))).trans (rfl)) (by omega)) (by rw [((ju_i _ _ (zne (by decide))).trans e11)]; omega) (AS.o hAS (by decide) (Or.inr (by decide))) (by omega) (by rw [((ju_i _ _ (zne (by decide))).trans hP)]; omega) (by rw [((ju_i _ _ (zne (by decide))).trans hhv), ((ju_i _ _ (zne (by decide))).trans hP)]; omega) (by rw [((ju_i _ _ (zne (by decide))).trans hP), ((ju_c _ _ (by decide)).trans e8)] <;> omega) (by rw [((ju_i _ _ (zne (by decide))).trans hP), ((ju_c _ _ (by decide)).trans e9)] <;> omega) (by rw [(ju_same _ _ _ _), ((ju_i _ _ (zne (by decide))).trans ho)]; omega) (fun M10 hI_M10 hH_M10 hS_M10  w10_0 w10_1 w10_2 w10_3 => ?_)) (Nat.le_of_ble_eq_true rfl))
        refine jr.aload_n rfl rfl ?_
        obtain ⟨v13, e13⟩ : ∃ z, M10 598 135 = z := ⟨_, rfl⟩
        have b13 : 0 ≤ v13 ∧ v13 ≤ 8 := by rw [← e13]; exact hI_M10 598 135 (Nat.le_of_ble_eq_true rfl)
        refine jr.getf (i := 135) (x := v13) (v := .int (Int32.ofInt (v13))) rfl rfl (nlt rfl) rfl (nlt rfl) rfl rfl e13 rfl ?_
        refine jr.if_eq rfl rfl (by first | (refine rgb (by assumption) ?_; exact rfl) | omega) (fun h124 => ?_) (fun h124 => ?_)
        · have y14 : M10 598 135 = v13 := e13
          have hRV : RV3 M10 (L + 2689623) ∧ mu2 M10 < mu2 M := by rcases w10_1 with z | ⟨y1, y2, y3, y4, ⟨y5, y6, y7⟩ | ⟨y5, y6, y7, y8, y9⟩⟩; (exact ⟨RV3.over ((MX.fr (MX.o hMX (by decide) (Or.inr (by decide))) (fun i => w10_2 652 i (nne rfl) (nne rfl) (nne rfl) (nne rfl) (nne rfl) (nne rfl) (nne rfl) (nne rfl) (nne rfl) (nne rfl) (nne rfl) (nne rfl) (nne rfl) (nne rfl) (nne rfl) (nne rfl) (nne rfl) (nne rfl) (nne rfl) (nne rfl) (nne rfl) (nne rfl) (nne rfl) (nne rfl)) (fun i => w10_2 653 i (nne rfl) (nne rfl) (nne rfl) (nne rfl) (nne rfl) (nne rfl) (nne rfl) (nne rfl) (nne rfl) (nne rfl) (nne rfl) (nne rfl) (nne rfl) (nne rfl) (nne rfl) (nne rfl) (nne rfl) (nne rfl) (nne rfl) (nne rfl) (nne rfl) (nne rfl) (nne rfl) (nne rfl)) (fun i => w10_2 654 i (nne rfl) (nne rfl) (nne rfl) (nne rfl) (nne rfl) (nne rfl) (nne rfl) (nne rfl) (nne rfl) (nne rfl) (nne rfl) (nne rfl) (nne rfl) (nne rfl) (nne rfl) (nne rfl) (nne rfl) (nne rfl) (nne rfl) (nne rfl) (nne rfl) (nne rfl) (nne rfl) (nne rfl)) (fun i => w10_2 655 i (nne rfl) (nne rfl) (nne rfl) (nne rfl) (nne rfl) (nne rfl) (nne rfl) (nne rfl) (nne rfl) (nne rfl) (nne rfl) (nne rfl) (nne rfl) (nne rfl) (nne rfl) (nne rfl) (nne rfl) (nne rfl) (nne rfl) (nne rfl) (nne rfl) (nne rfl) (nne rfl) (nne rfl)) (w10_3 82 (zne rfl) (zne rfl) (zne rfl) (zne rfl) (zne rfl) (zne rfl) (zne rfl) (zne rfl) (zne rfl) (zne rfl) (zne rfl) (zne rfl) (zne rfl) (zne rfl) (zne rfl) (zne rfl) (zne rfl) (zne rfl) (zne rfl) (zne rfl) (zne rfl) (zne rfl) (zne rfl) (zne rfl) (zne rfl)))) w10_0 z.1 (by omega), by rw [mu2.o z.1]; omega⟩); (exfalso; omega); (have mr := mu2.r y1; exact ⟨RV3.run ((MX.fr (MX.o hMX (by decide) (Or.inr (by decide))) (fun i => w10_2 652 i (nne rfl) (nne rfl) (nne rfl) (nne rfl) (nne rfl) (nne rfl) (nne rfl) (nne rfl) (nne rfl) (nne rfl) (nne rfl) (nne rfl) (nne rfl) (nne rfl) (nne rfl) (nne rfl) (nne rfl) (nne rfl) (nne rfl) (nne rfl) (nne rfl) (nne rfl) (nne rfl) (nne rfl)) (fun i => w10_2 653 i (nne rfl) (nne rfl) (nne rfl) (nne rfl) (nne rfl) (nne rfl) (nne rfl) (nne rfl) (nne rfl) (nne rfl) (nne rfl) (nne rfl) (nne rfl) (nne rfl) (nne rfl) (nne rfl) (nne rfl) (nne rfl) (nne rfl) (nne rfl) (nne rfl) (nne rfl) (nne rfl) (nne rfl)) (fun i => w10_2 654 i (nne rfl) (nne rfl) (nne rfl) (nne rfl) (nne rfl) (nne rfl) (nne rfl) (nne rfl) (nne rfl) (nne rfl) (nne rfl) (nne rfl) (nne rfl) (nne rfl) (nne rfl) (nne rfl) (nne rfl) (nne rfl) (nne rfl) (nne rfl) (nne rfl) (nne rfl) (nne rfl) (nne rfl)) (fun i => w10_2 655 i (nne rfl) (nne rfl) (nne rfl) (nne rfl) (nne rfl) (nne rfl) (nne rfl) (nne rfl) (nne rfl) (nne rfl) (nne rfl) (nne rfl) (nne rfl) (nne rfl) (nne rfl) (nne rfl) (nne rfl) (nne rfl) (nne rfl) (nne rfl) (nne rfl) (nne rfl) (nne rfl) (nne rfl)) (w10_3 82 (zne rfl) (zne rfl) (zne rfl) (zne rfl) (zne rfl) (zne rfl) (zne rfl) (zne rfl) (zne rfl) (zne rfl) (zne rfl) (zne rfl) (zne rfl) (zne rfl) (zne rfl) (zne rfl) (zne rfl) (zne rfl) (zne rfl) (zne rfl) (zne rfl) (zne rfl) (zne rfl) (zne rfl) (zne rfl)))) w10_0 y1 y2 ⟨y3, y4⟩ ⟨y6, y7⟩ y8 (hI_M10 598 143 (Nat.le_of_ble_eq_true rfl)) (by omega), by omega⟩)
          refine jr.pick (ls := [_]) [0] rfl rfl ?_
          exact ih (nM - 1) (by omega) M10  hI_M10 hH_M10 hS_M10  (fun a i f598 f602 f603 f604 f605 f624 f670 f671 f672 f673 f674 f675 f676 f677 f678 f679 f680 f681 f682 f683 f684 f685 f686 f687 => ((w10_2 a i f598 f602 f603 f604 f605 f624 f670 f671 f672 f673 f674 f675 f676 f677 f678 f679 f680 f681 f682 f683 f684 f685 f686 f687).trans ((ju_c _ _ f598).trans (hF_M a i f598 f602 f603 f604 f605 f624 f670 f671 f672 f673 f674 f675 f676 f677 f678 f679 f680 f681 f682 f683 f684 f685 f686 f687)))) (fun i g6 g10 g11 g12 g59 g60 g61 g62 g63 g64 g65 g66 g110 g111 g112 g122 g131 g132 g133 g134 g135 g136 g137 g138 g139 g140 g141 g142 g143 g144 g145 g147 => ((w10_3 i g6 g10 g11 g12 g59 g60 g61 g62 g63 g64 g65 g66 g110 g112 g122 g131 g132 g134 g135 g136 g137 g138 g139 g143 g145).trans ((ju_i _ _ g135).trans (hG_M i g6 g10 g11 g12 g59 g60 g61 g62 g63 g64 g65 g66 g110 g111 g112 g122 g131 g132 g133 g134 g135 g136 g137 g138 g139 g140 g141 g142 g143 g144 g145 g147))))  hRV.1 (by omega) (by have z := hRV.2; omega)
        · have sx124 : (1 : Int) ≤ v13 := by omega
          clear h124
          refine jr.aload_n rfl rfl ?_
          refine jr.aload_n rfl rfl ?_
          refine jr.getf (i := 135) (x := v13) (v := .int (Int32.ofInt (v13))) rfl rfl (nlt rfl) rfl (nlt rfl) rfl rfl e13 rfl ?_
          refine jr_v rfl rfl (Or.inl rfl) rfl rfl (nlt rfl) rfl ⟨rfl, Nat.le_of_ble_eq_true rfl, Nat.le_of_ble_eq_true rfl⟩ rfl (jc.deep (r_raise hI_M10 hH_M10 hS_M10  (by omega) (MX.fr (MX.o hMX (by decide) (Or.inr (by decide))) (fun i => w10_2 652 i (nne rfl) (nne rfl) (nne rfl) (nne rfl) (nne rfl) (nne rfl) (nne rfl) (nne rfl) (nne rfl) (nne rfl) (nne rfl) (nne rfl) (nne rfl) (nne rfl) (nne rfl) (nne rfl) (nne rfl) (nne rfl) (nne rfl) (nne rfl) (nne rfl) (nne rfl) (nne rfl) (nne rfl)) (fun i => w10_2 653 i (nne rfl) (nne rfl) (nne rfl) (nne rfl) (nne rfl) (nne rfl) (nne rfl) (nne rfl) (nne rfl) (nne rfl) (nne rfl) (nne rfl) (nne rfl) (nne rfl) (nne rfl) (nne rfl) (nne rfl) (nne rfl) (nne rfl) (nne rfl) (nne rfl) (nne rfl) (nne rfl) (nne rfl)) (fun i => w10_2 654 i (nne rfl) (nne rfl) (nne rfl) (nne rfl) (nne rfl) (nne rfl) (nne rfl) (nne rfl) (nne rfl) (nne rfl) (nne rfl) (nne rfl) (nne rfl) (nne rfl) (nne rfl) (nne rfl) (nne rfl) (nne rfl) (nne rfl) (nne rfl) (nne rfl) (nne rfl) (nne rfl) (nne rfl)) (fun i => w10_2 655 i (nne rfl) (nne rfl) (nne rfl) (nne rfl) (nne rfl) (nne rfl) (nne rfl) (nne rfl) (nne rfl) (nne rfl) (nne rfl) (nne rfl) (nne rfl) (nne rfl) (nne rfl) (nne rfl) (nne rfl) (nne rfl) (nne rfl) (nne rfl) (nne rfl) (nne rfl) (nne rfl) (nne rfl)) (w10_3 82 (zne rfl) (zne rfl) (zne rfl) (zne rfl) (zne rfl) (zne rfl) (zne rfl) (zne rfl) (zne rfl) (zne rfl) (zne rfl) (zne rfl) (zne rfl) (zne rfl) (zne rfl) (zne rfl) (zne rfl) (zne rfl) (zne rfl) (zne rfl) (zne rfl) (zne rfl) (zne rfl) (zne rfl) (zne rfl))) (by rcases w10_1 with z | ⟨y1, y2, _⟩; (exfalso; omega); exact y2) (by rcases w10_1 with z | ⟨y1, y2, y3, y4, _⟩; (exfalso; omega); exact ⟨y3, y4⟩) w10_0 (by omega) (fun M15 hI_M15 hH_M15 hS_M15  w15_0 w15_1 w15_2 w15_3 w15_4 => ?_)) (Nat.le_of_ble_eq_true rfl))
          refine jr.goto rfl rfl ?_
          obtain ⟨v16, e16⟩ : ∃ z, M10 598 136 = z := ⟨_, rfl⟩
          have b16 : 0 ≤ v16 ∧ v16 ≤ 1 := by rw [← e16]; exact hI_M10 598 136 (Nat.le_of_ble_eq_true rfl)
          obtain ⟨v18, e18⟩ : ∃ z, M10 598 143 = z := ⟨_, rfl⟩
          have b18 : 0 ≤ v18 ∧ v18 ≤ 300 := by rw [← e18]; exact hI_M10 598 143 (Nat.le_of_ble_eq_true rfl)
          obtain ⟨v21, e21⟩ : ∃ z, M10 598 143 = z := ⟨_, rfl⟩
          have b21 : 0 ≤ v21 ∧ v21 ≤ 300 := by rw [← e21]; exact hI_M10 598 143 (Nat.le_of_ble_eq_true rfl)
          have e22 : M15 598 143 = v21 := ((w15_4 143 (zne rfl) (zne rfl) (zne rfl) (zne rfl) (zne rfl) (zne rfl) (zne rfl) (zne rfl) (zne rfl) (zne rfl) (zne rfl)).trans e21)
          obtain ⟨v24, e24⟩ : ∃ z, M15 598 131 = z := ⟨_, rfl⟩
          have b24 : 0 ≤ v24 ∧ v24 ≤ 400 := by rw [← e24]; exact hI_M15 598 131 (Nat.le_of_ble_eq_true rfl)
          have hya : phi M10 = phi M ∧ M10 598 143 = M 598 143 ∧ M10 598 136 = 0 := by rcases w10_1 with z | ⟨y1, y2, y3, y4, ⟨y5, y6, y7⟩ | ⟨y5, y6, y7, y8, y9⟩⟩; (exfalso; omega); (exact ⟨by omega, by rw [y7]; exact ju_i _ _ (zne (by decide)), y1⟩); (exfalso; omega)
          have hm0 := mu.eq (M := M) rfl rfl hP (rfl : cr (M 654) P = cr (M 654) P)
          have c0 := cr_le (M 654) P
          have hRV : RV3 M15 (L + 2689623) ∧ mu2 M15 < mu2 M := by rcases w15_1 with z | ⟨y1, y2, y3, y4, y5, y6⟩; (exact ⟨RV3.over ((MX.fr (MX.fr (MX.o hMX (by decide) (Or.inr (by decide))) (fun i => w10_2 652 i (nne rfl) (nne rfl) (nne rfl) (nne rfl) (nne rfl) (nne rfl) (nne rfl) (nne rfl) (nne rfl) (nne rfl) (nne rfl) (nne rfl) (nne rfl) (nne rfl) (nne rfl) (nne rfl) (nne rfl) (nne rfl) (nne rfl) (nne rfl) (nne rfl) (nne rfl) (nne rfl) (nne rfl)) (fun i => w10_2 653 i (nne rfl) (nne rfl) (nne rfl) (nne rfl) (nne rfl) (nne rfl) (nne rfl) (nne rfl) (nne rfl) (nne rfl) (nne rfl) (nne rfl) (nne rfl) (nne rfl) (nne rfl) (nne rfl) (nne rfl) (nne rfl) (nne rfl) (nne rfl) (nne rfl) (nne rfl) (nne rfl) (nne rfl)) (fun i => w10_2 654 i (nne rfl) (nne rfl) (nne rfl) (nne rfl) (nne rfl) (nne rfl) (nne rfl) (nne rfl) (nne rfl) (nne rfl) (nne rfl) (nne rfl) (nne rfl) (nne rfl) (nne rfl) (nne rfl) (nne rfl) (nne rfl) (nne rfl) (nne rfl) (nne rfl) (nne rfl) (nne rfl) (nne rfl)) (fun i => w10_2 655 i (nne rfl) (nne rfl) (nne rfl) (nne rfl) (nne rfl) (nne rfl) (nne rfl) (nne rfl) (nne rfl) (nne rfl) (nne rfl) (nne rfl) (nne rfl) (nne rfl) (nne rfl) (nne rfl) (nne rfl) (nne rfl) (nne rfl) (nne rfl) (nne rfl) (nne rfl) (nne rfl) (nne rfl)) (w10_3 82 (zne rfl) (zne rfl) (zne rfl) (zne rfl) (zne rfl) (zne rfl) (zne rfl) (zne rfl) (zne rfl) (zne rfl) (zne rfl) (zne rfl) (zne rfl) (zne rfl) (zne rfl) (zne rfl) (zne rfl) (zne rfl) (zne rfl) (zne rfl) (zne rfl) (zne rfl) (zne rfl) (zne rfl) (zne rfl))) (fun i => w15_3 652 i (nne rfl) (nne rfl) (nne rfl) (nne rfl) (nne rfl) (nne rfl) (nne rfl) (nne rfl) (nne rfl) (nne rfl)) (fun i => w15_3 653 i (nne rfl) (nne rfl) (nne rfl) (nne rfl) (nne rfl) (nne rfl) (nne rfl) (nne rfl) (nne rfl) (nne rfl)) (fun i => w15_3 654 i (nne rfl) (nne rfl) (nne rfl) (nne rfl) (nne rfl) (nne rfl) (nne rfl) (nne rfl) (nne rfl) (nne rfl)) (fun i => w15_3 655 i (nne rfl) (nne rfl) (nne rfl) (nne rfl) (nne rfl) (nne rfl) (nne rfl) (nne rfl) (nne rfl) (nne rfl)) (w15_4 82 (zne rfl) (zne rfl) (zne rfl) (zne rfl) (zne rfl) (zne rfl) (zne rfl) (zne rfl) (zne rfl) (zne rfl) (zne rfl)))) w15_0 z (by omega), by rw [mu2.o z]; omega⟩); (have zc := REr.cr0 y5; obtain ⟨r1, r2, r3, _, _⟩ := y5; have zm := mu.eq (M := M15) rfl rfl rfl zc; have y0 : M15 598 136 = 0 := (by omega); have mr := mu2.r y0; exact ⟨RV3.run ((MX.fr (MX.fr (MX.o hMX (by decide) (Or.inr (by decide))) (fun i => w10_2 652 i (nne rfl) (nne rfl) (nne rfl) (nne rfl) (nne rfl) (nne rfl) (nne rfl) (nne rfl) (nne rfl) (nne rfl) (nne rfl) (nne rfl) (nne rfl) (nne rfl) (nne rfl) (nne rfl) (nne rfl) (nne rfl) (nne rfl) (nne rfl) (nne rfl) (nne rfl) (nne rfl) (nne rfl)) (fun i => w10_2 653 i (nne rfl) (nne rfl) (nne rfl) (nne rfl) (nne rfl) (nne rfl) (nne rfl) (nne rfl) (nne rfl) (nne rfl) (nne rfl) (nne rfl) (nne rfl) (nne rfl) (nne rfl) (nne rfl) (nne rfl) (nne rfl) (nne rfl) (nne rfl) (nne rfl) (nne rfl) (nne rfl) (nne rfl)) (fun i => w10_2 654 i (nne rfl) (nne rfl) (nne rfl) (nne rfl) (nne rfl) (nne rfl) (nne rfl) (nne rfl) (nne rfl) (nne rfl) (nne rfl) (nne rfl) (nne rfl) (nne rfl) (nne rfl) (nne rfl) (nne rfl) (nne rfl) (nne rfl) (nne rfl) (nne rfl) (nne rfl) (nne rfl) (nne rfl)) (fun i => w10_2 655 i (nne rfl) (nne rfl) (nne rfl) (nne rfl) (nne rfl) (nne rfl) (nne rfl) (nne rfl) (nne rfl) (nne rfl) (nne rfl) (nne rfl) (nne rfl) (nne rfl) (nne rfl) (nne rfl) (nne rfl) (nne rfl) (nne rfl) (nne rfl) (nne rfl) (nne rfl) (nne rfl) (nne rfl)) (w10_3 82 (zne rfl) (zne rfl) (zne rfl) (zne rfl) (zne rfl) (zne rfl) (zne rfl) (zne rfl) (zne rfl) (zne rfl) (zne rfl) (zne rfl) (zne rfl) (zne rfl) (zne rfl) (zne rfl) (zne rfl) (zne rfl) (zne rfl) (zne rfl) (zne rfl) (zne rfl) (zne rfl) (zne rfl) (zne rfl))) (fun i => w15_3 652 i (nne rfl) (nne rfl) (nne rfl) (nne rfl) (nne rfl) (nne rfl) (nne rfl) (nne rfl) (nne rfl) (nne rfl)) (fun i => w15_3 653 i (nne rfl) (nne rfl) (nne rfl) (nne rfl) (nne rfl) (nne rfl) (nne rfl) (nne rfl) (nne rfl) (nne rfl)) (fun i => w15_3 654 i (nne rfl) (nne rfl) (nne rfl) (nne rfl) (nne rfl) (nne rfl) (nne rfl) (nne rfl) (nne rfl) (nne rfl)) (fun i => w15_3 655 i (nne rfl) (nne rfl) (nne rfl) (nne rfl) (nne rfl) (nne rfl) (nne rfl) (nne rfl) (nne rfl) (nne rfl)) (w15_4 82 (zne rfl) (zne rfl) (zne rfl) (zne rfl) (zne rfl) (zne rfl) (zne rfl) (zne rfl) (zne rfl) (zne rfl) (zne rfl)))) w15_0 y0 y2 ⟨y3, y4⟩ ⟨r1, r2⟩ (by rw [r3]; exact w15_2) (hI_M15 598 143 (Nat.le_of_ble_eq_true rfl)) (by omega), by omega⟩)
          refine jr.pick (ls := [_]) [0] rfl rfl ?_
          exact ih (nM - 1) (by omega) M15  hI_M15 hH_M15 hS_M15  (fun a i f598 f602 f603 f604 f605 f624 f670 f671 f672 f673 f674 f675 f676 f677 f678 f679 f680 f681 f682 f683 f684 f685 f686 f687 => ((w15_3 a i f598 f602 f624 f670 f671 f672 f673 f680 f683 f684).trans ((w10_2 a i f598 f602 f603 f604 f605 f624 f670 f671 f672 f673 f674 f675 f676 f677 f678 f679 f680 f681 f682 f683 f684 f685 f686 f687).trans ((ju_c _ _ f598).trans (hF_M a i f598 f602 f603 f604 f605 f624 f670 f671 f672 f673 f674 f675 f676 f677 f678 f679 f680 f681 f682 f683 f684 f685 f686 f687))))) (fun i g6 g10 g11 g12 g59 g60 g61 g62 g63 g64 g65 g66 g110 g111 g112 g122 g131 g132 g133 g134 g135 g136 g137 g138 g139 g140 g141 g142 g143 g144 g145 g147 => ((w15_4 i g112 g122 g132 g134 g136 g137 g138 g111 g131 g142 g147).trans ((w10_3 i g6 g10 g11 g12 g59 g60 g61 g62 g63 g64 g65 g66 g110 g112 g122 g131 g132 g134 g135 g136 g137 g138 g139 g143 g145).trans ((ju_i _ _ g135).trans (hG_M i g6 g10 g11 g12 g59 g60 g61 g62 g63 g64 g65 g66 g110 g111 g112 g122 g131 g132 g133 g134 g135 g136 g137 g138 g139 g140 g141 g142 g143 g144 g145 g147)))))  hRV.1 (by omega) (by have z := hRV.2; omega)
theorem r_verdict {A : Nat → Option (Nat × (Nat → Int32))} {Q : Option Value → jm → Prop} {L : Int} {M : jm} (hI_M : RI M) (hH_M : RH M) (hS_M : RF M) {x : Int} (h_x : (-2147483648) ≤ x ∧ x ≤ 2147483647) (p0 : MC M) (p1 : AS M L) (p2 : 0 ≤ L ∧ L ≤ 1990000000) (q : ∀ (r : Int) (M' : jm), RI M' → RH M' → RF M' → (-18) ≤ r ∧ r ≤ 8 → AS M' (L + 2689623) → (∀ (a : Nat) (i : Int), a ≠ 598 → a ≠ 602 → a ≠ 603 → a ≠ 604 → a ≠ 605 → a ≠ 624 → a ≠ 670 → a ≠ 671 → a ≠ 672 → a ≠ 673 → a ≠ 674 → a ≠ 675 → a ≠ 676 → a ≠ 677 → a ≠ 678 → a ≠ 679 → a ≠ 680 → a ≠ 681 → a ≠ 682 → a ≠ 683 → a ≠ 684 → a ≠ 685 → a ≠ 686 → a ≠ 687 → M' a i = M a i) → (∀ (i : Int), i ≠ 6 → i ≠ 10 → i ≠ 11 → i ≠ 12 → i ≠ 59 → i ≠ 60 → i ≠ 61 → i ≠ 62 → i ≠ 63 → i ≠ 64 → i ≠ 65 → i ≠ 66 → i ≠ 110 → i ≠ 111 → i ≠ 112 → i ≠ 122 → i ≠ 131 → i ≠ 132 → i ≠ 133 → i ≠ 134 → i ≠ 135 → i ≠ 136 → i ≠ 137 → i ≠ 138 → i ≠ 139 → i ≠ 140 → i ≠ 141 → i ≠ 142 → i ≠ 143 → i ≠ 144 → i ≠ 145 → i ≠ 147 → M' 598 i = M 598 i) → Q (some (.int (Int32.ofInt r))) M') : jc A 11 379 [.ref (598), .int (Int32.ofInt (x))] M Q := by
  have hAS := p1
  refine jc_of (m := xm_379) rfl (Nat.le_of_ble_eq_true rfl) rfl ?_
  refine jr.iload_n rfl rfl ?_
  refine jr_s rfl rfl (Or.inl rfl) ⟨Nat.le_of_ble_eq_true rfl, Nat.le_of_ble_eq_true rfl⟩ rfl rfl (jc.deep (c_isPN (by omega) (fun l1 u1 => ?_) (fun n1 => ?_)) (Nat.le_of_ble_eq_true rfl))
  · refine jr.if_ne rfl rfl (by first | exact rgl rfl | omega) (fun _ => ?_) (fun h => absurd (by decide) h)
    refine jr.aload_n rfl rfl ?_
    obtain ⟨v1, e1⟩ : ∃ z, M 598 82 = z := ⟨_, rfl⟩
    have b1 : 0 ≤ v1 ∧ v1 ≤ 16 := by rw [← e1]; exact hI_M 598 82 (Nat.le_of_ble_eq_true rfl)
    refine jr.getf (i := 82) (x := v1) (v := .int (Int32.ofInt (v1))) rfl rfl (nlt rfl) rfl (nlt rfl) rfl rfl e1 rfl ?_
    refine jr.if_eq rfl rfl (by first | (refine rgb (by assumption) ?_; exact rfl) | omega) (fun h14 => ?_) (fun h14 => ?_)
    · refine jr.bipush rfl (by decide) ?_
      exact jr.ireturn rfl rfl rfl (q _ _ hI_M hH_M hS_M  (by first | exact rgq rfl | omega) (AS.up hAS (by omega)) (fun a i f598 f602 f603 f604 f605 f624 f670 f671 f672 f673 f674 f675 f676 f677 f678 f679 f680 f681 f682 f683 f684 f685 f686 f687 => rfl) (fun i g6 g10 g11 g12 g59 g60 g61 g62 g63 g64 g65 g66 g110 g111 g112 g122 g131 g132 g133 g134 g135 g136 g137 g138 g139 g140 g141 g142 g143 g144 g145 g147 => rfl))
    · have sx14 : (1 : Int) ≤ v1 := by omega
      clear h14
      refine jr.aload_n rfl rfl ?_
      obtain ⟨v2, e2⟩ : ∃ z, M 598 111 = z := ⟨_, rfl⟩
      have b2 : 0 ≤ v2 ∧ v2 ≤ 2000 := by rw [← e2]; exact hI_M 598 111 (Nat.le_of_ble_eq_true rfl)
      refine jr.getf (i := 111) (x := v2) (v := .int (Int32.ofInt (v2))) rfl rfl (nlt rfl) rfl (nlt rfl) rfl rfl e2 rfl ?_
      refine jr.sipush rfl (by decide) ?_
      refine jr.icmp_ne rfl rfl (by first | (refine rgb (by assumption) ?_; exact rfl) | omega) (rgl rfl) (fun h24 => ?_) (fun h24 => ?_)
      · have sx24 : v2 ≤ (1999 : Int) := by omega
        clear h24
        refine jr.aload_n rfl rfl ?_
        refine jr.iload_n rfl rfl ?_
        refine jr.putf (i := 133) (x := x) rfl rfl (nlt rfl) rfl (nlt rfl) rfl rfl rfl rfl rfl ?_
        refine jr.aload_n rfl rfl ?_
        refine jr.iconst rfl ?_
        refine jr.putf (i := 122) (x := 0) rfl rfl (nlt rfl) rfl (nlt rfl) rfl rfl rfl rfl rfl ?_
        refine jr.aload_n rfl rfl ?_
        refine jr.iconst rfl ?_
        refine jr.putf (i := 131) (x := 0) rfl rfl (nlt rfl) rfl (nlt rfl) rfl rfl rfl rfl rfl ?_
        refine jr.aload_n rfl rfl ?_
        refine jr.iconst rfl ?_
        refine jr.putf (i := 134) (x := 0) rfl rfl (nlt rfl) rfl (nlt rfl) rfl rfl rfl rfl rfl ?_
        refine jr.aload_n rfl rfl ?_
        refine jr.iconst rfl ?_
        refine jr.putf (i := 143) (x := 0) rfl rfl (nlt rfl) rfl (nlt rfl) rfl rfl rfl rfl rfl ?_
        refine jr.aload_n rfl rfl ?_
        refine jr.iconst rfl ?_
        refine jr.putf (i := 145) (x := 0) rfl rfl (nlt rfl) rfl (nlt rfl) rfl rfl rfl rfl rfl ?_
        refine jr.aload_n rfl rfl ?_
        refine jr.lconst (x := 0) rfl (by decide) ?_
        refine jr.putf (i := 142) (x := 0) rfl rfl (nlt rfl) rfl (nlt rfl) rfl rfl rfl rfl rfl ?_
        refine jr.aload_n rfl rfl ?_
        refine jr.iconst rfl ?_
        refine jr.putf (i := 136) (x := 0) rfl rfl (nlt rfl) rfl (nlt rfl) rfl rfl rfl rfl rfl ?_
        refine jr.aload_n rfl rfl ?_
        refine jr.iconst rfl ?_
        refine jr.putf (i := 140) (x := 1) rfl rfl (nlt rfl) rfl (nlt rfl) rfl rfl rfl rfl rfl ?_
        refine jr.aload_n rfl rfl ?_
        refine jr.iconst rfl ?_
        refine jr.putf (i := 132) (x := 0) rfl rfl (nlt rfl) rfl (nlt rfl) rfl rfl rfl rfl rfl ?_
        refine jr.aload_n rfl rfl ?_
        refine jr.iconst rfl ?_
        refine jr.iconst rfl ?_
        refine jr_v rfl rfl (Or.inl rfl) rfl rfl (nlt rfl) rfl ⟨rfl, Nat.le_of_ble_eq_true rfl, Nat.le_of_ble_eq_true rfl⟩ rfl (jc.deep (r_enter (RI.u (RI.u (RI.u (RI.u (RI.u (RI.u (RI.u (RI.u (RI.u (RI.u hI_M (a := 598) (i := 133) (show (0 : Int) ≤ _ ∧ _ ≤ (23 : Int) from by omega)) (a := 598) (i := 122) (show (0 : Int) ≤ _ ∧ _ ≤ (9 : Int) from by omega)) (a := 598) (i := 131) (show (0 : Int) ≤ _ ∧ _ ≤ (400 : Int) from by omega)) (a := 598) (i := 134) (show (0 : Int) ≤ _ ∧ _ ≤ (8 : Int) from by omega)) (a := 598) (i := 143) (show (0 : Int) ≤ _ ∧ _ ≤ (300 : Int) from by omega)) (a := 598) (i := 145) (show (0 : Int) ≤ _ ∧ _ ≤ (40 : Int) from by omega)) (a := 598) (i := 142) (show (-9223372036854775808 : Int) ≤ _ ∧ _ ≤ (9223372036854775807 : Int) from by omega)) (a := 598) (i := 136) (show (0 : Int) ≤ _ ∧ _ ≤ (1 : Int) from by omega)) (a := 598) (i := 140) (show (0 : Int) ≤ _ ∧ _ ≤ (1 : Int) from by omega)) (a := 598) (i := 132) (show (0 : Int) ≤ _ ∧ _ ≤ (2200 : Int) from by omega)) (RH.o (RH.o (RH.o (RH.o (RH.o (RH.o (RH.o (RH.o (RH.o (RH.o hH_M (by decide) (by decide) (by decide)) (by decide) (by decide) (by decide)) (by decide) (by decide) (by decide)) (by decide) (by decide) (by decide)) (by decide) (by decide) (by decide)) (by decide) (by decide) (by decide)) (by decide) (by decide) (by decide)) (by decide) (by decide) (by decide)) (by decide) (by decide) (by decide)) (by decide) (by decide) (by decide)) (RF.o (RF.o (RF.o (RF.o (RF.o (RF.o (RF.o (RF.o (RF.o (RF.o hS_M (by decide) (by decide)) (by decide) (by decide)) (by decide) (by decide)) (by decide) (by decide)) (by decide) (by decide)) (by decide) (by decide)) (by decide) (by decide)) (by decide) (by decide)) (by decide) (by decide)) (by decide) (by decide))  (by omega) (by omega) (by rw [((ju_i _ _ (zne (by decide))).trans ((ju_i _ _ (zne (by decide))).trans ((ju_i _ _ (zne (by decide))).trans ((ju_i _ _ (zne (by decide))).trans ((ju_i _ _ (zne (by decide))).trans ((ju_i _ _ (zne (by decide))).trans ((ju_i _ _ (zne (by decide))).trans ((ju_i _ _ (zne (by decide))).trans (ju_same _ _ _ _)))))))))]; omega) (AS.o (AS.o (AS.o (AS.o (AS.o (AS.o (AS.o (AS.o (AS.o (AS.o hAS (by decide) (Or.inr (by decide))) (by decide) (Or.inr (by decide))) (by decide) (Or.inr (by decide))) (by decide) (Or.inr (by decide))) (by decide) (Or.inr (by decide))) (by decide) (Or.inr (by decide))) (by decide) (Or.inr (by decide))) (by decide) (Or.inr (by decide))) (by decide) (Or.inr (by decide))) (by decide) (Or.inr (by decide))) (by omega) (fun M3 hI_M3 hH_M3 hS_M3  w3_0 w3_1 w3_2 w3_3 w3_4 w3_5 w3_6 => ?_)) (Nat.le_of_ble_eq_true rfl))
        have y4 : (ju (ju (ju (ju (ju (ju (ju (ju (ju (ju M 598 133 x) 598 122 0) 598 131 0) 598 134 0) 598 143 0) 598 145 0) 598 142 0) 598 136 0) 598 140 1) 598 132 0) 598 122 = 0 := ((ju_i _ _ (zne (by decide))).trans ((ju_i _ _ (zne (by decide))).trans ((ju_i _ _ (zne (by decide))).trans ((ju_i _ _ (zne (by decide))).trans ((ju_i _ _ (zne (by decide))).trans ((ju_i _ _ (zne (by decide))).trans ((ju_i _ _ (zne (by decide))).trans ((ju_i _ _ (zne (by decide))).trans (ju_same _ _ _ _)))))))))
        have y5 : (ju (ju (ju (ju (ju (ju (ju (ju (ju (ju M 598 133 x) 598 122 0) 598 131 0) 598 134 0) 598 143 0) 598 145 0) 598 142 0) 598 136 0) 598 140 1) 598 132 0) 598 132 = 0 := (ju_same _ _ _ _)
        have y6 : (ju (ju (ju (ju (ju (ju (ju (ju (ju (ju M 598 133 x) 598 122 0) 598 131 0) 598 134 0) 598 143 0) 598 145 0) 598 142 0) 598 136 0) 598 140 1) 598 132 0) 598 136 = 0 := ((ju_i _ _ (zne (by decide))).trans ((ju_i _ _ (zne (by decide))).trans (ju_same _ _ _ _)))
        obtain ⟨v7, e7⟩ : ∃ z, M3 598 122 = z := ⟨_, rfl⟩
        have b7 : 0 ≤ v7 ∧ v7 ≤ 9 := by rw [← e7]; exact hI_M3 598 122 (Nat.le_of_ble_eq_true rfl)
        have e9 : M3 598 131 = 0 := ((w3_6 131 (zne rfl) (zne rfl)).trans ((ju_i _ _ (zne (by decide))).trans ((ju_i _ _ (zne (by decide))).trans ((ju_i _ _ (zne (by decide))).trans ((ju_i _ _ (zne (by decide))).trans ((ju_i _ _ (zne (by decide))).trans ((ju_i _ _ (zne (by decide))).trans ((ju_i _ _ (zne (by decide))).trans (ju_same _ _ _ _)))))))))
        obtain ⟨v11, e11⟩ : ∃ z, M3 598 132 = z := ⟨_, rfl⟩
        have b11 : 0 ≤ v11 ∧ v11 ≤ 2200 := by rw [← e11]; exact hI_M3 598 132 (Nat.le_of_ble_eq_true rfl)
        have e13 : M3 598 136 = 0 := ((w3_6 136 (zne rfl) (zne rfl)).trans ((ju_i _ _ (zne (by decide))).trans ((ju_i _ _ (zne (by decide))).trans (ju_same _ _ _ _))))
        have e15 : M3 598 143 = 0 := ((w3_6 143 (zne rfl) (zne rfl)).trans ((ju_i _ _ (zne (by decide))).trans ((ju_i _ _ (zne (by decide))).trans ((ju_i _ _ (zne (by decide))).trans ((ju_i _ _ (zne (by decide))).trans ((ju_i _ _ (zne (by decide))).trans (ju_same _ _ _ _)))))))
        have mc := p0.resolve_left (by omega)
        obtain ⟨ht, n, mx⟩ := mc
        have hMX : MX M ht n := mx
        have en0 := MX.re hMX (hMX.2.2.2.1 0 (by omega) (by omega)).1
        have hMX2 := (MX.fr (MX.o (MX.o (MX.o (MX.o (MX.o (MX.o (MX.o (MX.o (MX.o (MX.o hMX (by decide) (Or.inr (by decide))) (by decide) (Or.inr (by decide))) (by decide) (Or.inr (by decide))) (by decide) (Or.inr (by decide))) (by decide) (Or.inr (by decide))) (by decide) (Or.inr (by decide))) (by decide) (Or.inr (by decide))) (by decide) (Or.inr (by decide))) (by decide) (Or.inr (by decide))) (by decide) (Or.inr (by decide))) (fun i => w3_5 652 i (nne rfl) (nne rfl) (nne rfl) (nne rfl) (nne rfl) (nne rfl)) (fun i => w3_5 653 i (nne rfl) (nne rfl) (nne rfl) (nne rfl) (nne rfl) (nne rfl)) (fun i => w3_5 654 i (nne rfl) (nne rfl) (nne rfl) (nne rfl) (nne rfl) (nne rfl)) (fun i => w3_5 655 i (nne rfl) (nne rfl) (nne rfl) (nne rfl) (nne rfl) (nne rfl)) (w3_6 82 (zne rfl) (zne rfl)))
        have hent : FRS M3 ht n (0 + 1) := by
          intro f f0 f1
          have e : f = 0 := by omega
          rw [e, show M3 654 = M 654 from funext (fun i => (w3_5 654 i (nne rfl) (nne rfl) (nne rfl) (nne rfl) (nne rfl) (nne rfl)).trans ((fun i => ((ju_c _ _ (by decide)).trans ((ju_c _ _ (by decide)).trans ((ju_c _ _ (by decide)).trans ((ju_c _ _ (by decide)).trans ((ju_c _ _ (by decide)).trans ((ju_c _ _ (by decide)).trans ((ju_c _ _ (by decide)).trans ((ju_c _ _ (by decide)).trans ((ju_c _ _ (by decide)).trans ((ju_c _ _ (by decide)).trans (rfl)))))))))))) i)), ((w3_6 82 (zne rfl) (zne rfl)).trans ((ju_i _ _ (zne (by decide))).trans ((ju_i _ _ (zne (by decide))).trans ((ju_i _ _ (zne (by decide))).trans ((ju_i _ _ (zne (by decide))).trans ((ju_i _ _ (zne (by decide))).trans ((ju_i _ _ (zne (by decide))).trans ((ju_i _ _ (zne (by decide))).trans ((ju_i _ _ (zne (by decide))).trans ((ju_i _ _ (zne (by decide))).trans ((ju_i _ _ (zne (by decide))).trans (rfl))))))))))))]
          have q := w3_4.1
          rw [((ju_i _ _ (zne (by decide))).trans ((ju_i _ _ (zne (by decide))).trans ((ju_i _ _ (zne (by decide))).trans ((ju_i _ _ (zne (by decide))).trans ((ju_i _ _ (zne (by decide))).trans ((ju_i _ _ (zne (by decide))).trans ((ju_i _ _ (zne (by decide))).trans ((ju_i _ _ (zne (by decide))).trans (ju_same _ _ _ _)))))))))] at q
          rw [q]
          exact ⟨by omega, by omega, fun z => by omega⟩
        have pce : M3 598 132 = M 652 0 := by rw [w3_2, show (ju (ju (ju (ju (ju (ju (ju (ju (ju (ju M 598 133 x) 598 122 0) 598 131 0) 598 134 0) 598 143 0) 598 145 0) 598 142 0) 598 136 0) 598 140 1) 598 132 0) 652 0 = M 652 0 from (fun i => ((ju_c _ _ (by decide)).trans ((ju_c _ _ (by decide)).trans ((ju_c _ _ (by decide)).trans ((ju_c _ _ (by decide)).trans ((ju_c _ _ (by decide)).trans ((ju_c _ _ (by decide)).trans ((ju_c _ _ (by decide)).trans ((ju_c _ _ (by decide)).trans ((ju_c _ _ (by decide)).trans ((ju_c _ _ (by decide)).trans (rfl)))))))))))) 0]
        have r5 := mu.rng (M := M3) (hI_M3 598 143 (Nat.le_of_ble_eq_true rfl)) (by omega) (by rw [pce]; exact ⟨en0.1, by have := hMX.2.1; have := en0.2.1; omega⟩)
        have hRV : RV3 M3 (L + 2689623) := (RV3.run hMX2 w3_0 (by omega) (by rw [show M3 598 122 = 0 + 1 by omega]; exact hent) (by omega) (by rw [pce]; exact ⟨en0.1, en0.2.1⟩) (by rw [pce, en0.2.2.1, e9]) (hI_M3 598 143 (Nat.le_of_ble_eq_true rfl)) (by omega))
        refine jr.pick [0] rfl rfl ?_
        exact r_verdict_L86 q 2689622 M3  hI_M3 hH_M3 hS_M3  (fun a i f598 f602 f603 f604 f605 f624 f670 f671 f672 f673 f674 f675 f676 f677 f678 f679 f680 f681 f682 f683 f684 f685 f686 f687 => ((w3_5 a i f598 f679 f680 f681 f682 f685).trans ((ju_c _ _ f598).trans ((ju_c _ _ f598).trans ((ju_c _ _ f598).trans ((ju_c _ _ f598).trans ((ju_c _ _ f598).trans ((ju_c _ _ f598).trans ((ju_c _ _ f598).trans ((ju_c _ _ f598).trans ((ju_c _ _ f598).trans ((ju_c _ _ f598).trans rfl)))))))))))) (fun i g6 g10 g11 g12 g59 g60 g61 g62 g63 g64 g65 g66 g110 g111 g112 g122 g131 g132 g133 g134 g135 g136 g137 g138 g139 g140 g141 g142 g143 g144 g145 g147 => ((w3_6 i g122 g132).trans ((ju_i _ _ g132).trans ((ju_i _ _ g140).trans ((ju_i _ _ g136).trans ((ju_i _ _ g142).trans ((ju_i _ _ g145).trans ((ju_i _ _ g143).trans ((ju_i _ _ g134).trans ((ju_i _ _ g131).trans ((ju_i _ _ g122).trans ((ju_i _ _ g133).trans rfl))))))))))))  hRV (by omega) (by obtain ⟨_, _, _, _, _, r, _⟩ := hRV; omega)
      · refine jr.bipush rfl (by decide) ?_
        exact jr.ireturn rfl rfl rfl (q _ _ hI_M hH_M hS_M  (by first | exact rgq rfl | omega) (AS.up hAS (by omega)) (fun a i f598 f602 f603 f604 f605 f624 f670 f671 f672 f673 f674 f675 f676 f677 f678 f679 f680 f681 f682 f683 f684 f685 f686 f687 => rfl) (fun i g6 g10 g11 g12 g59 g60 g61 g62 g63 g64 g65 g66 g110 g111 g112 g122 g131 g132 g133 g134 g135 g136 g137 g138 g139 g140 g141 g142 g143 g144 g145 g147 => rfl))
  · refine jr.if_ne rfl rfl (by first | exact rgl rfl | omega) (fun h => absurd h (by decide)) (fun _ => ?_)
    refine jr.bipush rfl (by decide) ?_
    exact jr.ireturn rfl rfl rfl (q _ _ hI_M hH_M hS_M  (by first | exact rgq rfl | omega) (AS.up hAS (by omega)) (fun a i f598 f602 f603 f604 f605 f624 f670 f671 f672 f673 f674 f675 f676 f677 f678 f679 f680 f681 f682 f683 f684 f685 f686 f687 => rfl) (fun i g6 g10 g11 g12 g59 g60 g61 g62 g63 g64 g65 g66 g110 g111 g112 g122 g131 g132 g133 g134 g135 g136 g137 g138 g139 g140 g141 g142 g143 g144 g145 g147 => rfl))
end
section
/-! ===== the reference: contracts, 38.ga ===== -/
noncomputable def KT (M : jm) (o c f t k h x : Int) : Prop := (k = 2 ∨ k = 6) ∧ f + c ≤ 400 ∧ 8 ≤ M 604 h + M 605 h ∧ M 604 t ≤ 380 ∧ M 604 h ≤ 392 ∧ (k = 2 → (t = h ∧ M 605 h = 4 * (M 601 (400 * x + M 604 h) % 16) ∧ 20 ≤ M 605 h))
theorem KT.fr {M M' : jm} {o c f t k h x : Int} (q : KT M o c f t k h x) (e1 : ∀ i, M' 601 i = M 601 i) (e4 : ∀ i, M' 604 i = M 604 i) (e5 : ∀ i, M' 605 i = M 605 i) : KT M' o c f t k h x := by
  unfold KT at q ⊢
  rw [e4, e4, e5, e1]
  exact q
noncomputable def HK (M : jm) (x h t k a : Int) : Prop := M 603 h = k ∧ M 604 h = a ∧ a + M 605 h ≤ M 600 x ∧ M 604 t ≤ 380 ∧ ((k = 2 ∧ a ≤ 380 ∧ t = h ∧ M 605 h = 4 * (M 601 (400 * x + M 604 h) % 16) ∧ 20 ≤ M 605 h) ∨ (k = 6 ∧ a ≤ 392 ∧ 8 ≤ M 605 h ∧ M 604 t ≤ 376))
theorem HK.mk' {M : jm} {x h t k a : Int} (hH : RH M) (hl : LK x M) (h0 : 0 ≤ h) (h1 : h < M 598 6) (e1 : M 603 h = k) (e2 : M 604 h = a) (hk : M 603 h = 2 ∧ M 604 h ≤ 380 ∨ M 603 h = 6 ∧ M 604 h ≤ 392 ∧ 1 ≤ h) (ht0 : t = -1 ∨ (0 ≤ t ∧ t < M 598 6 ∧ (M 603 t = 2 ∧ M 604 t ≤ 380 ∨ M 603 t = 3 ∧ M 604 t ≤ 376))) (hn : ∀ j : Int, 0 ≤ j → j < t → M 603 j ≠ 2 ∧ M 603 j ≠ 3) (hn2 : t = -1 → ∀ j : Int, 0 ≤ j → j < M 598 6 → M 603 j ≠ 2 ∧ M 603 j ≠ 3) (hp : ∃ s : Int, 0 ≤ s ∧ s < M 598 6 ∧ (M 603 s = 2 ∨ M 603 s = 3) ∧ (∀ j : Int, 0 ≤ j → j < s → M 603 j ≠ 2 ∧ M 603 j ≠ 3) ∧ ((M 603 h = 2 ∧ s = h) ∨ (M 603 h = 6 ∧ M 603 s = 3))) : 0 ≤ t ∧ HK M x h t k a := by
  obtain ⟨s, s0, s1, s2, s3, s4⟩ := hp
  have tn : t ≠ -1 := by
    intro z
    have z1 := hn2 z s s0 s1
    omega
  have e : t = s := by
    rcases Int.lt_trichotomy t s with y | y | y
    · exfalso
      have z2 := s3 t (by omega) y
      omega
    · exact y
    · exfalso
      have z2 := hn s s0 y
      omega
  subst e
  have l0 := hl h h0 h1
  have lk := lst_k (M 603 h)
  refine ⟨s0, e1, e2, by omega, by omega, ?_⟩
  rcases s4 with ⟨q1, q2⟩ | ⟨q1, q2⟩
  · exact Or.inl ⟨by omega, by omega, q2, l0.2.2 q1, by omega⟩
  · exact Or.inr ⟨by omega, by omega, by omega, by omega⟩
end
