theorem r_act_L246 {A : Nat → Option (Nat × (Nat → Int32))} {Q : Option Value → jm → Prop} {L n : Int} {ht : Int → Int} {M0 : jm} (q : ∀ (M' : jm), RI M' → RH M' → RF M' → AS M' (L + 1) → ((M' 598 136 = 1 ∧ M' 598 135 = 0) ∨ (M' 598 136 = 0 ∧ FRS M' ht n (M' 598 122) ∧ 1 ≤ M' 598 122 ∧ M' 598 122 ≤ 8 ∧ ((M' 598 135 ≠ 0 ∧ phi M' = phi M0 ∧ M' 598 143 = M0 598 143) ∨ (M' 598 135 = 0 ∧ 0 ≤ M' 598 132 ∧ M' 598 132 < n ∧ M' 598 131 = ht (M' 598 132) ∧ mu M' < mu M0)))) → (∀ (a : Nat) (i : Int), a ≠ 598 → a ≠ 602 → a ≠ 603 → a ≠ 604 → a ≠ 605 → a ≠ 624 → a ≠ 670 → a ≠ 671 → a ≠ 672 → a ≠ 673 → a ≠ 674 → a ≠ 675 → a ≠ 676 → a ≠ 677 → a ≠ 678 → a ≠ 679 → a ≠ 680 → a ≠ 681 → a ≠ 682 → a ≠ 683 → a ≠ 684 → a ≠ 685 → a ≠ 686 → a ≠ 687 → M' a i = M0 a i) → (∀ (i : Int), i ≠ 6 → i ≠ 10 → i ≠ 11 → i ≠ 12 → i ≠ 59 → i ≠ 60 → i ≠ 61 → i ≠ 62 → i ≠ 63 → i ≠ 64 → i ≠ 65 → i ≠ 66 → i ≠ 110 → i ≠ 112 → i ≠ 122 → i ≠ 131 → i ≠ 132 → i ≠ 134 → i ≠ 135 → i ≠ 136 → i ≠ 137 → i ≠ 138 → i ≠ 139 → i ≠ 143 → i ≠ 145 → M' 598 i = M0 598 i) → Q none M') : ∀ (M : jm) (a : Int) (o : Int), RI M → RH M → RF M → (∀ (a : Nat) (i : Int), a ≠ 598 → a ≠ 602 → a ≠ 603 → a ≠ 604 → a ≠ 605 → a ≠ 624 → a ≠ 670 → a ≠ 671 → a ≠ 672 → a ≠ 673 → a ≠ 674 → a ≠ 675 → a ≠ 676 → a ≠ 677 → a ≠ 678 → a ≠ 679 → a ≠ 680 → a ≠ 681 → a ≠ 682 → a ≠ 683 → a ≠ 684 → a ≠ 685 → a ≠ 686 → a ≠ 687 → M a i = M0 a i) → (∀ (i : Int), i ≠ 6 → i ≠ 10 → i ≠ 11 → i ≠ 12 → i ≠ 59 → i ≠ 60 → i ≠ 61 → i ≠ 62 → i ≠ 63 → i ≠ 64 → i ≠ 65 → i ≠ 66 → i ≠ 110 → i ≠ 112 → i ≠ 122 → i ≠ 131 → i ≠ 132 → i ≠ 134 → i ≠ 135 → i ≠ 136 → i ≠ 137 → i ≠ 138 → i ≠ 139 → i ≠ 143 → i ≠ 145 → M 598 i = M0 598 i) → (-9223372036854775808) ≤ a ∧ a ≤ 9223372036854775807 → 0 ≤ o ∧ o ≤ 1000 → MX M ht n → FRS M ht n (M 598 122) → 1 ≤ M 598 122 ∧ M 598 122 ≤ 8 → AS M L → L ≤ 1999999999 → (0 ≤ M 598 132 ∧ M 598 132 < n) → M 598 131 = ht (M 598 132) → o = M 654 (M 598 132) → a = M 655 (M 598 132) → (M 598 135 = 0 ∧ M 598 136 = 0) → M = M0 → o = 4 → jr A 9 xm_380 246 [(2, .long (Int64.ofInt (a))), (1, .int (Int32.ofInt (o))), (0, .ref (598))] [] M Q := by
    intro M a o hI_M hH_M hS_M hF_M hG_M h_a h_o hy0 hy1 hy2 hy3 hy4 hy5 hy6 hy7 hy8 hy9 hy10 hy11
    have hyM := hy10
    have ho := hy11
    have hp0 := hy0
    have hp1 := hy1
    have hp2 := hy2
    have hp3 := hy3
    have hp4 := hy4
    have hp5 := hy5
    have hp6 := hy6
    have hp7 := hy7
    have hp8 := hy8
    have hp9 := hy9
    subst hyM
    have p0 := hp0
    have p1 := hp1
    have p2 := hp2
    have p3 := hp3
    have p4 := hp4
    have p5 := hp5
    have p6 := hp6
    have p7 := hp7
    have p8 := hp8
    have p9 := hp9
    have hMX := p0
    have hFR := p1
    have hAS := p3
    obtain ⟨P, hP⟩ : ∃ z, M 598 132 = z := ⟨_, rfl⟩
    rw [hP] at p5 p6 p7 p8
    have nb := hMX.1
    have nb2 := hMX.2.1
    obtain ⟨⟨q1, q2, q3, q4, q5, q6⟩, q7, q8, q9⟩ := hMX.2.2.1 P p5.1 p5.2
    rw [← p7] at q3 q4 q5 q6 q7 q8 q9
    rw [← p8] at q7 q8 q9
    have nd : ndo o = 0 := by
      first | (rw [ho]; decide) | (rcases ho with z | z <;> rw [z] <;> decide)
    have dl : dlo o = 1 := by
      first | (rw [ho]; decide) | (rcases ho with z | z <;> rw [z] <;> decide)
    rw [dl] at q4
    rw [nd] at q5
    clear q7
    have pn : P + 1 < n := by
      by_cases y : P = n - 1
      · exfalso
        have z2 := hMX.2.2.2.2
        rw [← y, ← p7] at z2
        omega
      · omega
    have cN : cr (M 654) (P + 1) = 0 := MX.cr0 hMX (by omega) pn (by rw [show P + 1 - 1 = P by omega, ← p7]; omega)
    obtain ⟨Fv, hFv⟩ : ∃ z, M 598 122 = z := ⟨_, rfl⟩
    obtain ⟨hv, hhv⟩ : ∃ z, M 598 131 = z := ⟨_, rfl⟩
    rw [hhv] at p6
    clear q3
    obtain ⟨st, hst⟩ : ∃ z, M 598 143 = z := ⟨_, rfl⟩
    have bst : (0 : Int) ≤ st ∧ st ≤ 300 := by rw [← hst]; exact hI_M 598 143 (by decide)
    have cl := cr_le (M 654) P
    refine jr.aload_n rfl rfl ?_
    refine jr.getf (i := 130) (v := .ref 686) rfl rfl (by decide) rfl (by decide) rfl rfl rfl rfl ?_
    refine jr.aload_n rfl rfl ?_
    refine jr.getf (i := 131) (x := hv) (v := .int (Int32.ofInt (hv))) rfl rfl (by decide) rfl (by decide) rfl rfl hhv rfl ?_
    refine jr.lload_n rfl rfl ?_
    refine jr.last (i := hv) (x := a) rfl (by decide) rfl (by decide) (by omega) (by omega) ?_
    refine jr.aload_n rfl rfl ?_
    refine jr.dup rfl rfl ?_
    refine jr.getf (i := 131) (x := hv) (v := .int (Int32.ofInt (hv))) rfl rfl (by decide) rfl (by decide) rfl rfl ((ju_c _ _ (by decide)).trans hhv) rfl ?_
    refine jr.iconst rfl ?_
    refine jr.iadd rfl ?_
    refine jr.putf (i := 131) (x := (hv + 1)) rfl rfl (by decide) rfl (by decide) rfl rfl rfl rfl rfl ?_
    refine jr.goto rfl rfl ?_
    have y1 : (ju (ju M 686 hv a) 598 131 (hv + 1)) 598 122 = Fv := ((ju_i _ _ (by decide)).trans ((ju_c _ _ (by decide)).trans hFv))
    obtain ⟨v2, e2⟩ : ∃ z, M 598 136 = z := ⟨_, rfl⟩
    have b2 : 0 ≤ v2 ∧ v2 ≤ 1 := by rw [← e2]; exact hI_M 598 136 (by decide)
    obtain ⟨v3, e3⟩ : ∃ z, M 598 135 = z := ⟨_, rfl⟩
    have b3 : 0 ≤ v3 ∧ v3 ≤ 8 := by rw [← e3]; exact hI_M 598 135 (by decide)
    refine jr.pick (ls := [_]) [2] rfl rfl ?_
    exact r_act_L487 (L := L) (n := n) (ht := ht) q (ju (ju M 686 hv a) 598 131 (hv + 1))  (RI.u (RI.u hI_M (a := 686) (i := hv) (by rw [xri_row rfl rfl]; show (-9223372036854775808 : Int) ≤ _ ∧ _ ≤ (9223372036854775807 : Int); omega)) (a := 598) (i := 131) (show (0 : Int) ≤ _ ∧ _ ≤ (400 : Int) from by omega)) (RH.o (RH.o hH_M (by decide) (by decide) (by decide)) (by decide) (by decide) (by decide)) (RF.o (RF.o hS_M (by decide) (by decide)) (by decide) (by decide))  (fun a i f598 f602 f603 f604 f605 f624 f670 f671 f672 f673 f674 f675 f676 f677 f678 f679 f680 f681 f682 f683 f684 f685 f686 f687 => ((ju_c _ _ f598).trans ((ju_c _ _ f686).trans (hF_M a i f598 f602 f603 f604 f605 f624 f670 f671 f672 f673 f674 f675 f676 f677 f678 f679 f680 f681 f682 f683 f684 f685 f686 f687)))) (fun i g6 g10 g11 g12 g59 g60 g61 g62 g63 g64 g65 g66 g110 g112 g122 g131 g132 g134 g135 g136 g137 g138 g139 g143 g145 => ((ju_i _ _ g131).trans ((ju_c _ _ (by decide)).trans (hG_M i g6 g10 g11 g12 g59 g60 g61 g62 g63 g64 g65 g66 g110 g112 g122 g131 g132 g134 g135 g136 g137 g138 g139 g143 g145))))  (FRS.fr hFR (fun i => ((ju_c _ _ (by decide)).trans ((ju_c _ _ (by decide)).trans (rfl)))) (fun i => ((ju_c _ _ (by decide)).trans ((ju_c _ _ (by decide)).trans (rfl)))) (fun i => ((ju_c _ _ (by decide)).trans ((ju_c _ _ (by decide)).trans (rfl)))) ((ju_i _ _ (by decide)).trans ((ju_c _ _ (by decide)).trans (rfl))) (by omega)) (AS.up (AS.o (AS.o hAS (by decide) (Or.inl (by decide))) (by decide) (Or.inr (by decide))) (by omega)) (by rw [((ju_i _ _ (by decide)).trans ((ju_c _ _ (by decide)).trans hFv))] <;> omega) (phi.fr (M := M) (M' := (ju (ju M 686 hv a) 598 131 (hv + 1))) ((ju_i _ _ (by decide)).trans ((ju_c _ _ (by decide)).trans (rfl))) (fun i => ((ju_c _ _ (by decide)).trans ((ju_c _ _ (by decide)).trans (rfl))))) (by rw [((ju_i _ _ (by decide)).trans ((ju_c _ _ (by decide)).trans e2))] <;> omega) (by rw [((ju_i _ _ (by decide)).trans ((ju_c _ _ (by decide)).trans hP))] <;> omega) (by omega) (fun _ => by rw [(ju_same _ _ _ _), hP, q4]; omega) (by rw [((ju_i _ _ (by decide)).trans ((ju_c _ _ (by decide)).trans hst)), ((ju_i _ _ (by decide)).trans ((ju_c _ _ (by decide)).trans e3)), hst, hP]; first | (exact Or.inl ⟨by omega, cN⟩) | (exact Or.inr ⟨by omega, by omega⟩))
