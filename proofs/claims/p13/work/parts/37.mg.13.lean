theorem r_act_L125 {A : Nat → Option (Nat × (Nat → Int32))} {Q : Option Value → jm → Prop} {L n : Int} {ht : Int → Int} {M0 : jm} (q : ∀ (M' : jm), RI M' → RH M' → RF M' → AS M' (L + 1) → ((M' 598 136 = 1 ∧ M' 598 135 = 0) ∨ (M' 598 136 = 0 ∧ FRS M' ht n (M' 598 122) ∧ 1 ≤ M' 598 122 ∧ M' 598 122 ≤ 8 ∧ ((M' 598 135 ≠ 0 ∧ phi M' = phi M0 ∧ M' 598 143 = M0 598 143) ∨ (M' 598 135 = 0 ∧ 0 ≤ M' 598 132 ∧ M' 598 132 < n ∧ M' 598 131 = ht (M' 598 132) ∧ mu M' < mu M0)))) → (∀ (a : Nat) (i : Int), a ≠ 598 → a ≠ 602 → a ≠ 603 → a ≠ 604 → a ≠ 605 → a ≠ 624 → a ≠ 670 → a ≠ 671 → a ≠ 672 → a ≠ 673 → a ≠ 674 → a ≠ 675 → a ≠ 676 → a ≠ 677 → a ≠ 678 → a ≠ 679 → a ≠ 680 → a ≠ 681 → a ≠ 682 → a ≠ 683 → a ≠ 684 → a ≠ 685 → a ≠ 686 → a ≠ 687 → M' a i = M0 a i) → (∀ (i : Int), i ≠ 6 → i ≠ 10 → i ≠ 11 → i ≠ 12 → i ≠ 59 → i ≠ 60 → i ≠ 61 → i ≠ 62 → i ≠ 63 → i ≠ 64 → i ≠ 65 → i ≠ 66 → i ≠ 110 → i ≠ 112 → i ≠ 122 → i ≠ 131 → i ≠ 132 → i ≠ 134 → i ≠ 135 → i ≠ 136 → i ≠ 137 → i ≠ 138 → i ≠ 139 → i ≠ 143 → i ≠ 145 → M' 598 i = M0 598 i) → Q none M') : ∀ (M : jm) (a : Int) (o : Int), RI M → RH M → RF M → (∀ (a : Nat) (i : Int), a ≠ 598 → a ≠ 602 → a ≠ 603 → a ≠ 604 → a ≠ 605 → a ≠ 624 → a ≠ 670 → a ≠ 671 → a ≠ 672 → a ≠ 673 → a ≠ 674 → a ≠ 675 → a ≠ 676 → a ≠ 677 → a ≠ 678 → a ≠ 679 → a ≠ 680 → a ≠ 681 → a ≠ 682 → a ≠ 683 → a ≠ 684 → a ≠ 685 → a ≠ 686 → a ≠ 687 → M a i = M0 a i) → (∀ (i : Int), i ≠ 6 → i ≠ 10 → i ≠ 11 → i ≠ 12 → i ≠ 59 → i ≠ 60 → i ≠ 61 → i ≠ 62 → i ≠ 63 → i ≠ 64 → i ≠ 65 → i ≠ 66 → i ≠ 110 → i ≠ 112 → i ≠ 122 → i ≠ 131 → i ≠ 132 → i ≠ 134 → i ≠ 135 → i ≠ 136 → i ≠ 137 → i ≠ 138 → i ≠ 139 → i ≠ 143 → i ≠ 145 → M 598 i = M0 598 i) → (-9223372036854775808) ≤ a ∧ a ≤ 9223372036854775807 → 0 ≤ o ∧ o ≤ 1000 → MX M ht n → FRS M ht n (M 598 122) → 1 ≤ M 598 122 ∧ M 598 122 ≤ 8 → AS M L → L ≤ 1999999999 → (0 ≤ M 598 132 ∧ M 598 132 < n) → M 598 131 = ht (M 598 132) → o = M 654 (M 598 132) → a = M 655 (M 598 132) → (M 598 135 = 0 ∧ M 598 136 = 0) → M = M0 → o = 2 → jr A 9 xm_380 125 [(2, .long (Int64.ofInt (a))), (1, .int (Int32.ofInt (o))), (0, .ref (598))] [] M Q := by
    intro M a o hI_M hH_M hS_M hF_M hG_M h_a h_o hy0 hy1 hy2 hy3 hy4 hy5 hy6 hy7 hy8 hy9 hy10 hy11
    have hyM := hy10
    have ho := hy11
    have hp0 := hy0
    have hp1 := hy1
    have hp2 := hy2
    have hp3 := hy3
    have hp4 := hy4
    have hp5 := hy5
    have hp6 := hy6
    have hp7 := hy7
    have hp8 := hy8
    have hp9 := hy9
    subst hyM
    have p0 := hp0
    have p1 := hp1
    have p2 := hp2
    have p3 := hp3
    have p4 := hp4
    have p5 := hp5
    have p6 := hp6
    have p7 := hp7
    have p8 := hp8
    have p9 := hp9
    have hMX := p0
    have hFR := p1
    have hAS := p3
    obtain ⟨P, hP⟩ : ∃ z, M 598 132 = z := ⟨_, rfl⟩
    rw [hP] at p5 p6 p7 p8
    have nb := hMX.1
    have nb2 := hMX.2.1
    obtain ⟨⟨q1, q2, q3, q4, q5, q6⟩, q7, q8, q9⟩ := hMX.2.2.1 P p5.1 p5.2
    rw [← p7] at q3 q4 q5 q6 q7 q8 q9
    rw [← p8] at q7 q8 q9
    have nd : ndo o = 0 := by
      first | (rw [ho]; decide) | (rcases ho with z | z <;> rw [z] <;> decide)
    have dl : dlo o = 0 := by
      first | (rw [ho]; decide) | (rcases ho with z | z <;> rw [z] <;> decide)
    rw [dl] at q4
    rw [nd] at q5
    have q6 := q6 (by unfold exo; omega)
    obtain ⟨t1, t2, t3, t4⟩ := (q7 (by unfold jpo; omega)).resolve_left id
    clear q7
    obtain ⟨Fv, hFv⟩ : ∃ z, M 598 122 = z := ⟨_, rfl⟩
    obtain ⟨hv, hhv⟩ : ∃ z, M 598 131 = z := ⟨_, rfl⟩
    rw [hhv] at p6
    clear q3
    obtain ⟨st, hst⟩ : ∃ z, M 598 143 = z := ⟨_, rfl⟩
    have bst : (0 : Int) ≤ st ∧ st ≤ 300 := by rw [← hst]; exact hI_M 598 143 (by decide)
    have cl := cr_le (M 654) P
    refine jr.aload_n rfl rfl ?_
    refine jr.lload_n rfl rfl ?_
    refine jr.l2i rfl ?_
    refine jr.putf (i := 132) (x := a) rfl rfl (by decide) rfl (by decide) rfl rfl rfl rfl rfl ?_
    have y1 : (ju M 598 132 a) 598 122 = Fv := ((ju_i _ _ (by decide)).trans hFv)
    have y2 : (ju M 598 132 a) 598 131 = hv := ((ju_i _ _ (by decide)).trans hhv)
    have y3 : (ju M 598 132 a) 598 132 = a := (ju_same _ _ _ _)
    obtain ⟨v4, e4⟩ : ∃ z, M 598 135 = z := ⟨_, rfl⟩
    have b4 : 0 ≤ v4 ∧ v4 ≤ 8 := by rw [← e4]; exact hI_M 598 135 (by decide)
    have y5 : (ju M 598 132 a) 598 135 = v4 := ((ju_i _ _ (by decide)).trans e4)
    obtain ⟨v6, e6⟩ : ∃ z, M 598 136 = z := ⟨_, rfl⟩
    have b6 : 0 ≤ v6 ∧ v6 ≤ 1 := by rw [← e6]; exact hI_M 598 136 (by decide)
    have y7 : (ju M 598 132 a) 598 136 = v6 := ((ju_i _ _ (by decide)).trans e6)
    have y8 : (ju M 598 132 a) 598 143 = st := ((ju_i _ _ (by decide)).trans hst)
    have hmu := mu.eq hst rfl hP (rfl : cr (M 654) P = cr (M 654) P)
    have zph : phi (ju M 598 132 a) = phi M := (phi.fr (M := M) (M' := (ju M 598 132 a)) ((ju_i _ _ (by decide)).trans (rfl)) (fun i => ((ju_c _ _ (by decide)).trans (rfl))))
    have zm := mu.eq (M := (ju M 598 132 a)) ((ju_i _ _ (by decide)).trans hst) zph (ju_same _ _ _ _) (show cr ((ju M 598 132 a) 654) a = 0 by rw [show (ju M 598 132 a) 654 = M 654 from funext (fun i => ((ju_c _ _ (by decide)).trans (rfl)))]; exact MX.cr0 hMX (by omega) (by omega) t4)
    exact jr.vreturn rfl rfl (q _ (RI.u hI_M (a := 598) (i := 132) (show (0 : Int) ≤ _ ∧ _ ≤ (2200 : Int) from by omega)) (RH.o hH_M (by decide) (by decide) (by decide)) (RF.o hS_M (by decide) (by decide))  (AS.up (AS.o hAS (by decide) (Or.inr (by decide))) (by omega)) (Or.inr ⟨by omega, (FRS.fr hFR (fun i => ((ju_c _ _ (by decide)).trans (rfl))) (fun i => ((ju_c _ _ (by decide)).trans (rfl))) (fun i => ((ju_c _ _ (by decide)).trans (rfl))) ((ju_i _ _ (by decide)).trans (rfl)) (by omega)), by omega, by omega, Or.inr ⟨by omega, by omega, by omega, (by rw [((ju_i _ _ (by decide)).trans hhv), (ju_same _ _ _ _), t3]; split <;> omega), by omega⟩⟩) (fun a i f598 f602 f603 f604 f605 f624 f670 f671 f672 f673 f674 f675 f676 f677 f678 f679 f680 f681 f682 f683 f684 f685 f686 f687 => ((ju_c _ _ f598).trans (hF_M a i f598 f602 f603 f604 f605 f624 f670 f671 f672 f673 f674 f675 f676 f677 f678 f679 f680 f681 f682 f683 f684 f685 f686 f687))) (fun i g6 g10 g11 g12 g59 g60 g61 g62 g63 g64 g65 g66 g110 g112 g122 g131 g132 g134 g135 g136 g137 g138 g139 g143 g145 => ((ju_i _ _ g132).trans (hG_M i g6 g10 g11 g12 g59 g60 g61 g62 g63 g64 g65 g66 g110 g112 g122 g131 g132 g134 g135 g136 g137 g138 g139 g143 g145))))
