theorem r_act_L477 {A : Nat → Option (Nat × (Nat → Int32))} {Q : Option Value → jm → Prop} {L n : Int} {ht : Int → Int} {M0 : jm} (q : ∀ (M' : jm), RI M' → RH M' → RF M' → AS M' (L + 1) → ((M' 598 136 = 1 ∧ M' 598 135 = 0) ∨ (M' 598 136 = 0 ∧ FRS M' ht n (M' 598 122) ∧ 1 ≤ M' 598 122 ∧ M' 598 122 ≤ 8 ∧ ((M' 598 135 ≠ 0 ∧ phi M' = phi M0 ∧ M' 598 143 = M0 598 143) ∨ (M' 598 135 = 0 ∧ 0 ≤ M' 598 132 ∧ M' 598 132 < n ∧ M' 598 131 = ht (M' 598 132) ∧ mu M' < mu M0)))) → (∀ (a : Nat) (i : Int), a ≠ 598 → a ≠ 602 → a ≠ 603 → a ≠ 604 → a ≠ 605 → a ≠ 624 → a ≠ 670 → a ≠ 671 → a ≠ 672 → a ≠ 673 → a ≠ 674 → a ≠ 675 → a ≠ 676 → a ≠ 677 → a ≠ 678 → a ≠ 679 → a ≠ 680 → a ≠ 681 → a ≠ 682 → a ≠ 683 → a ≠ 684 → a ≠ 685 → a ≠ 686 → a ≠ 687 → M' a i = M0 a i) → (∀ (i : Int), i ≠ 6 → i ≠ 10 → i ≠ 11 → i ≠ 12 → i ≠ 59 → i ≠ 60 → i ≠ 61 → i ≠ 62 → i ≠ 63 → i ≠ 64 → i ≠ 65 → i ≠ 66 → i ≠ 110 → i ≠ 112 → i ≠ 122 → i ≠ 131 → i ≠ 132 → i ≠ 134 → i ≠ 135 → i ≠ 136 → i ≠ 137 → i ≠ 138 → i ≠ 139 → i ≠ 143 → i ≠ 145 → M' 598 i = M0 598 i) → Q none M') : ∀ (M : jm) (a : Int) (o : Int), RI M → RH M → RF M → (∀ (a : Nat) (i : Int), a ≠ 598 → a ≠ 602 → a ≠ 603 → a ≠ 604 → a ≠ 605 → a ≠ 624 → a ≠ 670 → a ≠ 671 → a ≠ 672 → a ≠ 673 → a ≠ 674 → a ≠ 675 → a ≠ 676 → a ≠ 677 → a ≠ 678 → a ≠ 679 → a ≠ 680 → a ≠ 681 → a ≠ 682 → a ≠ 683 → a ≠ 684 → a ≠ 685 → a ≠ 686 → a ≠ 687 → M a i = M0 a i) → (∀ (i : Int), i ≠ 6 → i ≠ 10 → i ≠ 11 → i ≠ 12 → i ≠ 59 → i ≠ 60 → i ≠ 61 → i ≠ 62 → i ≠ 63 → i ≠ 64 → i ≠ 65 → i ≠ 66 → i ≠ 110 → i ≠ 112 → i ≠ 122 → i ≠ 131 → i ≠ 132 → i ≠ 134 → i ≠ 135 → i ≠ 136 → i ≠ 137 → i ≠ 138 → i ≠ 139 → i ≠ 143 → i ≠ 145 → M 598 i = M0 598 i) → (-9223372036854775808) ≤ a ∧ a ≤ 9223372036854775807 → 0 ≤ o ∧ o ≤ 1000 → MX M ht n → FRS M ht n (M 598 122) → 1 ≤ M 598 122 ∧ M 598 122 ≤ 8 → AS M L → L ≤ 1999999999 → (0 ≤ M 598 132 ∧ M 598 132 < n) → M 598 131 = ht (M 598 132) → o = M 654 (M 598 132) → a = M 655 (M 598 132) → (M 598 135 = 0 ∧ M 598 136 = 0) → M = M0 → (12 ≤ o ∧ o < 100) → jr A 9 xm_380 477 [(2, .long (Int64.ofInt (a))), (1, .int (Int32.ofInt (o))), (0, .ref (598))] [] M Q := by
    intro M a o hI_M hH_M hS_M hF_M hG_M h_a h_o hy0 hy1 hy2 hy3 hy4 hy5 hy6 hy7 hy8 hy9 hy10 hy11
    have hyM := hy10
    have ho := hy11
    have hp0 := hy0
    have hp1 := hy1
    have hp2 := hy2
    have hp3 := hy3
    have hp4 := hy4
    have hp5 := hy5
    have hp6 := hy6
    have hp7 := hy7
    have hp8 := hy8
    have hp9 := hy9
    subst hyM
    have p0 := hp0
    have p1 := hp1
    have p2 := hp2
    have p3 := hp3
    have p4 := hp4
    have p5 := hp5
    have p6 := hp6
    have p7 := hp7
    have p8 := hp8
    have p9 := hp9
    have hMX := p0
    have hFR := p1
    have hAS := p3
    obtain ⟨P, hP⟩ : ∃ z, M 598 132 = z := ⟨_, rfl⟩
    rw [hP] at p5 p6 p7 p8
    have nb := hMX.1
    have nb2 := hMX.2.1
    obtain ⟨⟨q1, q2, q3, q4, q5, q6⟩, q7, q8, q9⟩ := hMX.2.2.1 P p5.1 p5.2
    rw [← p7] at q3 q4 q5 q6 q7 q8 q9
    rw [← p8] at q7 q8 q9
    unfold vop at q3
    have ov : 24 ≤ o ∧ o ≤ 38 := by omega
    have nd : (o ≤ 29 → ndo o = 0 ∧ dlo o = 0) ∧ (30 ≤ o → dlo o = -(ndo o)) := ⟨fun z => (op_tab o).2.2.2.2.2.2.2.2.2.2.1 ⟨by omega, z⟩, fun z => (op_tab o).2.2.2.2.2.2.2.2.2.2.2 ⟨z, by omega⟩⟩
    have q6 := q6 (by unfold exo; omega)
    clear q7
    have pn : P + 1 < n := by
      by_cases y : P = n - 1
      · exfalso
        have z2 := hMX.2.2.2.2
        rw [← y, ← p7] at z2
        omega
      · omega
    have cN : cr (M 654) (P + 1) = 0 := MX.cr0 hMX (by omega) pn (by rw [show P + 1 - 1 = P by omega, ← p7]; omega)
    obtain ⟨Fv, hFv⟩ : ∃ z, M 598 122 = z := ⟨_, rfl⟩
    obtain ⟨hv, hhv⟩ : ∃ z, M 598 131 = z := ⟨_, rfl⟩
    rw [hhv] at p6
    clear q3
    obtain ⟨st, hst⟩ : ∃ z, M 598 143 = z := ⟨_, rfl⟩
    have bst : (0 : Int) ≤ st ∧ st ≤ 300 := by rw [← hst]; exact hI_M 598 143 (by decide)
    have cl := cr_le (M 654) P
    refine jr.aload_n rfl rfl ?_
    refine jr.iload_n rfl rfl ?_
    refine jr.bipush rfl (by decide) ?_
    refine jr.isub rfl ?_
    refine jr.lload_n rfl rfl ?_
    have y2 : M 598 122 = Fv := hFv
    obtain ⟨v3, e3⟩ : ∃ z, M 598 82 = z := ⟨_, rfl⟩
    have b3 : 0 ≤ v3 ∧ v3 ≤ 16 := by rw [← e3]; exact hI_M 598 82 (by decide)
    obtain ⟨v4, e4⟩ : ∃ z, M 598 135 = z := ⟨_, rfl⟩
    have b4 : 0 ≤ v4 ∧ v4 ≤ 8 := by rw [← e4]; exact hI_M 598 135 (by decide)
    obtain ⟨v5, e5⟩ : ∃ z, M 598 136 = z := ⟨_, rfl⟩
    have b5 : 0 ≤ v5 ∧ v5 ≤ 1 := by rw [← e5]; exact hI_M 598 136 (by decide)
    refine jr_v rfl rfl (Or.inl rfl) rfl rfl (by decide) rfl ⟨rfl, Nat.le_of_ble_eq_true rfl, Nat.le_of_ble_eq_true rfl⟩ rfl (jc.deep (r_doDeed hI_M hH_M hS_M  (by omega) (by omega) hMX (FRS.fr hFR (fun i => (rfl)) (fun i => (rfl)) (fun i => (rfl)) (rfl) (by omega)) (by rw [hFv]; omega) hAS (by omega) (by rw [show 20 + (o - 20) = o by omega]; omega) (by rw [e3]; intro q; omega) (fun q => by rw [hP]; exact MX.ren hMX (by omega) pn (by rw [← p7]; omega) (by rw [q4]; omega)) (by rw [e4, e5]; omega) (by rw [hP]; omega) (fun M1 hI_M1 hH_M1 hS_M1  w1_0 w1_1 w1_2 w1_3 => ?_)) (by decide))
    rw [show 20 + (o - 20) = o by omega] at w1_1
    obtain ⟨v6, e6⟩ : ∃ z, M1 598 122 = z := ⟨_, rfl⟩
    have b6 : 0 ≤ v6 ∧ v6 ≤ 9 := by rw [← e6]; exact hI_M1 598 122 (by decide)
    have y7 : M1 598 122 = v6 := e6
    obtain ⟨v8, e8⟩ : ∃ z, M1 598 131 = z := ⟨_, rfl⟩
    have b8 : 0 ≤ v8 ∧ v8 ≤ 400 := by rw [← e8]; exact hI_M1 598 131 (by decide)
    have y9 : M1 598 131 = v8 := e8
    obtain ⟨v10, e10⟩ : ∃ z, M1 598 132 = z := ⟨_, rfl⟩
    have b10 : 0 ≤ v10 ∧ v10 ≤ 2200 := by rw [← e10]; exact hI_M1 598 132 (by decide)
    have y11 : M1 598 132 = v10 := e10
    obtain ⟨v12, e12⟩ : ∃ z, M1 598 135 = z := ⟨_, rfl⟩
    have b12 : 0 ≤ v12 ∧ v12 ≤ 8 := by rw [← e12]; exact hI_M1 598 135 (by decide)
    have y13 : M1 598 135 = v12 := e12
    obtain ⟨v14, e14⟩ : ∃ z, M1 598 136 = z := ⟨_, rfl⟩
    have b14 : 0 ≤ v14 ∧ v14 ≤ 1 := by rw [← e14]; exact hI_M1 598 136 (by decide)
    have y15 : M1 598 136 = v14 := e14
    have e16 : M1 598 143 = st := ((w1_3 143 (by decide) (by decide) (by decide) (by decide) (by decide) (by decide) (by decide) (by decide) (by decide) (by decide) (by decide) (by decide) (by decide) (by decide) (by decide) (by decide)).trans hst)
    have y17 : M1 598 143 = st := e16
    have hmu := mu.eq hst rfl hP (rfl : cr (M 654) P = cr (M 654) P)
    exact jr.vreturn rfl rfl (q _ hI_M1 hH_M1 hS_M1  w1_0 (by rcases w1_1 with z | ⟨y1, y2, y3, y4, ⟨y5, y6, y7⟩ | ⟨y5, ⟨y6, y7, y8, y9⟩ | ⟨y6, y7, y8, y9⟩ | ⟨y6, y7, y8, y9⟩⟩⟩; (exact Or.inl z); (exact Or.inr ⟨y1, y2, y3, y4, Or.inl ⟨y5, y6, (e16).trans hst.symm⟩⟩); (have zc := REr.cr0 y7; obtain ⟨r1, r2, r3, _, _⟩ := y7; have zm := mu.eq (M := M1) (e16) rfl rfl zc; exact Or.inr ⟨y1, y2, y3, y4, Or.inr ⟨y5, r1, r2, by rw [y9, r3]; omega, by omega⟩⟩); (have ck : cr (M 654) P = 1 := (by unfold cr; rw [← p7, if_pos (by omega)]); have zc := REr.cr0 y7; obtain ⟨r1, r2, r3, _, _⟩ := y7; have zm := mu.eq (M := M1) (e16) rfl rfl zc; exact Or.inr ⟨y1, y2, y3, y4, Or.inr ⟨y5, r1, r2, by rw [y9, r3]; omega, by omega⟩⟩); (have zm := mu.eq (M := M1) (e16) y8 (y7.trans (show M 598 132 + 1 = P + 1 by omega)) (show cr (M1 654) (P + 1) = 0 by rw [show M1 654 = M 654 from funext (fun i => ((w1_2 654 i (by decide) (by decide) (by decide) (by decide) (by decide) (by decide) (by decide) (by decide) (by decide) (by decide) (by decide) (by decide) (by decide) (by decide) (by decide) (by decide) (by decide) (by decide) (by decide) (by decide) (by decide) (by decide) (by decide) (by decide)).trans (rfl)))]; exact cN); exact Or.inr ⟨y1, y2, y3, y4, Or.inr ⟨y5, by omega, by omega, by rw [y9, y7.trans (show M 598 132 + 1 = P + 1 by omega), q4]; omega, by omega⟩⟩)) (fun a i f598 f602 f603 f604 f605 f624 f670 f671 f672 f673 f674 f675 f676 f677 f678 f679 f680 f681 f682 f683 f684 f685 f686 f687 => ((w1_2 a i f598 f602 f603 f604 f605 f624 f670 f671 f672 f673 f674 f675 f676 f677 f678 f679 f680 f681 f682 f683 f684 f685 f686 f687).trans (hF_M a i f598 f602 f603 f604 f605 f624 f670 f671 f672 f673 f674 f675 f676 f677 f678 f679 f680 f681 f682 f683 f684 f685 f686 f687))) (fun i g6 g10 g11 g12 g59 g60 g61 g62 g63 g64 g65 g66 g110 g112 g122 g131 g132 g134 g135 g136 g137 g138 g139 g143 g145 => ((w1_3 i g6 g10 g11 g12 g110 g112 g122 g131 g132 g134 g135 g136 g137 g138 g139 g145).trans (hG_M i g6 g10 g11 g12 g59 g60 g61 g62 g63 g64 g65 g66 g110 g112 g122 g131 g132 g134 g135 g136 g137 g138 g139 g143 g145))))
