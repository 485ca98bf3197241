theorem r_act_L132 {A : Nat → Option (Nat × (Nat → Int32))} {Q : Option Value → jm → Prop} {L n : Int} {ht : Int → Int} {M0 : jm} (q : ∀ (M' : jm), RI M' → RH M' → RF M' → AS M' (L + 1) → ((M' 598 136 = 1 ∧ M' 598 135 = 0) ∨ (M' 598 136 = 0 ∧ FRS M' ht n (M' 598 122) ∧ 1 ≤ M' 598 122 ∧ M' 598 122 ≤ 8 ∧ ((M' 598 135 ≠ 0 ∧ phi M' = phi M0 ∧ M' 598 143 = M0 598 143) ∨ (M' 598 135 = 0 ∧ 0 ≤ M' 598 132 ∧ M' 598 132 < n ∧ M' 598 131 = ht (M' 598 132) ∧ mu M' < mu M0)))) → (∀ (a : Nat) (i : Int), a ≠ 598 → a ≠ 602 → a ≠ 603 → a ≠ 604 → a ≠ 605 → a ≠ 624 → a ≠ 670 → a ≠ 671 → a ≠ 672 → a ≠ 673 → a ≠ 674 → a ≠ 675 → a ≠ 676 → a ≠ 677 → a ≠ 678 → a ≠ 679 → a ≠ 680 → a ≠ 681 → a ≠ 682 → a ≠ 683 → a ≠ 684 → a ≠ 685 → a ≠ 686 → a ≠ 687 → M' a i = M0 a i) → (∀ (i : Int), i ≠ 6 → i ≠ 10 → i ≠ 11 → i ≠ 12 → i ≠ 59 → i ≠ 60 → i ≠ 61 → i ≠ 62 → i ≠ 63 → i ≠ 64 → i ≠ 65 → i ≠ 66 → i ≠ 110 → i ≠ 112 → i ≠ 122 → i ≠ 131 → i ≠ 132 → i ≠ 134 → i ≠ 135 → i ≠ 136 → i ≠ 137 → i ≠ 138 → i ≠ 139 → i ≠ 143 → i ≠ 145 → M' 598 i = M0 598 i) → Q none M') : ∀ (M : jm) (a : Int) (o : Int), RI M → RH M → RF M → (∀ (a : Nat) (i : Int), a ≠ 598 → a ≠ 602 → a ≠ 603 → a ≠ 604 → a ≠ 605 → a ≠ 624 → a ≠ 670 → a ≠ 671 → a ≠ 672 → a ≠ 673 → a ≠ 674 → a ≠ 675 → a ≠ 676 → a ≠ 677 → a ≠ 678 → a ≠ 679 → a ≠ 680 → a ≠ 681 → a ≠ 682 → a ≠ 683 → a ≠ 684 → a ≠ 685 → a ≠ 686 → a ≠ 687 → M a i = M0 a i) → (∀ (i : Int), i ≠ 6 → i ≠ 10 → i ≠ 11 → i ≠ 12 → i ≠ 59 → i ≠ 60 → i ≠ 61 → i ≠ 62 → i ≠ 63 → i ≠ 64 → i ≠ 65 → i ≠ 66 → i ≠ 110 → i ≠ 112 → i ≠ 122 → i ≠ 131 → i ≠ 132 → i ≠ 134 → i ≠ 135 → i ≠ 136 → i ≠ 137 → i ≠ 138 → i ≠ 139 → i ≠ 143 → i ≠ 145 → M 598 i = M0 598 i) → (-9223372036854775808) ≤ a ∧ a ≤ 9223372036854775807 → 0 ≤ o ∧ o ≤ 1000 → MX M ht n → FRS M ht n (M 598 122) → 1 ≤ M 598 122 ∧ M 598 122 ≤ 8 → AS M L → L ≤ 1999999999 → (0 ≤ M 598 132 ∧ M 598 132 < n) → M 598 131 = ht (M 598 132) → o = M 654 (M 598 132) → a = M 655 (M 598 132) → (M 598 135 = 0 ∧ M 598 136 = 0) → M = M0 → o = 3 → jr A 9 xm_380 132 [(2, .long (Int64.ofInt (a))), (1, .int (Int32.ofInt (o))), (0, .ref (598))] [] M Q := by
    intro M a o hI_M hH_M hS_M hF_M hG_M h_a h_o hy0 hy1 hy2 hy3 hy4 hy5 hy6 hy7 hy8 hy9 hy10 hy11
    have hyM := hy10
    have ho := hy11
    have hp0 := hy0
    have hp1 := hy1
    have hp2 := hy2
    have hp3 := hy3
    have hp4 := hy4
    have hp5 := hy5
    have hp6 := hy6
    have hp7 := hy7
    have hp8 := hy8
    have hp9 := hy9
    subst hyM
    have p0 := hp0
    have p1 := hp1
    have p2 := hp2
    have p3 := hp3
    have p4 := hp4
    have p5 := hp5
    have p6 := hp6
    have p7 := hp7
    have p8 := hp8
    have p9 := hp9
    have hMX := p0
    have hFR := p1
    have hAS := p3
    obtain ⟨P, hP⟩ : ∃ z, M 598 132 = z := ⟨_, rfl⟩
    rw [hP] at p5 p6 p7 p8
    have nb := hMX.1
    have nb2 := hMX.2.1
    obtain ⟨⟨q1, q2, q3, q4, q5, q6⟩, q7, q8, q9⟩ := hMX.2.2.1 P p5.1 p5.2
    rw [← p7] at q3 q4 q5 q6 q7 q8 q9
    rw [← p8] at q7 q8 q9
    have nd : ndo o = 0 := by
      first | (rw [ho]; decide) | (rcases ho with z | z <;> rw [z] <;> decide)
    have dl : dlo o = 0 := by
      first | (rw [ho]; decide) | (rcases ho with z | z <;> rw [z] <;> decide)
    rw [dl] at q4
    rw [nd] at q5
    have q6 := q6 (by unfold exo; omega)
    clear q7
    obtain ⟨Fv, hFv⟩ : ∃ z, M 598 122 = z := ⟨_, rfl⟩
    obtain ⟨hv, hhv⟩ : ∃ z, M 598 131 = z := ⟨_, rfl⟩
    rw [hhv] at p6
    clear q3
    obtain ⟨st, hst⟩ : ∃ z, M 598 143 = z := ⟨_, rfl⟩
    have bst : (0 : Int) ≤ st ∧ st ≤ 300 := by rw [← hst]; exact hI_M 598 143 (by decide)
    have cl := cr_le (M 654) P
    refine jr.aload_n rfl rfl ?_
    refine jr.getf (i := 122) (x := Fv) (v := .int (Int32.ofInt (Fv))) rfl rfl (by decide) rfl (by decide) rfl rfl hFv rfl ?_
    refine jr.iconst rfl ?_
    refine jr.isub rfl ?_
    refine jr.istore (ls' := [_, _, _, _]) rfl (by decide) rfl ?_
    refine jr.aload_n rfl rfl ?_
    refine jr.getf (i := 124) (v := .ref 680) rfl rfl (by decide) rfl (by decide) rfl rfl rfl rfl ?_
    refine jr.iload rfl rfl ?_
    obtain ⟨v1, e1⟩ : ∃ z, M 680 (Fv - 1) = z := ⟨_, rfl⟩
    have b1 : 0 ≤ v1 ∧ v1 ≤ 1 := by rw [← e1]; exact (by have q := hI_M 680 (Fv - 1) (by decide); rw [xri_row rfl rfl] at q; exact q)
    refine jr.zald (i := (Fv - 1)) (x := v1) rfl (by decide) rfl (by decide) (by omega) (by omega) e1 ?_
    refine jr.if_eq rfl rfl (by omega) (fun h147 => ?_) (fun h147 => ?_)
    · refine jr.aload_n rfl rfl ?_
      refine jr.iconst rfl ?_
      refine jr.iconst rfl ?_
      have y3 : M 598 122 = Fv := hFv
      refine jr_v rfl rfl (Or.inl rfl) rfl rfl (by decide) rfl ⟨rfl, Nat.le_of_ble_eq_true rfl, Nat.le_of_ble_eq_true rfl⟩ rfl (jc.deep (r_leave hI_M hH_M hS_M  (by omega) (by omega) hMX (FRS.fr hFR (fun i => (rfl)) (fun i => (rfl)) (fun i => (rfl)) (rfl) (by omega)) (by rw [hFv]; omega) hAS (by omega) (fun M2 hI_M2 hH_M2 hS_M2  w2_0 w2_1 w2_2 w2_3 => ?_)) (by decide))
      obtain ⟨v4, e4⟩ : ∃ z, M2 598 122 = z := ⟨_, rfl⟩
      have b4 : 0 ≤ v4 ∧ v4 ≤ 9 := by rw [← e4]; exact hI_M2 598 122 (by decide)
      have y5 : M2 598 122 = v4 := e4
      have e6 : M2 598 131 = hv := ((w2_3 131 (by decide) (by decide) (by decide) (by decide) (by decide) (by decide) (by decide)).trans hhv)
      have y7 : M2 598 131 = hv := e6
      obtain ⟨v8, e8⟩ : ∃ z, M2 598 132 = z := ⟨_, rfl⟩
      have b8 : 0 ≤ v8 ∧ v8 ≤ 2200 := by rw [← e8]; exact hI_M2 598 132 (by decide)
      have y9 : M2 598 132 = v8 := e8
      obtain ⟨v10, e10⟩ : ∃ z, M 598 135 = z := ⟨_, rfl⟩
      have b10 : 0 ≤ v10 ∧ v10 ≤ 8 := by rw [← e10]; exact hI_M 598 135 (by decide)
      have e11 : M2 598 135 = v10 := ((w2_3 135 (by decide) (by decide) (by decide) (by decide) (by decide) (by decide) (by decide)).trans e10)
      have y12 : M2 598 135 = v10 := e11
      obtain ⟨v13, e13⟩ : ∃ z, M2 598 136 = z := ⟨_, rfl⟩
      have b13 : 0 ≤ v13 ∧ v13 ≤ 1 := by rw [← e13]; exact hI_M2 598 136 (by decide)
      have y14 : M2 598 136 = v13 := e13
      have e15 : M2 598 143 = st := ((w2_3 143 (by decide) (by decide) (by decide) (by decide) (by decide) (by decide) (by decide)).trans hst)
      have y16 : M2 598 143 = st := e15
      have hmu := mu.eq hst rfl hP (rfl : cr (M 654) P = cr (M 654) P)
      exact jr.vreturn rfl rfl (q _ hI_M2 hH_M2 hS_M2  (AS.up w2_0 (by omega)) (by rcases w2_1 with z | ⟨y1, y2, y3, y4, y5, y6⟩; (exact Or.inl ⟨z, by omega⟩); (have zr := y5; have zc := REr.cr0 y5; obtain ⟨r1, r2, r3, _, _⟩ := y5; have zm := mu.eq (M := M2) (e15) rfl rfl zc; exact Or.inr ⟨by omega, y2, y3, y4, Or.inr ⟨by omega, r1, r2, by rw [e6, r3]; omega, by omega⟩⟩)) (fun a i f598 f602 f603 f604 f605 f624 f670 f671 f672 f673 f674 f675 f676 f677 f678 f679 f680 f681 f682 f683 f684 f685 f686 f687 => ((w2_2 a i f598 f602 f624 f670 f671 f672 f673 f680 f683 f684).trans (hF_M a i f598 f602 f603 f604 f605 f624 f670 f671 f672 f673 f674 f675 f676 f677 f678 f679 f680 f681 f682 f683 f684 f685 f686 f687))) (fun i g6 g10 g11 g12 g59 g60 g61 g62 g63 g64 g65 g66 g110 g112 g122 g131 g132 g134 g135 g136 g137 g138 g139 g143 g145 => ((w2_3 i g112 g122 g132 g134 g136 g137 g138).trans (hG_M i g6 g10 g11 g12 g59 g60 g61 g62 g63 g64 g65 g66 g110 g112 g122 g131 g132 g134 g135 g136 g137 g138 g139 g143 g145))))
    · have sx147 : (1 : Int) ≤ v1 := by omega
      clear h147
      refine jr.aload_n rfl rfl ?_
      refine jr.iload rfl rfl ?_
      have y18 : M 598 122 = Fv := hFv
      refine jr_v rfl rfl (Or.inl rfl) rfl rfl (by decide) rfl ⟨rfl, Nat.le_of_ble_eq_true rfl, Nat.le_of_ble_eq_true rfl⟩ rfl (jc.deep (r_endBehind hI_M hH_M hS_M  (by omega) hMX (FRS.fr hFR (fun i => (rfl)) (fun i => (rfl)) (fun i => (rfl)) (rfl) (by omega)) (by rw [hFv]; omega) hAS (by omega) (by rw [hFv] <;> omega) (fun M17 hI_M17 hH_M17 hS_M17  w17_0 w17_1 w17_2 w17_3 => ?_)) (by decide))
      refine jr.goto rfl rfl ?_
      obtain ⟨v19, e19⟩ : ∃ z, M17 598 122 = z := ⟨_, rfl⟩
      have b19 : 0 ≤ v19 ∧ v19 ≤ 9 := by rw [← e19]; exact hI_M17 598 122 (by decide)
      have y20 : M17 598 122 = v19 := e19
      have e21 : M17 598 131 = hv := ((w17_3 131 (by decide) (by decide) (by decide) (by decide) (by decide) (by decide) (by decide)).trans hhv)
      have y22 : M17 598 131 = hv := e21
      obtain ⟨v23, e23⟩ : ∃ z, M17 598 132 = z := ⟨_, rfl⟩
      have b23 : 0 ≤ v23 ∧ v23 ≤ 2200 := by rw [← e23]; exact hI_M17 598 132 (by decide)
      have y24 : M17 598 132 = v23 := e23
      obtain ⟨v25, e25⟩ : ∃ z, M 598 135 = z := ⟨_, rfl⟩
      have b25 : 0 ≤ v25 ∧ v25 ≤ 8 := by rw [← e25]; exact hI_M 598 135 (by decide)
      have e26 : M17 598 135 = v25 := ((w17_3 135 (by decide) (by decide) (by decide) (by decide) (by decide) (by decide) (by decide)).trans e25)
      have y27 : M17 598 135 = v25 := e26
      obtain ⟨v28, e28⟩ : ∃ z, M17 598 136 = z := ⟨_, rfl⟩
      have b28 : 0 ≤ v28 ∧ v28 ≤ 1 := by rw [← e28]; exact hI_M17 598 136 (by decide)
      have y29 : M17 598 136 = v28 := e28
      have e30 : M17 598 143 = st := ((w17_3 143 (by decide) (by decide) (by decide) (by decide) (by decide) (by decide) (by decide)).trans hst)
      have y31 : M17 598 143 = st := e30
      have hmu := mu.eq hst rfl hP (rfl : cr (M 654) P = cr (M 654) P)
      exact jr.vreturn rfl rfl (q _ hI_M17 hH_M17 hS_M17  (AS.up w17_0 (by omega)) (by rcases w17_1 with z | ⟨y1, y2, y3, y4, y5, y6⟩; (exact Or.inl ⟨z, by omega⟩); (have zr := y5; have zc := REr.cr0 y5; obtain ⟨r1, r2, r3, _, _⟩ := y5; have zm := mu.eq (M := M17) (e30) rfl rfl zc; exact Or.inr ⟨by omega, y2, y3, y4, Or.inr ⟨by omega, r1, r2, by rw [e21, r3]; omega, by omega⟩⟩)) (fun a i f598 f602 f603 f604 f605 f624 f670 f671 f672 f673 f674 f675 f676 f677 f678 f679 f680 f681 f682 f683 f684 f685 f686 f687 => ((w17_2 a i f598 f602 f624 f670 f671 f672 f673 f680 f683 f684).trans (hF_M a i f598 f602 f603 f604 f605 f624 f670 f671 f672 f673 f674 f675 f676 f677 f678 f679 f680 f681 f682 f683 f684 f685 f686 f687))) (fun i g6 g10 g11 g12 g59 g60 g61 g62 g63 g64 g65 g66 g110 g112 g122 g131 g132 g134 g135 g136 g137 g138 g139 g143 g145 => ((w17_3 i g112 g122 g132 g134 g136 g137 g138).trans (hG_M i g6 g10 g11 g12 g59 g60 g61 g62 g63 g64 g65 g66 g110 g112 g122 g131 g132 g134 g135 g136 g137 g138 g139 g143 g145))))
