/-! ===== the reference: contracts, 37.mf ===== -/
theorem FRS.ent {M M' : jm} {ht : Int → Int} {n F c b : Int} (h : FRS M ht n (M 598 122)) (e4 : ∀ i : Int, M' 654 i = M 654 i) (g : M' 598 82 = M 598 82) (eF : M 598 122 = F) (hs : ∀ j : Int, j ≠ F → M' 679 j = M 679 j ∧ M' 681 j = M 681 j) (h1 : M' 679 F = c) (h2 : M' 681 F = b) (hc : 0 ≤ c ∧ c < M 598 82) (hb : 1 ≤ F → REr (M 654) ht n b) : FRS M' ht n (F + 1) := by
  intro f f0 f1
  rw [show M' 654 = M 654 from funext e4, g]
  by_cases e : f = F
  · rw [e, h1, h2]
    exact ⟨hc.1, hc.2, hb⟩
  · obtain ⟨u1, u2⟩ := hs f e
    rw [u1, u2]
    exact h f f0 (by omega)
theorem exps17 : ndo (20 + 17) = 1 := by decide
theorem r_doDeed_L400 {A : Nat → Option (Nat × (Nat → Int32))} {Q : Option Value → jm → Prop} {L n : Int} {ht : Int → Int} {M0 : jm} {w0 : Int} (q : ∀ (M' : jm), RI M' → RH M' → RF M' → AS M' (L + 1) → ((M' 598 136 = 1 ∧ M' 598 135 = 0) ∨ (M' 598 136 = 0 ∧ FRS M' ht n (M' 598 122) ∧ 1 ≤ M' 598 122 ∧ M' 598 122 ≤ 8 ∧ ((M' 598 135 ≠ 0 ∧ phi M' = phi M0 ∧ M' 598 132 = M0 598 132) ∨ (M' 598 135 = 0 ∧ ((w0 ≤ 7 ∧ REr (M' 654) ht n (M' 598 132) ∧ phi M' < phi M0 ∧ M' 598 131 = M0 598 131) ∨ ((w0 = 8 ∨ w0 = 9) ∧ REr (M' 654) ht n (M' 598 132) ∧ phi M' ≤ phi M0 + 3 ∧ M' 598 131 = M0 598 131) ∨ (10 ≤ w0 ∧ M' 598 132 = M0 598 132 + 1 ∧ phi M' = phi M0 ∧ M' 598 131 = M0 598 131 - ndo (20 + w0))))))) → (∀ (a : Nat) (i : Int), a ≠ 598 → a ≠ 602 → a ≠ 603 → a ≠ 604 → a ≠ 605 → a ≠ 624 → a ≠ 670 → a ≠ 671 → a ≠ 672 → a ≠ 673 → a ≠ 674 → a ≠ 675 → a ≠ 676 → a ≠ 677 → a ≠ 678 → a ≠ 679 → a ≠ 680 → a ≠ 681 → a ≠ 682 → a ≠ 683 → a ≠ 684 → a ≠ 685 → a ≠ 686 → a ≠ 687 → M' a i = M0 a i) → (∀ (i : Int), i ≠ 6 → i ≠ 10 → i ≠ 11 → i ≠ 12 → i ≠ 110 → i ≠ 112 → i ≠ 122 → i ≠ 131 → i ≠ 132 → i ≠ 134 → i ≠ 135 → i ≠ 136 → i ≠ 137 → i ≠ 138 → i ≠ 139 → i ≠ 145 → M' 598 i = M0 598 i) → Q none M') : ∀ (M : jm) (w : Int), RI M → RH M → RF M → (∀ (a : Nat) (i : Int), a ≠ 598 → a ≠ 602 → a ≠ 603 → a ≠ 604 → a ≠ 605 → a ≠ 624 → a ≠ 670 → a ≠ 671 → a ≠ 672 → a ≠ 673 → a ≠ 674 → a ≠ 675 → a ≠ 676 → a ≠ 677 → a ≠ 678 → a ≠ 679 → a ≠ 680 → a ≠ 681 → a ≠ 682 → a ≠ 683 → a ≠ 684 → a ≠ 685 → a ≠ 686 → a ≠ 687 → M a i = M0 a i) → (∀ (i : Int), i ≠ 6 → i ≠ 10 → i ≠ 11 → i ≠ 12 → i ≠ 110 → i ≠ 112 → i ≠ 122 → i ≠ 131 → i ≠ 132 → i ≠ 134 → i ≠ 135 → i ≠ 136 → i ≠ 137 → i ≠ 138 → i ≠ 139 → i ≠ 145 → M 598 i = M0 598 i) → 10 ≤ w ∧ w ≤ 18 → FRS M ht n (M 598 122) → AS M (L + 1) → 1 ≤ M 598 122 ∧ M 598 122 ≤ 8 → phi M = phi M0 → M 598 132 = M0 598 132 ∧ 0 ≤ M 598 132 ∧ M 598 132 ≤ 1999 → M 598 136 = 0 → M 598 131 = M0 598 131 - ndo (20 + w) → w = w0 → jr A 7 xm_395 400 [(1, .int (Int32.ofInt (w))), (0, .ref (598))] [] M Q := by
    intro M w hI_M hH_M hS_M hF_M hG_M h_w hy0 hy1 hy2 hy3 hy4 hy5 hy6 hy7
    subst hy7
    have hFR := hy0
    have hAS := hy1
    refine jr.aload_n rfl rfl ?_
    obtain ⟨v1, e1⟩ : ∃ z, M 598 135 = z := ⟨_, rfl⟩
    have b1 : 0 ≤ v1 ∧ v1 ≤ 8 := by rw [← e1]; exact hI_M 598 135 (Nat.le_of_ble_eq_true rfl)
    refine jr.getf (i := 135) (x := v1) (v := .int (Int32.ofInt (v1))) rfl rfl (nlt rfl) rfl (nlt rfl) rfl rfl e1 rfl ?_
    refine jr.if_ne rfl rfl (by first | (refine rgb (by assumption) ?_; exact rfl) | omega) (fun h404 => ?_) (fun h404 => ?_)
    · have sx404 : (1 : Int) ≤ v1 := by omega
      clear h404
      obtain ⟨v2, e2⟩ : ∃ z, M 598 122 = z := ⟨_, rfl⟩
      have b2 : 0 ≤ v2 ∧ v2 ≤ 9 := by rw [← e2]; exact hI_M 598 122 (Nat.le_of_ble_eq_true rfl)
      obtain ⟨v4, e4⟩ : ∃ z, M 598 131 = z := ⟨_, rfl⟩
      have b4 : 0 ≤ v4 ∧ v4 ≤ 400 := by rw [← e4]; exact hI_M 598 131 (Nat.le_of_ble_eq_true rfl)
      obtain ⟨v6, e6⟩ : ∃ z, M 598 132 = z := ⟨_, rfl⟩
      have b6 : 0 ≤ v6 ∧ v6 ≤ 2200 := by rw [← e6]; exact hI_M 598 132 (Nat.le_of_ble_eq_true rfl)
      obtain ⟨v9, e9⟩ : ∃ z, M 598 136 = z := ⟨_, rfl⟩
      have b9 : 0 ≤ v9 ∧ v9 ≤ 1 := by rw [← e9]; exact hI_M 598 136 (Nat.le_of_ble_eq_true rfl)
      have zp := (phi.fr (M := M) (M' := M) (rfl) (fun i => (rfl)))
      exact jr.vreturn rfl rfl (q _ hI_M hH_M hS_M  hAS (Or.inr ⟨by omega, (FRS.fr hFR (fun i => (rfl)) (fun i => (rfl)) (fun i => (rfl)) (rfl) (by omega)), by omega, by omega, (by by_cases hb : v1 = 0; (exact Or.inr ⟨by omega, Or.inr (Or.inr ⟨by omega, by omega, by omega, by omega⟩)⟩); (exact Or.inl ⟨by omega, by omega, by omega⟩))⟩) (fun a i f598 f602 f603 f604 f605 f624 f670 f671 f672 f673 f674 f675 f676 f677 f678 f679 f680 f681 f682 f683 f684 f685 f686 f687 => (hF_M a i f598 f602 f603 f604 f605 f624 f670 f671 f672 f673 f674 f675 f676 f677 f678 f679 f680 f681 f682 f683 f684 f685 f686 f687)) (fun i g6 g10 g11 g12 g110 g112 g122 g131 g132 g134 g135 g136 g137 g138 g139 g145 => (hG_M i g6 g10 g11 g12 g110 g112 g122 g131 g132 g134 g135 g136 g137 g138 g139 g145)))
    · refine jr.aload_n rfl rfl ?_
      refine jr.dup rfl rfl ?_
      obtain ⟨v11, e11⟩ : ∃ z, M 598 132 = z := ⟨_, rfl⟩
      have b11 : 0 ≤ v11 ∧ v11 ≤ 2200 := by rw [← e11]; exact hI_M 598 132 (Nat.le_of_ble_eq_true rfl)
      refine jr.getf (i := 132) (x := v11) (v := .int (Int32.ofInt (v11))) rfl rfl (nlt rfl) rfl (nlt rfl) rfl rfl e11 rfl ?_
      refine jr.iconst rfl ?_
      refine jr.iadd rfl ?_
      refine jr.putf (i := 132) (x := (v11 + 1)) rfl rfl (nlt rfl) rfl (nlt rfl) rfl rfl rfl rfl rfl ?_
      obtain ⟨v12, e12⟩ : ∃ z, M 598 122 = z := ⟨_, rfl⟩
      have b12 : 0 ≤ v12 ∧ v12 ≤ 9 := by rw [← e12]; exact hI_M 598 122 (Nat.le_of_ble_eq_true rfl)
      have y13 : (ju M 598 132 (v11 + 1)) 598 122 = v12 := ((ju_i _ _ (zne (by decide))).trans e12)
      obtain ⟨v14, e14⟩ : ∃ z, M 598 131 = z := ⟨_, rfl⟩
      have b14 : 0 ≤ v14 ∧ v14 ≤ 400 := by rw [← e14]; exact hI_M 598 131 (Nat.le_of_ble_eq_true rfl)
      have y15 : (ju M 598 132 (v11 + 1)) 598 131 = v14 := ((ju_i _ _ (zne (by decide))).trans e14)
      have y16 : (ju M 598 132 (v11 + 1)) 598 132 = v11 + 1 := (ju_same _ _ _ _)
      have y17 : (ju M 598 132 (v11 + 1)) 598 135 = v1 := ((ju_i _ _ (zne (by decide))).trans e1)
      obtain ⟨v18, e18⟩ : ∃ z, M 598 136 = z := ⟨_, rfl⟩
      have b18 : 0 ≤ v18 ∧ v18 ≤ 1 := by rw [← e18]; exact hI_M 598 136 (Nat.le_of_ble_eq_true rfl)
      have y19 : (ju M 598 132 (v11 + 1)) 598 136 = v18 := ((ju_i _ _ (zne (by decide))).trans e18)
      have zp := (phi.fr (M := M) (M' := (ju M 598 132 (v11 + 1))) ((ju_i _ _ (zne (by decide))).trans (rfl)) (fun i => ((ju_c _ _ (by decide)).trans (rfl))))
      exact jr.vreturn rfl rfl (q _ (RI.u hI_M (a := 598) (i := 132) (show (0 : Int) ≤ _ ∧ _ ≤ (2200 : Int) from by omega)) (RH.o hH_M (by decide) (by decide) (by decide)) (RF.o hS_M (by decide) (by decide))  (AS.o hAS (by decide) (Or.inr (by decide))) (Or.inr ⟨by omega, (FRS.fr hFR (fun i => ((ju_c _ _ (by decide)).trans (rfl))) (fun i => ((ju_c _ _ (by decide)).trans (rfl))) (fun i => ((ju_c _ _ (by decide)).trans (rfl))) ((ju_i _ _ (zne (by decide))).trans (rfl)) (by omega)), by omega, by omega, (by by_cases hb : v1 = 0; (exact Or.inr ⟨by omega, Or.inr (Or.inr ⟨by omega, by omega, by omega, by omega⟩)⟩); (exact Or.inl ⟨by omega, by omega, by omega⟩))⟩) (fun a i f598 f602 f603 f604 f605 f624 f670 f671 f672 f673 f674 f675 f676 f677 f678 f679 f680 f681 f682 f683 f684 f685 f686 f687 => ((ju_c _ _ f598).trans (hF_M a i f598 f602 f603 f604 f605 f624 f670 f671 f672 f673 f674 f675 f676 f677 f678 f679 f680 f681 f682 f683 f684 f685 f686 f687))) (fun i g6 g10 g11 g12 g110 g112 g122 g131 g132 g134 g135 g136 g137 g138 g139 g145 => ((ju_i _ _ g132).trans (hG_M i g6 g10 g11 g12 g110 g112 g122 g131 g132 g134 g135 g136 g137 g138 g139 g145))))
theorem r_doDeed {A : Nat → Option (Nat × (Nat → Int32))} {Q : Option Value → jm → Prop} {L n : Int} {ht : Int → Int} {M : jm} (hI_M : RI M) (hH_M : RH M) (hS_M : RF M) {w : Int} (h_w : 4 ≤ w ∧ w ≤ 18) {a : Int} (h_a : (-9223372036854775808) ≤ a ∧ a ≤ 9223372036854775807) (p0 : MX M ht n) (p1 : FRS M ht n (M 598 122)) (p2 : 1 ≤ M 598 122 ∧ M 598 122 ≤ 8) (p3 : AS M L) (p4 : L ≤ 1999999999) (p5 : (ndo (20 + w) ≤ M 598 131 ∧ M 598 131 ≤ 250)) (p6 : (w = 8 ∨ w = 9 → 0 ≤ a ∧ a < M 598 82)) (p7 : (w = 8 ∨ w = 9 → REr (M 654) ht n (M 598 132 + 1))) (p8 : (M 598 135 = 0 ∧ M 598 136 = 0)) (p9 : 0 ≤ M 598 132 ∧ M 598 132 ≤ 1999) (q : ∀ (M' : jm), RI M' → RH M' → RF M' → AS M' (L + 1) → ((M' 598 136 = 1 ∧ M' 598 135 = 0) ∨ (M' 598 136 = 0 ∧ FRS M' ht n (M' 598 122) ∧ 1 ≤ M' 598 122 ∧ M' 598 122 ≤ 8 ∧ ((M' 598 135 ≠ 0 ∧ phi M' = phi M ∧ M' 598 132 = M 598 132) ∨ (M' 598 135 = 0 ∧ ((w ≤ 7 ∧ REr (M' 654) ht n (M' 598 132) ∧ phi M' < phi M ∧ M' 598 131 = M 598 131) ∨ ((w = 8 ∨ w = 9) ∧ REr (M' 654) ht n (M' 598 132) ∧ phi M' ≤ phi M + 3 ∧ M' 598 131 = M 598 131) ∨ (10 ≤ w ∧ M' 598 132 = M 598 132 + 1 ∧ phi M' = phi M ∧ M' 598 131 = M 598 131 - ndo (20 + w))))))) → (∀ (a : Nat) (i : Int), a ≠ 598 → a ≠ 602 → a ≠ 603 → a ≠ 604 → a ≠ 605 → a ≠ 624 → a ≠ 670 → a ≠ 671 → a ≠ 672 → a ≠ 673 → a ≠ 674 → a ≠ 675 → a ≠ 676 → a ≠ 677 → a ≠ 678 → a ≠ 679 → a ≠ 680 → a ≠ 681 → a ≠ 682 → a ≠ 683 → a ≠ 684 → a ≠ 685 → a ≠ 686 → a ≠ 687 → M' a i = M a i) → (∀ (i : Int), i ≠ 6 → i ≠ 10 → i ≠ 11 → i ≠ 12 → i ≠ 110 → i ≠ 112 → i ≠ 122 → i ≠ 131 → i ≠ 132 → i ≠ 134 → i ≠ 135 → i ≠ 136 → i ≠ 137 → i ≠ 138 → i ≠ 139 → i ≠ 145 → M' 598 i = M 598 i) → Q none M') : jc A 8 395 [.ref (598), .int (Int32.ofInt (w)), .long (Int64.ofInt (a))] M Q := by
  have hMX := p0
  have hFR := p1
  have hAS := AS.up p3 (show L ≤ L + 1 by omega)
  have hl := p3.1
  obtain ⟨Fv, hFv⟩ : ∃ z, M 598 122 = z := ⟨_, rfl⟩
  obtain ⟨Pv, hPv⟩ : ∃ z, M 598 132 = z := ⟨_, rfl⟩
  rw [hPv] at p7
  obtain ⟨lg, hlg⟩ : ∃ z, M 598 112 = z := ⟨_, rfl⟩
  have x17 : w = 17 → ndo (20 + w) = 1 := fun q => by rw [q]; decide
  have nle := ndo_le (20 + w)
  have b82 : (0 : Int) ≤ M 598 82 ∧ M 598 82 ≤ 16 := hI_M 598 82 (Nat.le_of_ble_eq_true rfl)
  refine jc_of (m := xm_395) rfl (Nat.le_of_ble_eq_true rfl) rfl ?_
  refine jr.iload_n rfl rfl ?_
  refine jr.bipush rfl (jbp _ (nlt rfl)) ?_
  refine jr.icmp_ge rfl rfl (by first | (refine rgb (by assumption) ?_; exact rfl) | omega) (rgl rfl) (fun h3 => ?_) (fun h3 => ?_)
  · refine jr.iload_n rfl rfl ?_
    refine jr.bipush rfl (jbp _ (nlt rfl)) ?_
    refine jr.icmp_ne rfl rfl (by first | (refine rgb (by assumption) ?_; exact rfl) | omega) (rgl rfl) (fun h25 => ?_) (fun h25 => ?_)
    · refine jr.iload_n rfl rfl ?_
      refine jr.bipush rfl (jbp _ (nlt rfl)) ?_
      refine jr.icmp_eq rfl rfl (by first | (refine rgb (by assumption) ?_; exact rfl) | omega) (rgl rfl) (fun h43 => ?_) (fun h43 => ?_)
      · refine jr.aload_n rfl rfl ?_
        refine jr.getf (i := 122) (x := Fv) (v := .int (Int32.ofInt (Fv))) rfl rfl (nlt rfl) rfl (nlt rfl) rfl rfl hFv rfl ?_
        refine jr.bipush rfl (jbp _ (nlt rfl)) ?_
        refine jr.icmp_ne rfl rfl (by first | (refine rgb (by assumption) ?_; exact rfl) | omega) (rgl rfl) (fun h58 => ?_) (fun h58 => ?_)
        · refine jr.aload_n rfl rfl ?_
          refine jr.iload_n rfl rfl ?_
          refine jr.bipush rfl (jbp _ (nlt rfl)) ?_
          refine jr.icmp_ne rfl rfl (by first | (refine rgb (by assumption) ?_; exact rfl) | omega) (rgl rfl) (fun h72 => ?_) (fun h72 => ?_)
          · exact absurd h72 (by omega)
          · refine jr.iconst rfl ?_
            refine jr.goto rfl rfl ?_
            refine jr_v rfl rfl (Or.inl rfl) rfl rfl (nlt rfl) rfl ⟨rfl, Nat.le_of_ble_eq_true rfl, Nat.le_of_ble_eq_true rfl⟩ rfl (jc.deep (r_noteWhy hI_M hH_M hS_M  (by omega) (by rw [hFv]; omega) (fun M1 hI_M1 hH_M1 hS_M1  w1_0 w1_1 => ?_)) (Nat.le_of_ble_eq_true rfl))
            refine jr.aload_n rfl rfl ?_
            refine jr.dup rfl rfl ?_
            have e2 : M1 598 132 = Pv := ((w1_1 132 (zne rfl)).trans hPv)
            refine jr.getf (i := 132) (x := Pv) (v := .int (Int32.ofInt (Pv))) rfl rfl (nlt rfl) rfl (nlt rfl) rfl rfl e2 rfl ?_
            refine jr.iconst rfl ?_
            refine jr.iadd rfl ?_
            refine jr.putf (i := 132) (x := (Pv + 1)) rfl rfl (nlt rfl) rfl (nlt rfl) rfl rfl rfl rfl rfl ?_
            refine jr.aload_n rfl rfl ?_
            refine jr.lload_n rfl rfl ?_
            refine jr.l2i rfl ?_
            refine jr.iload_n rfl rfl ?_
            refine jr.bipush rfl (jbp _ (nlt rfl)) ?_
            refine jr.icmp_ne rfl rfl (by first | (refine rgb (by assumption) ?_; exact rfl) | omega) (rgl rfl) (fun h99 => ?_) (fun h99 => ?_)
            · refine jr.iconst rfl ?_
              have e4 : M1 598 122 = Fv := ((w1_1 122 (zne rfl)).trans hFv)
              refine jr_v rfl rfl (Or.inl rfl) rfl rfl (nlt rfl) rfl ⟨rfl, Nat.le_of_ble_eq_true rfl, Nat.le_of_ble_eq_true rfl⟩ rfl (jc.deep (r_enter (RI.u hI_M1 (a := 598) (i := 132) (show (0 : Int) ≤ _ ∧ _ ≤ (2200 : Int) from by omega)) (RH.o hH_M1 (by decide) (by decide) (by decide)) (RF.o hS_M1 (by decide) (by decide))  (by omega) (by omega) (by rw [((ju_i _ _ (zne (by decide))).trans e4)]; omega) (AS.o (AS.fr hAS (fun i => w1_0 685 i (nne rfl) (nne rfl)) (w1_1 112 (zne rfl))) (by decide) (Or.inr (by decide))) (by omega) (fun M3 hI_M3 hH_M3 hS_M3  w3_0 w3_1 w3_2 w3_3 w3_4 w3_5 w3_6 => ?_)) (Nat.le_of_ble_eq_true rfl))
              obtain ⟨v5, e5⟩ : ∃ z, M3 598 122 = z := ⟨_, rfl⟩
              have b5 : 0 ≤ v5 ∧ v5 ≤ 9 := by rw [← e5]; exact hI_M3 598 122 (Nat.le_of_ble_eq_true rfl)
              have y6 : M3 598 122 = v5 := e5
              obtain ⟨v7, e7⟩ : ∃ z, M 598 131 = z := ⟨_, rfl⟩
              have b7 : 0 ≤ v7 ∧ v7 ≤ 400 := by rw [← e7]; exact hI_M 598 131 (Nat.le_of_ble_eq_true rfl)
              have e8 : M1 598 131 = v7 := ((w1_1 131 (zne rfl)).trans e7)
              have e9 : M3 598 131 = v7 := ((w3_6 131 (zne rfl) (zne rfl)).trans ((ju_i _ _ (zne (by decide))).trans e8))
              obtain ⟨v11, e11⟩ : ∃ z, M3 598 132 = z := ⟨_, rfl⟩
              have b11 : 0 ≤ v11 ∧ v11 ≤ 2200 := by rw [← e11]; exact hI_M3 598 132 (Nat.le_of_ble_eq_true rfl)
              obtain ⟨v13, e13⟩ : ∃ z, M 598 135 = z := ⟨_, rfl⟩
              have b13 : 0 ≤ v13 ∧ v13 ≤ 8 := by rw [← e13]; exact hI_M 598 135 (Nat.le_of_ble_eq_true rfl)
              have e14 : M1 598 135 = v13 := ((w1_1 135 (zne rfl)).trans e13)
              have e15 : M3 598 135 = v13 := ((w3_6 135 (zne rfl) (zne rfl)).trans ((ju_i _ _ (zne (by decide))).trans e14))
              obtain ⟨v17, e17⟩ : ∃ z, M 598 136 = z := ⟨_, rfl⟩
              have b17 : 0 ≤ v17 ∧ v17 ≤ 1 := by rw [← e17]; exact hI_M 598 136 (Nat.le_of_ble_eq_true rfl)
              have e18 : M1 598 136 = v17 := ((w1_1 136 (zne rfl)).trans e17)
              have e19 : M3 598 136 = v17 := ((w3_6 136 (zne rfl) (zne rfl)).trans ((ju_i _ _ (zne (by decide))).trans e18))
              have y21 : (ju M1 598 132 (Pv + 1)) 598 122 = Fv := ((ju_i _ _ (zne (by decide))).trans e4)
              have y22 : (ju M1 598 132 (Pv + 1)) 598 132 = Pv + 1 := (ju_same _ _ _ _)
              have zp := (phi.le M3).2
              have zq := (phi.le M).1
              have hent := FRS.ent (M' := M3) (c := a) (b := Pv + 1) hFR (fun i => (w3_5 654 i (nne rfl) (nne rfl) (nne rfl) (nne rfl) (nne rfl) (nne rfl)).trans ((fun i => ((ju_c _ _ (by decide)).trans ((w1_0 654 i (nne rfl) (nne rfl)).trans (rfl)))) i)) ((w3_6 82 (zne rfl) (zne rfl)).trans ((ju_i _ _ (zne (by decide))).trans ((w1_1 82 (zne rfl)).trans (rfl)))) hFv (fun j hj => ⟨(w3_3 j (by rw [((ju_i _ _ (zne (by decide))).trans e4)]; exact hj)).1.trans ((fun i => ((ju_c _ _ (by decide)).trans ((w1_0 679 i (nne rfl) (nne rfl)).trans (rfl)))) j), (w3_3 j (by rw [((ju_i _ _ (zne (by decide))).trans e4)]; exact hj)).2.trans ((fun i => ((ju_c _ _ (by decide)).trans ((w1_0 681 i (nne rfl) (nne rfl)).trans (rfl)))) j)⟩) (by have q := w3_4.1; rw [((ju_i _ _ (zne (by decide))).trans e4)] at q; exact q) (by have q := w3_4.2.2; rw [((ju_i _ _ (zne (by decide))).trans e4), (ju_same _ _ _ _)] at q; exact q) (by omega) (fun _ => p7 (by omega))
              exact jr.vreturn rfl rfl (q _ hI_M3 hH_M3 hS_M3  w3_0 (Or.inr ⟨by omega, (by rw [w3_1, ((ju_i _ _ (zne (by decide))).trans e4)]; exact hent), by omega, by omega, Or.inr ⟨by omega, Or.inr (Or.inl ⟨by omega, (by rw [show M3 654 = M 654 from funext (fun i => (w3_5 654 i (nne rfl) (nne rfl) (nne rfl) (nne rfl) (nne rfl) (nne rfl)).trans ((fun i => ((ju_c _ _ (by decide)).trans ((w1_0 654 i (nne rfl) (nne rfl)).trans (rfl)))) i)), w3_2, show (ju M1 598 132 (Pv + 1)) 652 a = M 652 a from (fun i => ((ju_c _ _ (by decide)).trans ((w1_0 652 i (nne rfl) (nne rfl)).trans (rfl)))) a]; exact MX.re hMX (hMX.2.2.2.1 a (by omega) (by omega)).1), by omega, by omega⟩)⟩⟩) (fun a i f598 f602 f603 f604 f605 f624 f670 f671 f672 f673 f674 f675 f676 f677 f678 f679 f680 f681 f682 f683 f684 f685 f686 f687 => ((w3_5 a i f598 f679 f680 f681 f682 f685).trans ((ju_c _ _ f598).trans ((w1_0 a i f598 f687).trans rfl)))) (fun i g6 g10 g11 g12 g110 g112 g122 g131 g132 g134 g135 g136 g137 g138 g139 g145 => ((w3_6 i g122 g132).trans ((ju_i _ _ g132).trans ((w1_1 i g145).trans rfl)))))
            · exact absurd (by omega) h99
        · refine jr.aload_n rfl rfl ?_
          refine jr.bipush rfl (jbp _ (nlt rfl)) ?_
          refine jr.putf (i := 135) (x := 8) rfl rfl (nlt rfl) rfl (nlt rfl) rfl rfl rfl rfl rfl ?_
          have y23 : (ju M 598 135 8) 598 122 = Fv := ((ju_i _ _ (zne (by decide))).trans hFv)
          obtain ⟨v24, e24⟩ : ∃ z, M 598 131 = z := ⟨_, rfl⟩
          have b24 : 0 ≤ v24 ∧ v24 ≤ 400 := by rw [← e24]; exact hI_M 598 131 (Nat.le_of_ble_eq_true rfl)
          have y25 : (ju M 598 135 8) 598 131 = v24 := ((ju_i _ _ (zne (by decide))).trans e24)
          have y26 : (ju M 598 135 8) 598 132 = Pv := ((ju_i _ _ (zne (by decide))).trans hPv)
          have y27 : (ju M 598 135 8) 598 135 = 8 := (ju_same _ _ _ _)
          obtain ⟨v28, e28⟩ : ∃ z, M 598 136 = z := ⟨_, rfl⟩
          have b28 : 0 ≤ v28 ∧ v28 ≤ 1 := by rw [← e28]; exact hI_M 598 136 (Nat.le_of_ble_eq_true rfl)
          have y29 : (ju M 598 135 8) 598 136 = v28 := ((ju_i _ _ (zne (by decide))).trans e28)
          obtain ⟨v30, e30⟩ : ∃ z, M 598 135 = z := ⟨_, rfl⟩
          have b30 : 0 ≤ v30 ∧ v30 ≤ 8 := by rw [← e30]; exact hI_M 598 135 (Nat.le_of_ble_eq_true rfl)
          exact jr.vreturn rfl rfl (q _ (RI.u hI_M (a := 598) (i := 135) (show (0 : Int) ≤ _ ∧ _ ≤ (8 : Int) from by omega)) (RH.o hH_M (by decide) (by decide) (by decide)) (RF.o hS_M (by decide) (by decide))  (AS.o hAS (by decide) (Or.inr (by decide))) (Or.inr ⟨by omega, (FRS.fr hFR (fun i => ((ju_c _ _ (by decide)).trans (rfl))) (fun i => ((ju_c _ _ (by decide)).trans (rfl))) (fun i => ((ju_c _ _ (by decide)).trans (rfl))) ((ju_i _ _ (zne (by decide))).trans (rfl)) (by omega)), by omega, by omega, Or.inl ⟨by omega, (phi.fr (M := M) (M' := (ju M 598 135 8)) ((ju_i _ _ (zne (by decide))).trans (rfl)) (fun i => ((ju_c _ _ (by decide)).trans (rfl)))), by omega⟩⟩) (fun a i f598 f602 f603 f604 f605 f624 f670 f671 f672 f673 f674 f675 f676 f677 f678 f679 f680 f681 f682 f683 f684 f685 f686 f687 => ((ju_c _ _ f598).trans rfl)) (fun i g6 g10 g11 g12 g110 g112 g122 g131 g132 g134 g135 g136 g137 g138 g139 g145 => ((ju_i _ _ g135).trans rfl)))
      · refine jr.iload_n rfl rfl ?_
        refine jr.bipush rfl (jbp _ (nlt rfl)) ?_
        refine jr.icmp_ne rfl rfl (by first | (refine rgb (by assumption) ?_; exact rfl) | omega) (rgl rfl) (fun h49 => ?_) (fun h49 => ?_)
        · refine jr.aload_n rfl rfl ?_
          refine jr.dup rfl rfl ?_
          obtain ⟨v31, e31⟩ : ∃ z, M 598 131 = z := ⟨_, rfl⟩
          have b31 : 0 ≤ v31 ∧ v31 ≤ 400 := by rw [← e31]; exact hI_M 598 131 (Nat.le_of_ble_eq_true rfl)
          refine jr.getf (i := 131) (x := v31) (v := .int (Int32.ofInt (v31))) rfl rfl (nlt rfl) rfl (nlt rfl) rfl rfl e31 rfl ?_
          refine jr.iload_n rfl rfl ?_
          refine jr.bipush rfl (jbp _ (nlt rfl)) ?_
          refine jr.icmp_ne rfl rfl (by first | (refine rgb (by assumption) ?_; exact rfl) | omega) (rgl rfl) (fun h119 => ?_) (fun h119 => ?_)
          · refine jr.iload_n rfl rfl ?_
            refine jr_s rfl rfl (Or.inl rfl) ⟨Nat.le_of_ble_eq_true rfl, Nat.le_of_ble_eq_true rfl⟩ rfl rfl (jc.deep (r_exps hI_M hH_M hS_M (Kp.rfl _) (by omega)  (fun r32 z32 w32_0 => ?_)) (Nat.le_of_ble_eq_true rfl))
            refine jr.isub rfl ?_
            refine jr.putf (i := 131) (x := (v31 - r32)) rfl rfl (nlt rfl) rfl (nlt rfl) rfl rfl rfl rfl rfl ?_
            refine jr.aload_n rfl rfl ?_
            refine jr.getf (i := 130) (v := .ref 686) rfl rfl (nlt rfl) rfl (nlt rfl) rfl rfl rfl rfl ?_
            refine jr.aload_n rfl rfl ?_
            refine jr.getf (i := 131) (x := (v31 - r32)) (v := .int (Int32.ofInt (v31 - r32))) rfl rfl (nlt rfl) rfl (nlt rfl) rfl rfl (ju_same _ _ _ _) rfl ?_
            obtain ⟨v33, e33⟩ : ∃ z, M 686 (v31 - r32) = z := ⟨_, rfl⟩
            have b33 : (-9223372036854775808) ≤ v33 ∧ v33 ≤ 9223372036854775807 := by rw [← e33]; exact (by have q := hI_M 686 (v31 - r32) (Nat.le_of_ble_eq_true rfl); rw [xri_row rfl rfl] at q; exact q)
            refine jr.lald (i := (v31 - r32)) (x := v33) rfl (nlt rfl) rfl (Nat.le_of_ble_eq_true rfl) (by omega) (by omega) ((ju_c _ _ (by decide)).trans e33) ?_
            refine jr.lstore (ls' := [_, _, _, _]) rfl (nlt rfl) rfl ?_
            refine jr.aload_n rfl rfl ?_
            refine jr.getf (i := 130) (v := .ref 686) rfl rfl (nlt rfl) rfl (nlt rfl) rfl rfl rfl rfl ?_
            refine jr.aload_n rfl rfl ?_
            refine jr.getf (i := 131) (x := (v31 - r32)) (v := .int (Int32.ofInt (v31 - r32))) rfl rfl (nlt rfl) rfl (nlt rfl) rfl rfl (ju_same _ _ _ _) rfl ?_
            refine jr.iconst rfl ?_
            refine jr.iadd rfl ?_
            obtain ⟨v34, e34⟩ : ∃ z, M 686 ((v31 - r32) + 1) = z := ⟨_, rfl⟩
            have b34 : (-9223372036854775808) ≤ v34 ∧ v34 ≤ 9223372036854775807 := by rw [← e34]; exact (by have q := hI_M 686 ((v31 - r32) + 1) (by decide); rw [xri_row rfl rfl] at q; exact q)
            refine jr.lald (i := ((v31 - r32) + 1)) (x := v34) rfl (nlt rfl) rfl (Nat.le_of_ble_eq_true rfl) (by omega) (by omega) ((ju_c _ _ (by decide)).trans e34) ?_
            refine jr.lstore (ls' := [_, _, _, _, _]) rfl (nlt rfl) rfl ?_
            refine jr.aload_n rfl rfl ?_
            refine jr.getf (i := 130) (v := .ref 686) rfl rfl (nlt rfl) rfl (nlt rfl) rfl rfl rfl rfl ?_
            refine jr.aload_n rfl rfl ?_
            refine jr.getf (i := 131) (x := (v31 - r32)) (v := .int (Int32.ofInt (v31 - r32))) rfl rfl (nlt rfl) rfl (nlt rfl) rfl rfl (ju_same _ _ _ _) rfl ?_
            refine jr.iconst rfl ?_
            refine jr.iadd rfl ?_
            obtain ⟨v35, e35⟩ : ∃ z, M 686 ((v31 - r32) + 2) = z := ⟨_, rfl⟩
            have b35 : (-9223372036854775808) ≤ v35 ∧ v35 ≤ 9223372036854775807 := by rw [← e35]; exact (by have q := hI_M 686 ((v31 - r32) + 2) (by decide); rw [xri_row rfl rfl] at q; exact q)
            refine jr.lald (i := ((v31 - r32) + 2)) (x := v35) rfl (nlt rfl) rfl (Nat.le_of_ble_eq_true rfl) (by omega) (by omega) ((ju_c _ _ (by decide)).trans e35) ?_
            refine jr.lstore (ls' := [_, _, _, _, _, _]) rfl (nlt rfl) rfl ?_
            refine jr.iload_n rfl rfl ?_
            rcases (show w = 10 ∨ w = 11 ∨ w = 12 ∨ w = 13 ∨ w = 14 ∨ w = 15 ∨ w = 16 ∨ w = 17 ∨ (w ≠ 10 ∧ w ≠ 11 ∧ w ≠ 12 ∧ w ≠ 13 ∧ w ≠ 14 ∧ w ≠ 15 ∧ w ≠ 16 ∧ w ≠ 17) by omega) with h172 | h172 | h172 | h172 | h172 | h172 | h172 | h172 | h172
            · refine jr.tsw_k 10 rfl h172 rfl ?_
              refine jr.aload_n rfl rfl ?_
              refine jr.lconst (x := 1) rfl (by decide) ?_
              refine jr_v rfl rfl (Or.inl rfl) rfl rfl (nlt rfl) rfl ⟨rfl, Nat.le_of_ble_eq_true rfl, Nat.le_of_ble_eq_true rfl⟩ rfl (jc.deep (r_needed (RI.u hI_M (a := 598) (i := 131) (show (0 : Int) ≤ _ ∧ _ ≤ (400 : Int) from by omega)) (RH.o hH_M (by decide) (by decide) (by decide)) (RF.o hS_M (by decide) (by decide))  (by omega)  (fun r36 M36 hI_M36 hH_M36 hS_M36  z36 w36_0 w36_1 => ?_)) (Nat.le_of_ble_eq_true rfl))
              refine jr.lconst (x := 1) rfl (by decide) ?_
              refine jr.lcmp_ne rfl rfl rfl (by omega) (by omega) (fun h226 => ?_) (fun h226 => ?_)
              · have e37 : M36 598 122 = Fv := ((w36_1 122 (zne rfl)).trans ((ju_i _ _ (zne (by decide))).trans hFv))
                have e39 : M36 598 132 = Pv := ((w36_1 132 (zne rfl)).trans ((ju_i _ _ (zne (by decide))).trans hPv))
                obtain ⟨v40, e40⟩ : ∃ z, M 598 136 = z := ⟨_, rfl⟩
                have b40 : 0 ≤ v40 ∧ v40 ≤ 1 := by rw [← e40]; exact hI_M 598 136 (Nat.le_of_ble_eq_true rfl)
                have e41 : M36 598 136 = v40 := ((w36_1 136 (zne rfl)).trans ((ju_i _ _ (zne (by decide))).trans e40))
                have e42 : M36 598 131 = v31 - r32 := ((w36_1 131 (zne rfl)).trans (ju_same _ _ _ _))
                refine jr.pick (ls := [_, _]) [4, 3] rfl rfl ?_
                exact r_doDeed_L400 q M36 w hI_M36 hH_M36 hS_M36  (fun a i f598 f602 f603 f604 f605 f624 f670 f671 f672 f673 f674 f675 f676 f677 f678 f679 f680 f681 f682 f683 f684 f685 f686 f687 => ((w36_0 a i f598).trans ((ju_c _ _ f598).trans rfl))) (fun i g6 g10 g11 g12 g110 g112 g122 g131 g132 g134 g135 g136 g137 g138 g139 g145 => ((w36_1 i g135).trans ((ju_i _ _ g131).trans rfl))) (by omega) (FRS.fr hFR (fun i => ((w36_0 679 i (nne rfl)).trans ((ju_c _ _ (by decide)).trans (rfl)))) (fun i => ((w36_0 681 i (nne rfl)).trans ((ju_c _ _ (by decide)).trans (rfl)))) (fun i => ((w36_0 654 i (nne rfl)).trans ((ju_c _ _ (by decide)).trans (rfl)))) ((w36_1 82 (zne rfl)).trans ((ju_i _ _ (zne (by decide))).trans (rfl))) (by omega)) (AS.fr (AS.o hAS (by decide) (Or.inr (by decide))) (fun i => w36_0 685 i (nne rfl)) (w36_1 112 (zne rfl))) (by rw [e37] <;> omega) (phi.fr (M := M) (M' := M36) ((w36_1 122 (zne rfl)).trans ((ju_i _ _ (zne (by decide))).trans (rfl))) (fun i => ((w36_0 680 i (nne rfl)).trans ((ju_c _ _ (by decide)).trans (rfl))))) (by rw [e39] <;> omega) (by rw [e41] <;> omega) (by rw [e42] <;> omega) (by omega)
              · refine jr.aload_n rfl rfl ?_
                refine jr.getf (i := 5) (v := .ref 602) rfl rfl (nlt rfl) rfl (nlt rfl) rfl rfl rfl rfl ?_
                refine jr.aload_n rfl rfl ?_
                obtain ⟨v43, e43⟩ : ∃ z, M 598 133 = z := ⟨_, rfl⟩
                have b43 : 0 ≤ v43 ∧ v43 ≤ 23 := by rw [← e43]; exact hI_M 598 133 (Nat.le_of_ble_eq_true rfl)
                have e44 : M36 598 133 = v43 := ((w36_1 133 (zne rfl)).trans ((ju_i _ _ (zne (by decide))).trans e43))
                refine jr.getf (i := 133) (x := v43) (v := .int (Int32.ofInt (v43))) rfl rfl (nlt rfl) rfl (nlt rfl) rfl rfl e44 rfl ?_
                refine jr.lload rfl rfl ?_
                refine jr.last (i := v43) (x := v33) rfl (nlt rfl) rfl (Nat.le_of_ble_eq_true rfl) (by omega) (by omega) ?_
                refine jr.goto rfl rfl ?_
                have e45 : M36 598 122 = Fv := ((w36_1 122 (zne rfl)).trans ((ju_i _ _ (zne (by decide))).trans hFv))
                have y46 : (ju M36 602 v43 v33) 598 122 = Fv := ((ju_c _ _ (by decide)).trans e45)
                have e47 : M36 598 132 = Pv := ((w36_1 132 (zne rfl)).trans ((ju_i _ _ (zne (by decide))).trans hPv))
                obtain ⟨v48, e48⟩ : ∃ z, M 598 136 = z := ⟨_, rfl⟩
                have b48 : 0 ≤ v48 ∧ v48 ≤ 1 := by rw [← e48]; exact hI_M 598 136 (Nat.le_of_ble_eq_true rfl)
                have e49 : M36 598 136 = v48 := ((w36_1 136 (zne rfl)).trans ((ju_i _ _ (zne (by decide))).trans e48))
                have e50 : M36 598 131 = v31 - r32 := ((w36_1 131 (zne rfl)).trans (ju_same _ _ _ _))
                refine jr.pick (ls := [_, _]) [4, 3] rfl rfl ?_
                exact r_doDeed_L400 q (ju M36 602 v43 v33) w (RI.u hI_M36 (a := 602) (i := v43) (by rw [xri_row rfl rfl]; show (-9223372036854775808 : Int) ≤ _ ∧ _ ≤ (9223372036854775807 : Int); omega)) (RH.o hH_M36 (by decide) (by decide) (by decide)) (RF.o hS_M36 (by decide) (by decide))  (fun a i f598 f602 f603 f604 f605 f624 f670 f671 f672 f673 f674 f675 f676 f677 f678 f679 f680 f681 f682 f683 f684 f685 f686 f687 => ((ju_c _ _ f602).trans ((w36_0 a i f598).trans ((ju_c _ _ f598).trans rfl)))) (fun i g6 g10 g11 g12 g110 g112 g122 g131 g132 g134 g135 g136 g137 g138 g139 g145 => ((ju_c _ _ (by decide)).trans ((w36_1 i g135).trans ((ju_i _ _ g131).trans rfl)))) (by omega) (FRS.fr hFR (fun i => ((ju_c _ _ (by decide)).trans ((w36_0 679 i (nne rfl)).trans ((ju_c _ _ (by decide)).trans (rfl))))) (fun i => ((ju_c _ _ (by decide)).trans ((w36_0 681 i (nne rfl)).trans ((ju_c _ _ (by decide)).trans (rfl))))) (fun i => ((ju_c _ _ (by decide)).trans ((w36_0 654 i (nne rfl)).trans ((ju_c _ _ (by decide)).trans (rfl))))) ((ju_c _ _ (by decide)).trans ((w36_1 82 (zne rfl)).trans ((ju_i _ _ (zne (by decide))).trans (rfl)))) (by omega)) (AS.o (AS.fr (AS.o hAS (by decide) (Or.inr (by decide))) (fun i => w36_0 685 i (nne rfl)) (w36_1 112 (zne rfl))) (by decide) (Or.inl (by decide))) (by rw [((ju_c _ _ (by decide)).trans e45)] <;> omega) (phi.fr (M := M) (M' := (ju M36 602 v43 v33)) ((ju_c _ _ (by decide)).trans ((w36_1 122 (zne rfl)).trans ((ju_i _ _ (zne (by decide))).trans (rfl)))) (fun i => ((ju_c _ _ (by decide)).trans ((w36_0 680 i (nne rfl)).trans ((ju_c _ _ (by decide)).trans (rfl)))))) (by rw [((ju_c _ _ (by decide)).trans e47)] <;> omega) (by rw [((ju_c _ _ (by decide)).trans e49)] <;> omega) (by rw [((ju_c _ _ (by decide)).trans e50)] <;> omega) (by omega)
            · refine jr.tsw_k 11 rfl h172 rfl ?_
              refine jr.lload rfl rfl ?_
              refine jr.lconst (x := 0) rfl (by decide) ?_
              refine jr.ldc2 (x := 7) rfl rfl (by decide) ?_
              refine jr_s rfl rfl (Or.inl rfl) ⟨Nat.le_of_ble_eq_true rfl, Nat.le_of_ble_eq_true rfl⟩ rfl rfl (jc.deep (c_within (by omega) (by omega) (by omega) (fun l250 u250 => ?_) (fun n250 => ?_)) (Nat.le_of_ble_eq_true rfl))
              · refine jr.if_eq rfl rfl (by first | exact rgl rfl | omega) (fun h => absurd h (by decide)) (fun _ => ?_)
                refine jr.aload_n rfl rfl ?_
                refine jr.getf (i := 114) (v := .ref 671) rfl rfl (nlt rfl) rfl (nlt rfl) rfl rfl rfl rfl ?_
                refine jr.lload rfl rfl ?_
                refine jr.l2i rfl ?_
                refine jr.dup2 rfl ⟨rfl, rfl⟩ ?_
                obtain ⟨v51, e51⟩ : ∃ z, M 671 v33 = z := ⟨_, rfl⟩
                have b51 : (-9223372036854775808) ≤ v51 ∧ v51 ≤ 9223372036854775807 := by rw [← e51]; exact (by have q := hI_M 671 v33 (Nat.le_of_ble_eq_true rfl); rw [xri_row rfl rfl] at q; exact q)
                refine jr.lald (i := v33) (x := v51) rfl (nlt rfl) rfl (Nat.le_of_ble_eq_true rfl) (by omega) (by omega) ((ju_c _ _ (by decide)).trans e51) ?_
                refine jr.lload rfl rfl ?_
                refine jr.ladd rfl ?_
                refine jr.lw (jl_w (v51 + v34)) (jl_w_eq _) ?_
                have b52 : -9223372036854775808 ≤ jl_w (v51 + v34) ∧ jl_w (v51 + v34) ≤ 9223372036854775807 := jbl_any _
                generalize jl_w (v51 + v34) = v52 at b52 ⊢
                refine jr.last (i := v33) (x := v52) rfl (nlt rfl) rfl (Nat.le_of_ble_eq_true rfl) (by omega) (by omega) ?_
                refine jr.goto rfl rfl ?_
                have y53 : (ju (ju M 598 131 (v31 - r32)) 671 v33 v52) 598 122 = Fv := ((ju_c _ _ (by decide)).trans ((ju_i _ _ (zne (by decide))).trans hFv))
                obtain ⟨v54, e54⟩ : ∃ z, M 598 136 = z := ⟨_, rfl⟩
                have b54 : 0 ≤ v54 ∧ v54 ≤ 1 := by rw [← e54]; exact hI_M 598 136 (Nat.le_of_ble_eq_true rfl)
                refine jr.pick (ls := [_, _]) [4, 3] rfl rfl ?_
                exact r_doDeed_L400 q (ju (ju M 598 131 (v31 - r32)) 671 v33 v52) w (RI.u (RI.u hI_M (a := 598) (i := 131) (show (0 : Int) ≤ _ ∧ _ ≤ (400 : Int) from by omega)) (a := 671) (i := v33) (by rw [xri_row rfl rfl]; show (-9223372036854775808 : Int) ≤ _ ∧ _ ≤ (9223372036854775807 : Int); omega)) (RH.o (RH.o hH_M (by decide) (by decide) (by decide)) (by decide) (by decide) (by decide)) (RF.o (RF.o hS_M (by decide) (by decide)) (by decide) (by decide))  (fun a i f598 f602 f603 f604 f605 f624 f670 f671 f672 f673 f674 f675 f676 f677 f678 f679 f680 f681 f682 f683 f684 f685 f686 f687 => ((ju_c _ _ f671).trans ((ju_c _ _ f598).trans rfl))) (fun i g6 g10 g11 g12 g110 g112 g122 g131 g132 g134 g135 g136 g137 g138 g139 g145 => ((ju_c _ _ (by decide)).trans ((ju_i _ _ g131).trans rfl))) (by omega) (FRS.fr hFR (fun i => ((ju_c _ _ (by decide)).trans ((ju_c _ _ (by decide)).trans (rfl)))) (fun i => ((ju_c _ _ (by decide)).trans ((ju_c _ _ (by decide)).trans (rfl)))) (fun i => ((ju_c _ _ (by decide)).trans ((ju_c _ _ (by decide)).trans (rfl)))) ((ju_c _ _ (by decide)).trans ((ju_i _ _ (zne (by decide))).trans (rfl))) (by omega)) (AS.o (AS.o hAS (by decide) (Or.inr (by decide))) (by decide) (Or.inl (by decide))) (by rw [((ju_c _ _ (by decide)).trans ((ju_i _ _ (zne (by decide))).trans hFv))] <;> omega) (phi.fr (M := M) (M' := (ju (ju M 598 131 (v31 - r32)) 671 v33 v52)) ((ju_c _ _ (by decide)).trans ((ju_i _ _ (zne (by decide))).trans (rfl))) (fun i => ((ju_c _ _ (by decide)).trans ((ju_c _ _ (by decide)).trans (rfl))))) (by rw [((ju_c _ _ (by decide)).trans ((ju_i _ _ (zne (by decide))).trans hPv))] <;> omega) (by rw [((ju_c _ _ (by decide)).trans ((ju_i _ _ (zne (by decide))).trans e54))] <;> omega) (by rw [((ju_c _ _ (by decide)).trans (ju_same _ _ _ _))] <;> omega) (by omega)
              · refine jr.if_eq rfl rfl (by first | exact rgl rfl | omega) (fun _ => ?_) (fun h => absurd (by decide) h)
                refine jr.aload_n rfl rfl ?_
                refine jr.iconst rfl ?_
                refine jr.putf (i := 135) (x := 2) rfl rfl (nlt rfl) rfl (nlt rfl) rfl rfl rfl rfl rfl ?_
                refine jr.goto rfl rfl ?_
                have y55 : (ju (ju M 598 131 (v31 - r32)) 598 135 2) 598 122 = Fv := ((ju_i _ _ (zne (by decide))).trans ((ju_i _ _ (zne (by decide))).trans hFv))
                obtain ⟨v56, e56⟩ : ∃ z, M 598 136 = z := ⟨_, rfl⟩
                have b56 : 0 ≤ v56 ∧ v56 ≤ 1 := by rw [← e56]; exact hI_M 598 136 (Nat.le_of_ble_eq_true rfl)
                refine jr.pick (ls := [_, _]) [4, 3] rfl rfl ?_
                exact r_doDeed_L400 q (ju (ju M 598 131 (v31 - r32)) 598 135 2) w (RI.u (RI.u hI_M (a := 598) (i := 131) (show (0 : Int) ≤ _ ∧ _ ≤ (400 : Int) from by omega)) (a := 598) (i := 135) (show (0 : Int) ≤ _ ∧ _ ≤ (8 : Int) from by omega)) (RH.o (RH.o hH_M (by decide) (by decide) (by decide)) (by decide) (by decide) (by decide)) (RF.o (RF.o hS_M (by decide) (by decide)) (by decide) (by decide))  (fun a i f598 f602 f603 f604 f605 f624 f670 f671 f672 f673 f674 f675 f676 f677 f678 f679 f680 f681 f682 f683 f684 f685 f686 f687 => ((ju_c _ _ f598).trans ((ju_c _ _ f598).trans rfl))) (fun i g6 g10 g11 g12 g110 g112 g122 g131 g132 g134 g135 g136 g137 g138 g139 g145 => ((ju_i _ _ g135).trans ((ju_i _ _ g131).trans rfl))) (by omega) (FRS.fr hFR (fun i => ((ju_c _ _ (by decide)).trans ((ju_c _ _ (by decide)).trans (rfl)))) (fun i => ((ju_c _ _ (by decide)).trans ((ju_c _ _ (by decide)).trans (rfl)))) (fun i => ((ju_c _ _ (by decide)).trans ((ju_c _ _ (by decide)).trans (rfl)))) ((ju_i _ _ (zne (by decide))).trans ((ju_i _ _ (zne (by decide))).trans (rfl))) (by omega)) (AS.o (AS.o hAS (by decide) (Or.inr (by decide))) (by decide) (Or.inr (by decide))) (by rw [((ju_i _ _ (zne (by decide))).trans ((ju_i _ _ (zne (by decide))).trans hFv))] <;> omega) (phi.fr (M := M) (M' := (ju (ju M 598 131 (v31 - r32)) 598 135 2)) ((ju_i _ _ (zne (by decide))).trans ((ju_i _ _ (zne (by decide))).trans (rfl))) (fun i => ((ju_c _ _ (by decide)).trans ((ju_c _ _ (by decide)).trans (rfl))))) (by rw [((ju_i _ _ (zne (by decide))).trans ((ju_i _ _ (zne (by decide))).trans hPv))] <;> omega) (by rw [((ju_i _ _ (zne (by decide))).trans ((ju_i _ _ (zne (by decide))).trans e56))] <;> omega) (by rw [((ju_i _ _ (zne (by decide))).trans (ju_same _ _ _ _))] <;> omega) (by omega)
            · refine jr.tsw_k 12 rfl h172 rfl ?_
              refine jr.aload_n rfl rfl ?_
              refine jr.getf (i := 113) (v := .ref 670) rfl rfl (nlt rfl) rfl (nlt rfl) rfl rfl rfl rfl ?_
              refine jr.aload_n rfl rfl ?_
              refine jr.getf (i := 112) (x := lg) (v := .int (Int32.ofInt (lg))) rfl rfl (nlt rfl) rfl (nlt rfl) rfl rfl ((ju_i _ _ (zne (by decide))).trans hlg) rfl ?_
              refine jr.bipush rfl (jbp _ (nlt rfl)) ?_
              refine jr.irem rfl (by decide) ?_
              have b57 : j_rem lg 20 = lg % 20 := j_rem_ex (by omega) (by omega)
              generalize j_rem lg 20 = v57 at b57 ⊢
              refine jr.lload rfl rfl ?_
              refine jr.last (i := v57) (x := v33) rfl (nlt rfl) rfl (Nat.le_of_ble_eq_true rfl) (by omega) (by omega) ?_
              refine jr.aload_n rfl rfl ?_
              refine jr.dup rfl rfl ?_
              refine jr.getf (i := 112) (x := lg) (v := .int (Int32.ofInt (lg))) rfl rfl (nlt rfl) rfl (nlt rfl) rfl rfl ((ju_c _ _ (by decide)).trans ((ju_i _ _ (zne (by decide))).trans hlg)) rfl ?_
              refine jr.iconst rfl ?_
              refine jr.iadd rfl ?_
              refine jr.putf (i := 112) (x := (lg + 1)) rfl rfl (nlt rfl) rfl (nlt rfl) rfl rfl rfl rfl rfl ?_
              refine jr.goto rfl rfl ?_
              have y58 : (ju (ju (ju M 598 131 (v31 - r32)) 670 v57 v33) 598 112 (lg + 1)) 598 122 = Fv := ((ju_i _ _ (zne (by decide))).trans ((ju_c _ _ (by decide)).trans ((ju_i _ _ (zne (by decide))).trans hFv)))
              obtain ⟨v59, e59⟩ : ∃ z, M 598 136 = z := ⟨_, rfl⟩
              have b59 : 0 ≤ v59 ∧ v59 ≤ 1 := by rw [← e59]; exact hI_M 598 136 (Nat.le_of_ble_eq_true rfl)
              refine jr.pick (ls := [_, _]) [4, 3] rfl rfl ?_
              exact r_doDeed_L400 q (ju (ju (ju M 598 131 (v31 - r32)) 670 v57 v33) 598 112 (lg + 1)) w (RI.u (RI.u (RI.u hI_M (a := 598) (i := 131) (show (0 : Int) ≤ _ ∧ _ ≤ (400 : Int) from by omega)) (a := 670) (i := v57) (by rw [xri_row rfl rfl]; show (-9223372036854775808 : Int) ≤ _ ∧ _ ≤ (9223372036854775807 : Int); omega)) (a := 598) (i := 112) (show (0 : Int) ≤ _ ∧ _ ≤ (2147483647 : Int) from by omega)) (RH.o (RH.o (RH.o hH_M (by decide) (by decide) (by decide)) (by decide) (by decide) (by decide)) (by decide) (by decide) (by decide)) (RF.o (RF.o (RF.o hS_M (by decide) (by decide)) (by decide) (by decide)) (by decide) (by decide))  (fun a i f598 f602 f603 f604 f605 f624 f670 f671 f672 f673 f674 f675 f676 f677 f678 f679 f680 f681 f682 f683 f684 f685 f686 f687 => ((ju_c _ _ f598).trans ((ju_c _ _ f670).trans ((ju_c _ _ f598).trans rfl)))) (fun i g6 g10 g11 g12 g110 g112 g122 g131 g132 g134 g135 g136 g137 g138 g139 g145 => ((ju_i _ _ g112).trans ((ju_c _ _ (by decide)).trans ((ju_i _ _ g131).trans rfl)))) (by omega) (FRS.fr hFR (fun i => ((ju_c _ _ (by decide)).trans ((ju_c _ _ (by decide)).trans ((ju_c _ _ (by decide)).trans (rfl))))) (fun i => ((ju_c _ _ (by decide)).trans ((ju_c _ _ (by decide)).trans ((ju_c _ _ (by decide)).trans (rfl))))) (fun i => ((ju_c _ _ (by decide)).trans ((ju_c _ _ (by decide)).trans ((ju_c _ _ (by decide)).trans (rfl))))) ((ju_i _ _ (zne (by decide))).trans ((ju_c _ _ (by decide)).trans ((ju_i _ _ (zne (by decide))).trans (rfl)))) (by omega)) (AS.l (AS.o (AS.o hAS (by decide) (Or.inr (by decide))) (by decide) (Or.inl (by decide))) (by omega)) (by rw [((ju_i _ _ (zne (by decide))).trans ((ju_c _ _ (by decide)).trans ((ju_i _ _ (zne (by decide))).trans hFv)))] <;> omega) (phi.fr (M := M) (M' := (ju (ju (ju M 598 131 (v31 - r32)) 670 v57 v33) 598 112 (lg + 1))) ((ju_i _ _ (zne (by decide))).trans ((ju_c _ _ (by decide)).trans ((ju_i _ _ (zne (by decide))).trans (rfl)))) (fun i => ((ju_c _ _ (by decide)).trans ((ju_c _ _ (by decide)).trans ((ju_c _ _ (by decide)).trans (rfl)))))) (by rw [((ju_i _ _ (zne (by decide))).trans ((ju_c _ _ (by decide)).trans ((ju_i _ _ (zne (by decide))).trans hPv)))] <;> omega) (by rw [((ju_i _ _ (zne (by decide))).trans ((ju_c _ _ (by decide)).trans ((ju_i _ _ (zne (by decide))).trans e59)))] <;> omega) (by rw [((ju_i _ _ (zne (by decide))).trans ((ju_c _ _ (by decide)).trans (ju_same _ _ _ _)))] <;> omega) (by omega)
            · refine jr.tsw_k 13 rfl h172 rfl ?_
              refine jr.aload_n rfl rfl ?_
              refine jr.lload rfl rfl ?_
              refine jr.lload rfl rfl ?_
              refine jr_v rfl rfl (Or.inl rfl) rfl rfl (nlt rfl) rfl ⟨rfl, Nat.le_of_ble_eq_true rfl, Nat.le_of_ble_eq_true rfl⟩ rfl (jc.deep (r_learn (RI.u hI_M (a := 598) (i := 131) (show (0 : Int) ≤ _ ∧ _ ≤ (400 : Int) from by omega)) (RH.o hH_M (by decide) (by decide) (by decide)) (RF.o hS_M (by decide) (by decide))  (by omega) (by omega)  (fun M60 hI_M60 hH_M60 hS_M60  w60_0 w60_1 => ?_)) (Nat.le_of_ble_eq_true rfl))
              refine jr.goto rfl rfl ?_
              have e61 : M60 598 122 = Fv := ((w60_1 122 (zne rfl)).trans ((ju_i _ _ (zne (by decide))).trans hFv))
              have e63 : M60 598 132 = Pv := ((w60_1 132 (zne rfl)).trans ((ju_i _ _ (zne (by decide))).trans hPv))
              obtain ⟨v64, e64⟩ : ∃ z, M 598 136 = z := ⟨_, rfl⟩
              have b64 : 0 ≤ v64 ∧ v64 ≤ 1 := by rw [← e64]; exact hI_M 598 136 (Nat.le_of_ble_eq_true rfl)
              have e65 : M60 598 136 = v64 := ((w60_1 136 (zne rfl)).trans ((ju_i _ _ (zne (by decide))).trans e64))
              have e66 : M60 598 131 = v31 - r32 := ((w60_1 131 (zne rfl)).trans (ju_same _ _ _ _))
              refine jr.pick (ls := [_, _]) [4, 3] rfl rfl ?_
              exact r_doDeed_L400 q M60 w hI_M60 hH_M60 hS_M60  (fun a i f598 f602 f603 f604 f605 f624 f670 f671 f672 f673 f674 f675 f676 f677 f678 f679 f680 f681 f682 f683 f684 f685 f686 f687 => ((w60_0 a i f598 f672 f673).trans ((ju_c _ _ f598).trans rfl))) (fun i g6 g10 g11 g12 g110 g112 g122 g131 g132 g134 g135 g136 g137 g138 g139 g145 => ((w60_1 i g135).trans ((ju_i _ _ g131).trans rfl))) (by omega) (FRS.fr hFR (fun i => ((w60_0 679 i (nne rfl) (nne rfl) (nne rfl)).trans ((ju_c _ _ (by decide)).trans (rfl)))) (fun i => ((w60_0 681 i (nne rfl) (nne rfl) (nne rfl)).trans ((ju_c _ _ (by decide)).trans (rfl)))) (fun i => ((w60_0 654 i (nne rfl) (nne rfl) (nne rfl)).trans ((ju_c _ _ (by decide)).trans (rfl)))) ((w60_1 82 (zne rfl)).trans ((ju_i _ _ (zne (by decide))).trans (rfl))) (by omega)) (AS.fr (AS.o hAS (by decide) (Or.inr (by decide))) (fun i => w60_0 685 i (nne rfl) (nne rfl) (nne rfl)) (w60_1 112 (zne rfl))) (by rw [e61] <;> omega) (phi.fr (M := M) (M' := M60) ((w60_1 122 (zne rfl)).trans ((ju_i _ _ (zne (by decide))).trans (rfl))) (fun i => ((w60_0 680 i (nne rfl) (nne rfl) (nne rfl)).trans ((ju_c _ _ (by decide)).trans (rfl))))) (by rw [e63] <;> omega) (by rw [e65] <;> omega) (by rw [e66] <;> omega) (by omega)
            · refine jr.tsw_k 14 rfl h172 rfl ?_
              refine jr.aload_n rfl rfl ?_
              refine jr.lload rfl rfl ?_
              refine jr.lload rfl rfl ?_
              refine jr.lload rfl rfl ?_
              refine jr_v rfl rfl (Or.inl rfl) rfl rfl (nlt rfl) rfl ⟨rfl, Nat.le_of_ble_eq_true rfl, Nat.le_of_ble_eq_true rfl⟩ rfl (jc.deep (r_put (RI.u hI_M (a := 598) (i := 131) (show (0 : Int) ≤ _ ∧ _ ≤ (400 : Int) from by omega)) (RH.o hH_M (by decide) (by decide) (by decide)) (RF.o hS_M (by decide) (by decide))  (by omega) (by omega) (by omega)  (fun M67 hI_M67 hH_M67 hS_M67  w67_0 w67_1 => ?_)) (Nat.le_of_ble_eq_true rfl))
              refine jr.goto rfl rfl ?_
              have e68 : M67 598 122 = Fv := ((w67_1 122 (zne rfl)).trans ((ju_i _ _ (zne (by decide))).trans hFv))
              have e70 : M67 598 132 = Pv := ((w67_1 132 (zne rfl)).trans ((ju_i _ _ (zne (by decide))).trans hPv))
              obtain ⟨v71, e71⟩ : ∃ z, M 598 136 = z := ⟨_, rfl⟩
              have b71 : 0 ≤ v71 ∧ v71 ≤ 1 := by rw [← e71]; exact hI_M 598 136 (Nat.le_of_ble_eq_true rfl)
              have e72 : M67 598 136 = v71 := ((w67_1 136 (zne rfl)).trans ((ju_i _ _ (zne (by decide))).trans e71))
              have e73 : M67 598 131 = v31 - r32 := ((w67_1 131 (zne rfl)).trans (ju_same _ _ _ _))
              refine jr.pick (ls := [_, _]) [4, 3] rfl rfl ?_
              exact r_doDeed_L400 q M67 w hI_M67 hH_M67 hS_M67  (fun a i f598 f602 f603 f604 f605 f624 f670 f671 f672 f673 f674 f675 f676 f677 f678 f679 f680 f681 f682 f683 f684 f685 f686 f687 => ((w67_0 a i f598 f676).trans ((ju_c _ _ f598).trans rfl))) (fun i g6 g10 g11 g12 g110 g112 g122 g131 g132 g134 g135 g136 g137 g138 g139 g145 => ((w67_1 i g135).trans ((ju_i _ _ g131).trans rfl))) (by omega) (FRS.fr hFR (fun i => ((w67_0 679 i (nne rfl) (nne rfl)).trans ((ju_c _ _ (by decide)).trans (rfl)))) (fun i => ((w67_0 681 i (nne rfl) (nne rfl)).trans ((ju_c _ _ (by decide)).trans (rfl)))) (fun i => ((w67_0 654 i (nne rfl) (nne rfl)).trans ((ju_c _ _ (by decide)).trans (rfl)))) ((w67_1 82 (zne rfl)).trans ((ju_i _ _ (zne (by decide))).trans (rfl))) (by omega)) (AS.fr (AS.o hAS (by decide) (Or.inr (by decide))) (fun i => w67_0 685 i (nne rfl) (nne rfl)) (w67_1 112 (zne rfl))) (by rw [e68] <;> omega) (phi.fr (M := M) (M' := M67) ((w67_1 122 (zne rfl)).trans ((ju_i _ _ (zne (by decide))).trans (rfl))) (fun i => ((w67_0 680 i (nne rfl) (nne rfl)).trans ((ju_c _ _ (by decide)).trans (rfl))))) (by rw [e70] <;> omega) (by rw [e72] <;> omega) (by rw [e73] <;> omega) (by omega)
            · refine jr.tsw_k 15 rfl h172 rfl ?_
              refine jr.aload_n rfl rfl ?_
              refine jr.lload rfl rfl ?_
              refine jr.lload rfl rfl ?_
              refine jr.lload rfl rfl ?_
              refine jr.aload_n rfl rfl ?_
              refine jr.getf (i := 130) (v := .ref 686) rfl rfl (nlt rfl) rfl (nlt rfl) rfl rfl rfl rfl ?_
              refine jr.aload_n rfl rfl ?_
              refine jr.getf (i := 131) (x := (v31 - r32)) (v := .int (Int32.ofInt (v31 - r32))) rfl rfl (nlt rfl) rfl (nlt rfl) rfl rfl (ju_same _ _ _ _) rfl ?_
              refine jr.iconst rfl ?_
              refine jr.iadd rfl ?_
              obtain ⟨v74, e74⟩ : ∃ z, M 686 ((v31 - r32) + 3) = z := ⟨_, rfl⟩
              have b74 : (-9223372036854775808) ≤ v74 ∧ v74 ≤ 9223372036854775807 := by rw [← e74]; exact (by have q := hI_M 686 ((v31 - r32) + 3) (by decide); rw [xri_row rfl rfl] at q; exact q)
              refine jr.lald (i := ((v31 - r32) + 3)) (x := v74) rfl (nlt rfl) rfl (Nat.le_of_ble_eq_true rfl) (by omega) (by omega) ((ju_c _ _ (by decide)).trans e74) ?_
              refine jr.aload_n rfl rfl ?_
              refine jr.getf (i := 130) (v := .ref 686) rfl rfl (nlt rfl) rfl (nlt rfl) rfl rfl rfl rfl ?_
              refine jr.aload_n rfl rfl ?_
              refine jr.getf (i := 131) (x := (v31 - r32)) (v := .int (Int32.ofInt (v31 - r32))) rfl rfl (nlt rfl) rfl (nlt rfl) rfl rfl (ju_same _ _ _ _) rfl ?_
              refine jr.iconst rfl ?_
              refine jr.iadd rfl ?_
              obtain ⟨v75, e75⟩ : ∃ z, M 686 ((v31 - r32) + 4) = z := ⟨_, rfl⟩
              have b75 : (-9223372036854775808) ≤ v75 ∧ v75 ≤ 9223372036854775807 := by rw [← e75]; exact (by have q := hI_M 686 ((v31 - r32) + 4) (by decide); rw [xri_row rfl rfl] at q; exact q)
              refine jr.lald (i := ((v31 - r32) + 4)) (x := v75) rfl (nlt rfl) rfl (Nat.le_of_ble_eq_true rfl) (by omega) (by omega) ((ju_c _ _ (by decide)).trans e75) ?_
              refine jr_v rfl rfl (Or.inl rfl) rfl rfl (nlt rfl) rfl ⟨rfl, Nat.le_of_ble_eq_true rfl, Nat.le_of_ble_eq_true rfl⟩ rfl (jc.deep (r_copy (RI.u hI_M (a := 598) (i := 131) (show (0 : Int) ≤ _ ∧ _ ≤ (400 : Int) from by omega)) (RH.o hH_M (by decide) (by decide) (by decide)) (RF.o hS_M (by decide) (by decide))  (by omega) (by omega) (by omega) (by omega) (by omega)  (fun M76 hI_M76 hH_M76 hS_M76  w76_0 w76_1 => ?_)) (Nat.le_of_ble_eq_true rfl))
              refine jr.goto rfl rfl ?_
              have e77 : M76 598 122 = Fv := ((w76_1 122 (zne rfl)).trans ((ju_i _ _ (zne (by decide))).trans hFv))
              have e79 : M76 598 132 = Pv := ((w76_1 132 (zne rfl)).trans ((ju_i _ _ (zne (by decide))).trans hPv))
              obtain ⟨v80, e80⟩ : ∃ z, M 598 136 = z := ⟨_, rfl⟩
              have b80 : 0 ≤ v80 ∧ v80 ≤ 1 := by rw [← e80]; exact hI_M 598 136 (Nat.le_of_ble_eq_true rfl)
              have e81 : M76 598 136 = v80 := ((w76_1 136 (zne rfl)).trans ((ju_i _ _ (zne (by decide))).trans e80))
              have e82 : M76 598 131 = v31 - r32 := ((w76_1 131 (zne rfl)).trans (ju_same _ _ _ _))
              refine jr.pick (ls := [_, _]) [4, 3] rfl rfl ?_
              exact r_doDeed_L400 q M76 w hI_M76 hH_M76 hS_M76  (fun a i f598 f602 f603 f604 f605 f624 f670 f671 f672 f673 f674 f675 f676 f677 f678 f679 f680 f681 f682 f683 f684 f685 f686 f687 => ((w76_0 a i f598 f676 f677 f678).trans ((ju_c _ _ f598).trans rfl))) (fun i g6 g10 g11 g12 g110 g112 g122 g131 g132 g134 g135 g136 g137 g138 g139 g145 => ((w76_1 i g135).trans ((ju_i _ _ g131).trans rfl))) (by omega) (FRS.fr hFR (fun i => ((w76_0 679 i (nne rfl) (nne rfl) (nne rfl) (nne rfl)).trans ((ju_c _ _ (by decide)).trans (rfl)))) (fun i => ((w76_0 681 i (nne rfl) (nne rfl) (nne rfl) (nne rfl)).trans ((ju_c _ _ (by decide)).trans (rfl)))) (fun i => ((w76_0 654 i (nne rfl) (nne rfl) (nne rfl) (nne rfl)).trans ((ju_c _ _ (by decide)).trans (rfl)))) ((w76_1 82 (zne rfl)).trans ((ju_i _ _ (zne (by decide))).trans (rfl))) (by omega)) (AS.fr (AS.o hAS (by decide) (Or.inr (by decide))) (fun i => w76_0 685 i (nne rfl) (nne rfl) (nne rfl) (nne rfl)) (w76_1 112 (zne rfl))) (by rw [e77] <;> omega) (phi.fr (M := M) (M' := M76) ((w76_1 122 (zne rfl)).trans ((ju_i _ _ (zne (by decide))).trans (rfl))) (fun i => ((w76_0 680 i (nne rfl) (nne rfl) (nne rfl) (nne rfl)).trans ((ju_c _ _ (by decide)).trans (rfl))))) (by rw [e79] <;> omega) (by rw [e81] <;> omega) (by rw [e82] <;> omega) (by omega)
            · refine jr.tsw_k 16 rfl h172 rfl ?_
              refine jr.aload_n rfl rfl ?_
              refine jr.lload rfl rfl ?_
              refine jr.lload rfl rfl ?_
              refine jr.lload rfl rfl ?_
              refine jr_v rfl rfl (Or.inl rfl) rfl rfl (nlt rfl) rfl ⟨rfl, Nat.le_of_ble_eq_true rfl, Nat.le_of_ble_eq_true rfl⟩ rfl (jc.deep (r_fresh (RI.u hI_M (a := 598) (i := 131) (show (0 : Int) ≤ _ ∧ _ ≤ (400 : Int) from by omega)) (RH.o hH_M (by decide) (by decide) (by decide)) (RF.o hS_M (by decide) (by decide))  (by omega) (by omega) (by omega)  (fun M83 hI_M83 hH_M83 hS_M83  w83_0 w83_1 => ?_)) (Nat.le_of_ble_eq_true rfl))
              refine jr.goto rfl rfl ?_
              have e84 : M83 598 122 = Fv := ((w83_1 122 (zne rfl) (zne rfl)).trans ((ju_i _ _ (zne (by decide))).trans hFv))
              have e86 : M83 598 132 = Pv := ((w83_1 132 (zne rfl) (zne rfl)).trans ((ju_i _ _ (zne (by decide))).trans hPv))
              obtain ⟨v87, e87⟩ : ∃ z, M 598 136 = z := ⟨_, rfl⟩
              have b87 : 0 ≤ v87 ∧ v87 ≤ 1 := by rw [← e87]; exact hI_M 598 136 (Nat.le_of_ble_eq_true rfl)
              have e88 : M83 598 136 = v87 := ((w83_1 136 (zne rfl) (zne rfl)).trans ((ju_i _ _ (zne (by decide))).trans e87))
              have e89 : M83 598 131 = v31 - r32 := ((w83_1 131 (zne rfl) (zne rfl)).trans (ju_same _ _ _ _))
              refine jr.pick (ls := [_, _]) [4, 3] rfl rfl ?_
              exact r_doDeed_L400 q M83 w hI_M83 hH_M83 hS_M83  (fun a i f598 f602 f603 f604 f605 f624 f670 f671 f672 f673 f674 f675 f676 f677 f678 f679 f680 f681 f682 f683 f684 f685 f686 f687 => ((w83_0 a i f598 f674 f675 f676 f677).trans ((ju_c _ _ f598).trans rfl))) (fun i g6 g10 g11 g12 g110 g112 g122 g131 g132 g134 g135 g136 g137 g138 g139 g145 => ((w83_1 i g110 g135).trans ((ju_i _ _ g131).trans rfl))) (by omega) (FRS.fr hFR (fun i => ((w83_0 679 i (nne rfl) (nne rfl) (nne rfl) (nne rfl) (nne rfl)).trans ((ju_c _ _ (by decide)).trans (rfl)))) (fun i => ((w83_0 681 i (nne rfl) (nne rfl) (nne rfl) (nne rfl) (nne rfl)).trans ((ju_c _ _ (by decide)).trans (rfl)))) (fun i => ((w83_0 654 i (nne rfl) (nne rfl) (nne rfl) (nne rfl) (nne rfl)).trans ((ju_c _ _ (by decide)).trans (rfl)))) ((w83_1 82 (zne rfl) (zne rfl)).trans ((ju_i _ _ (zne (by decide))).trans (rfl))) (by omega)) (AS.fr (AS.o hAS (by decide) (Or.inr (by decide))) (fun i => w83_0 685 i (nne rfl) (nne rfl) (nne rfl) (nne rfl) (nne rfl)) (w83_1 112 (zne rfl) (zne rfl))) (by rw [e84] <;> omega) (phi.fr (M := M) (M' := M83) ((w83_1 122 (zne rfl) (zne rfl)).trans ((ju_i _ _ (zne (by decide))).trans (rfl))) (fun i => ((w83_0 680 i (nne rfl) (nne rfl) (nne rfl) (nne rfl) (nne rfl)).trans ((ju_c _ _ (by decide)).trans (rfl))))) (by rw [e86] <;> omega) (by rw [e88] <;> omega) (by rw [e89] <;> omega) (by omega)
            · refine jr.tsw_k 17 rfl h172 rfl ?_
              refine jr.aload_n rfl rfl ?_
              refine jr.lload rfl rfl ?_
              refine jr_v rfl rfl (Or.inl rfl) rfl rfl (nlt rfl) rfl ⟨rfl, Nat.le_of_ble_eq_true rfl, Nat.le_of_ble_eq_true rfl⟩ rfl (jc.deep (r_list (RI.u hI_M (a := 598) (i := 131) (show (0 : Int) ≤ _ ∧ _ ≤ (400 : Int) from by omega)) (RH.o hH_M (by decide) (by decide) (by decide)) (RF.o hS_M (by decide) (by decide))  (by omega)  (fun M90 hI_M90 hH_M90 hS_M90  w90_0 w90_1 => ?_)) (Nat.le_of_ble_eq_true rfl))
              refine jr.goto rfl rfl ?_
              have e91 : M90 598 122 = Fv := ((w90_1 122 (zne rfl) (zne rfl) (zne rfl) (zne rfl) (zne rfl) (zne rfl)).trans ((ju_i _ _ (zne (by decide))).trans hFv))
              have e93 : M90 598 132 = Pv := ((w90_1 132 (zne rfl) (zne rfl) (zne rfl) (zne rfl) (zne rfl) (zne rfl)).trans ((ju_i _ _ (zne (by decide))).trans hPv))
              obtain ⟨v94, e94⟩ : ∃ z, M 598 136 = z := ⟨_, rfl⟩
              have b94 : 0 ≤ v94 ∧ v94 ≤ 1 := by rw [← e94]; exact hI_M 598 136 (Nat.le_of_ble_eq_true rfl)
              have e95 : M90 598 136 = v94 := ((w90_1 136 (zne rfl) (zne rfl) (zne rfl) (zne rfl) (zne rfl) (zne rfl)).trans ((ju_i _ _ (zne (by decide))).trans e94))
              have e96 : M90 598 131 = v31 - r32 := ((w90_1 131 (zne rfl) (zne rfl) (zne rfl) (zne rfl) (zne rfl) (zne rfl)).trans (ju_same _ _ _ _))
              refine jr.pick (ls := [_, _]) [4, 3] rfl rfl ?_
              exact r_doDeed_L400 q M90 w hI_M90 hH_M90 hS_M90  (fun a i f598 f602 f603 f604 f605 f624 f670 f671 f672 f673 f674 f675 f676 f677 f678 f679 f680 f681 f682 f683 f684 f685 f686 f687 => ((w90_0 a i f598 f603 f604 f605 f674 f675 f677 f678).trans ((ju_c _ _ f598).trans rfl))) (fun i g6 g10 g11 g12 g110 g112 g122 g131 g132 g134 g135 g136 g137 g138 g139 g145 => ((w90_1 i g6 g10 g11 g12 g110 g135).trans ((ju_i _ _ g131).trans rfl))) (by omega) (FRS.fr hFR (fun i => ((w90_0 679 i (nne rfl) (nne rfl) (nne rfl) (nne rfl) (nne rfl) (nne rfl) (nne rfl) (nne rfl)).trans ((ju_c _ _ (by decide)).trans (rfl)))) (fun i => ((w90_0 681 i (nne rfl) (nne rfl) (nne rfl) (nne rfl) (nne rfl) (nne rfl) (nne rfl) (nne rfl)).trans ((ju_c _ _ (by decide)).trans (rfl)))) (fun i => ((w90_0 654 i (nne rfl) (nne rfl) (nne rfl) (nne rfl) (nne rfl) (nne rfl) (nne rfl) (nne rfl)).trans ((ju_c _ _ (by decide)).trans (rfl)))) ((w90_1 82 (zne rfl) (zne rfl) (zne rfl) (zne rfl) (zne rfl) (zne rfl)).trans ((ju_i _ _ (zne (by decide))).trans (rfl))) (by omega)) (AS.fr (AS.o hAS (by decide) (Or.inr (by decide))) (fun i => w90_0 685 i (nne rfl) (nne rfl) (nne rfl) (nne rfl) (nne rfl) (nne rfl) (nne rfl) (nne rfl)) (w90_1 112 (zne rfl) (zne rfl) (zne rfl) (zne rfl) (zne rfl) (zne rfl))) (by rw [e91] <;> omega) (phi.fr (M := M) (M' := M90) ((w90_1 122 (zne rfl) (zne rfl) (zne rfl) (zne rfl) (zne rfl) (zne rfl)).trans ((ju_i _ _ (zne (by decide))).trans (rfl))) (fun i => ((w90_0 680 i (nne rfl) (nne rfl) (nne rfl) (nne rfl) (nne rfl) (nne rfl) (nne rfl) (nne rfl)).trans ((ju_c _ _ (by decide)).trans (rfl))))) (by rw [e93] <;> omega) (by rw [e95] <;> omega) (by rw [e96] <;> omega) (by omega)
            · refine jr.tsw_d rfl (by omega) (by omega) rfl ?_
              refine jr.aload_n rfl rfl ?_
              refine jr.lload rfl rfl ?_
              refine jr.putf (i := 139) (x := v33) rfl rfl (nlt rfl) rfl (nlt rfl) rfl rfl rfl rfl rfl ?_
              refine jr.aload_n rfl rfl ?_
              refine jr.bipush rfl (jbp _ (nlt rfl)) ?_
              refine jr.putf (i := 135) (x := 7) rfl rfl (nlt rfl) rfl (nlt rfl) rfl rfl rfl rfl rfl ?_
              have y97 : (ju (ju (ju M 598 131 (v31 - r32)) 598 139 v33) 598 135 7) 598 122 = Fv := ((ju_i _ _ (zne (by decide))).trans ((ju_i _ _ (zne (by decide))).trans ((ju_i _ _ (zne (by decide))).trans hFv)))
              obtain ⟨v98, e98⟩ : ∃ z, M 598 136 = z := ⟨_, rfl⟩
              have b98 : 0 ≤ v98 ∧ v98 ≤ 1 := by rw [← e98]; exact hI_M 598 136 (Nat.le_of_ble_eq_true rfl)
              refine jr.pick (ls := [_, _]) [4, 3] rfl rfl ?_
              exact r_doDeed_L400 q (ju (ju (ju M 598 131 (v31 - r32)) 598 139 v33) 598 135 7) w (RI.u (RI.u (RI.u hI_M (a := 598) (i := 131) (show (0 : Int) ≤ _ ∧ _ ≤ (400 : Int) from by omega)) (a := 598) (i := 139) (show (-9223372036854775808 : Int) ≤ _ ∧ _ ≤ (9223372036854775807 : Int) from by omega)) (a := 598) (i := 135) (show (0 : Int) ≤ _ ∧ _ ≤ (8 : Int) from by omega)) (RH.o (RH.o (RH.o hH_M (by decide) (by decide) (by decide)) (by decide) (by decide) (by decide)) (by decide) (by decide) (by decide)) (RF.o (RF.o (RF.o hS_M (by decide) (by decide)) (by decide) (by decide)) (by decide) (by decide))  (fun a i f598 f602 f603 f604 f605 f624 f670 f671 f672 f673 f674 f675 f676 f677 f678 f679 f680 f681 f682 f683 f684 f685 f686 f687 => ((ju_c _ _ f598).trans ((ju_c _ _ f598).trans ((ju_c _ _ f598).trans rfl)))) (fun i g6 g10 g11 g12 g110 g112 g122 g131 g132 g134 g135 g136 g137 g138 g139 g145 => ((ju_i _ _ g135).trans ((ju_i _ _ g139).trans ((ju_i _ _ g131).trans rfl)))) (by omega) (FRS.fr hFR (fun i => ((ju_c _ _ (by decide)).trans ((ju_c _ _ (by decide)).trans ((ju_c _ _ (by decide)).trans (rfl))))) (fun i => ((ju_c _ _ (by decide)).trans ((ju_c _ _ (by decide)).trans ((ju_c _ _ (by decide)).trans (rfl))))) (fun i => ((ju_c _ _ (by decide)).trans ((ju_c _ _ (by decide)).trans ((ju_c _ _ (by decide)).trans (rfl))))) ((ju_i _ _ (zne (by decide))).trans ((ju_i _ _ (zne (by decide))).trans ((ju_i _ _ (zne (by decide))).trans (rfl)))) (by omega)) (AS.o (AS.o (AS.o hAS (by decide) (Or.inr (by decide))) (by decide) (Or.inr (by decide))) (by decide) (Or.inr (by decide))) (by rw [((ju_i _ _ (zne (by decide))).trans ((ju_i _ _ (zne (by decide))).trans ((ju_i _ _ (zne (by decide))).trans hFv)))] <;> omega) (phi.fr (M := M) (M' := (ju (ju (ju M 598 131 (v31 - r32)) 598 139 v33) 598 135 7)) ((ju_i _ _ (zne (by decide))).trans ((ju_i _ _ (zne (by decide))).trans ((ju_i _ _ (zne (by decide))).trans (rfl)))) (fun i => ((ju_c _ _ (by decide)).trans ((ju_c _ _ (by decide)).trans ((ju_c _ _ (by decide)).trans (rfl)))))) (by rw [((ju_i _ _ (zne (by decide))).trans ((ju_i _ _ (zne (by decide))).trans ((ju_i _ _ (zne (by decide))).trans hPv)))] <;> omega) (by rw [((ju_i _ _ (zne (by decide))).trans ((ju_i _ _ (zne (by decide))).trans ((ju_i _ _ (zne (by decide))).trans e98)))] <;> omega) (by rw [((ju_i _ _ (zne (by decide))).trans ((ju_i _ _ (zne (by decide))).trans (ju_same _ _ _ _)))] <;> omega) (by omega)
          · refine jr.iconst rfl ?_
            refine jr.goto rfl rfl ?_
            refine jr.isub rfl ?_
            refine jr.putf (i := 131) (x := (v31 - 1)) rfl rfl (nlt rfl) rfl (nlt rfl) rfl rfl rfl rfl rfl ?_
            refine jr.aload_n rfl rfl ?_
            refine jr.getf (i := 130) (v := .ref 686) rfl rfl (nlt rfl) rfl (nlt rfl) rfl rfl rfl rfl ?_
            refine jr.aload_n rfl rfl ?_
            refine jr.getf (i := 131) (x := (v31 - 1)) (v := .int (Int32.ofInt (v31 - 1))) rfl rfl (nlt rfl) rfl (nlt rfl) rfl rfl (ju_same _ _ _ _) rfl ?_
            obtain ⟨v99, e99⟩ : ∃ z, M 686 (v31 - 1) = z := ⟨_, rfl⟩
            have b99 : (-9223372036854775808) ≤ v99 ∧ v99 ≤ 9223372036854775807 := by rw [← e99]; exact (by have q := hI_M 686 (v31 - 1) (Nat.le_of_ble_eq_true rfl); rw [xri_row rfl rfl] at q; exact q)
            refine jr.lald (i := (v31 - 1)) (x := v99) rfl (nlt rfl) rfl (Nat.le_of_ble_eq_true rfl) (by omega) (by omega) ((ju_c _ _ (by decide)).trans e99) ?_
            refine jr.lstore (ls' := [_, _, _, _]) rfl (nlt rfl) rfl ?_
            refine jr.aload_n rfl rfl ?_
            refine jr.getf (i := 130) (v := .ref 686) rfl rfl (nlt rfl) rfl (nlt rfl) rfl rfl rfl rfl ?_
            refine jr.aload_n rfl rfl ?_
            refine jr.getf (i := 131) (x := (v31 - 1)) (v := .int (Int32.ofInt (v31 - 1))) rfl rfl (nlt rfl) rfl (nlt rfl) rfl rfl (ju_same _ _ _ _) rfl ?_
            refine jr.iconst rfl ?_
            refine jr.iadd rfl ?_
            obtain ⟨v100, e100⟩ : ∃ z, M 686 ((v31 - 1) + 1) = z := ⟨_, rfl⟩
            have b100 : (-9223372036854775808) ≤ v100 ∧ v100 ≤ 9223372036854775807 := by rw [← e100]; exact (by have q := hI_M 686 ((v31 - 1) + 1) (by decide); rw [xri_row rfl rfl] at q; exact q)
            refine jr.lald (i := ((v31 - 1) + 1)) (x := v100) rfl (nlt rfl) rfl (Nat.le_of_ble_eq_true rfl) (by omega) (by omega) ((ju_c _ _ (by decide)).trans e100) ?_
            refine jr.lstore (ls' := [_, _, _, _, _]) rfl (nlt rfl) rfl ?_
            refine jr.aload_n rfl rfl ?_
            refine jr.getf (i := 130) (v := .ref 686) rfl rfl (nlt rfl) rfl (nlt rfl) rfl rfl rfl rfl ?_
            refine jr.aload_n rfl rfl ?_
            refine jr.getf (i := 131) (x := (v31 - 1)) (v := .int (Int32.ofInt (v31 - 1))) rfl rfl (nlt rfl) rfl (nlt rfl) rfl rfl (ju_same _ _ _ _) rfl ?_
            refine jr.iconst rfl ?_
            refine jr.iadd rfl ?_
            obtain ⟨v101, e101⟩ : ∃ z, M 686 ((v31 - 1) + 2) = z := ⟨_, rfl⟩
            have b101 : (-9223372036854775808) ≤ v101 ∧ v101 ≤ 9223372036854775807 := by rw [← e101]; exact (by have q := hI_M 686 ((v31 - 1) + 2) (by decide); rw [xri_row rfl rfl] at q; exact q)
            refine jr.lald (i := ((v31 - 1) + 2)) (x := v101) rfl (nlt rfl) rfl (Nat.le_of_ble_eq_true rfl) (by omega) (by omega) ((ju_c _ _ (by decide)).trans e101) ?_
            refine jr.lstore (ls' := [_, _, _, _, _, _]) rfl (nlt rfl) rfl ?_
            refine jr.iload_n rfl rfl ?_
            rcases (show w = 17 by omega) with h172
            · refine jr.tsw_k 17 rfl h172 rfl ?_
              refine jr.aload_n rfl rfl ?_
              refine jr.lload rfl rfl ?_
              refine jr_v rfl rfl (Or.inl rfl) rfl rfl (nlt rfl) rfl ⟨rfl, Nat.le_of_ble_eq_true rfl, Nat.le_of_ble_eq_true rfl⟩ rfl (jc.deep (r_list (RI.u hI_M (a := 598) (i := 131) (show (0 : Int) ≤ _ ∧ _ ≤ (400 : Int) from by omega)) (RH.o hH_M (by decide) (by decide) (by decide)) (RF.o hS_M (by decide) (by decide))  (by omega)  (fun M102 hI_M102 hH_M102 hS_M102  w102_0 w102_1 => ?_)) (Nat.le_of_ble_eq_true rfl))
              refine jr.goto rfl rfl ?_
              have e103 : M102 598 122 = Fv := ((w102_1 122 (zne rfl) (zne rfl) (zne rfl) (zne rfl) (zne rfl) (zne rfl)).trans ((ju_i _ _ (zne (by decide))).trans hFv))
              have e105 : M102 598 132 = Pv := ((w102_1 132 (zne rfl) (zne rfl) (zne rfl) (zne rfl) (zne rfl) (zne rfl)).trans ((ju_i _ _ (zne (by decide))).trans hPv))
              obtain ⟨v106, e106⟩ : ∃ z, M 598 136 = z := ⟨_, rfl⟩
              have b106 : 0 ≤ v106 ∧ v106 ≤ 1 := by rw [← e106]; exact hI_M 598 136 (Nat.le_of_ble_eq_true rfl)
              have e107 : M102 598 136 = v106 := ((w102_1 136 (zne rfl) (zne rfl) (zne rfl) (zne rfl) (zne rfl) (zne rfl)).trans ((ju_i _ _ (zne (by decide))).trans e106))
              have e108 : M102 598 131 = v31 - 1 := ((w102_1 131 (zne rfl) (zne rfl) (zne rfl) (zne rfl) (zne rfl) (zne rfl)).trans (ju_same _ _ _ _))
              refine jr.pick (ls := [_, _]) [4, 3] rfl rfl ?_
              exact r_doDeed_L400 q M102 w hI_M102 hH_M102 hS_M102  (fun a i f598 f602 f603 f604 f605 f624 f670 f671 f672 f673 f674 f675 f676 f677 f678 f679 f680 f681 f682 f683 f684 f685 f686 f687 => ((w102_0 a i f598 f603 f604 f605 f674 f675 f677 f678).trans ((ju_c _ _ f598).trans rfl))) (fun i g6 g10 g11 g12 g110 g112 g122 g131 g132 g134 g135 g136 g137 g138 g139 g145 => ((w102_1 i g6 g10 g11 g12 g110 g135).trans ((ju_i _ _ g131).trans rfl))) (by omega) (FRS.fr hFR (fun i => ((w102_0 679 i (nne rfl) (nne rfl) (nne rfl) (nne rfl) (nne rfl) (nne rfl) (nne rfl) (nne rfl)).trans ((ju_c _ _ (by decide)).trans (rfl)))) (fun i => ((w102_0 681 i (nne rfl) (nne rfl) (nne rfl) (nne rfl) (nne rfl) (nne rfl) (nne rfl) (nne rfl)).trans ((ju_c _ _ (by decide)).trans (rfl)))) (fun i => ((w102_0 654 i (nne rfl) (nne rfl) (nne rfl) (nne rfl) (nne rfl) (nne rfl) (nne rfl) (nne rfl)).trans ((ju_c _ _ (by decide)).trans (rfl)))) ((w102_1 82 (zne rfl) (zne rfl) (zne rfl) (zne rfl) (zne rfl) (zne rfl)).trans ((ju_i _ _ (zne (by decide))).trans (rfl))) (by omega)) (AS.fr (AS.o hAS (by decide) (Or.inr (by decide))) (fun i => w102_0 685 i (nne rfl) (nne rfl) (nne rfl) (nne rfl) (nne rfl) (nne rfl) (nne rfl) (nne rfl)) (w102_1 112 (zne rfl) (zne rfl) (zne rfl) (zne rfl) (zne rfl) (zne rfl))) (by rw [e103] <;> omega) (phi.fr (M := M) (M' := M102) ((w102_1 122 (zne rfl) (zne rfl) (zne rfl) (zne rfl) (zne rfl) (zne rfl)).trans ((ju_i _ _ (zne (by decide))).trans (rfl))) (fun i => ((w102_0 680 i (nne rfl) (nne rfl) (nne rfl) (nne rfl) (nne rfl) (nne rfl) (nne rfl) (nne rfl)).trans ((ju_c _ _ (by decide)).trans (rfl))))) (by rw [e105] <;> omega) (by rw [e107] <;> omega) (by rw [e108] <;> omega) (by omega)
        · refine jr.aload_n rfl rfl ?_
          refine jr.getf (i := 122) (x := Fv) (v := .int (Int32.ofInt (Fv))) rfl rfl (nlt rfl) rfl (nlt rfl) rfl rfl hFv rfl ?_
          refine jr.bipush rfl (jbp _ (nlt rfl)) ?_
          refine jr.icmp_ne rfl rfl (by first | (refine rgb (by assumption) ?_; exact rfl) | omega) (rgl rfl) (fun h58 => ?_) (fun h58 => ?_)
          · refine jr.aload_n rfl rfl ?_
            refine jr.iload_n rfl rfl ?_
            refine jr.bipush rfl (jbp _ (nlt rfl)) ?_
            refine jr.icmp_ne rfl rfl (by first | (refine rgb (by assumption) ?_; exact rfl) | omega) (rgl rfl) (fun h72 => ?_) (fun h72 => ?_)
            · refine jr.iconst rfl ?_
              refine jr_v rfl rfl (Or.inl rfl) rfl rfl (nlt rfl) rfl ⟨rfl, Nat.le_of_ble_eq_true rfl, Nat.le_of_ble_eq_true rfl⟩ rfl (jc.deep (r_noteWhy hI_M hH_M hS_M  (by omega) (by rw [hFv]; omega) (fun M109 hI_M109 hH_M109 hS_M109  w109_0 w109_1 => ?_)) (Nat.le_of_ble_eq_true rfl))
              refine jr.aload_n rfl rfl ?_
              refine jr.dup rfl rfl ?_
              have e110 : M109 598 132 = Pv := ((w109_1 132 (zne rfl)).trans hPv)
              refine jr.getf (i := 132) (x := Pv) (v := .int (Int32.ofInt (Pv))) rfl rfl (nlt rfl) rfl (nlt rfl) rfl rfl e110 rfl ?_
              refine jr.iconst rfl ?_
              refine jr.iadd rfl ?_
              refine jr.putf (i := 132) (x := (Pv + 1)) rfl rfl (nlt rfl) rfl (nlt rfl) rfl rfl rfl rfl rfl ?_
              refine jr.aload_n rfl rfl ?_
              refine jr.lload_n rfl rfl ?_
              refine jr.l2i rfl ?_
              refine jr.iload_n rfl rfl ?_
              refine jr.bipush rfl (jbp _ (nlt rfl)) ?_
              refine jr.icmp_ne rfl rfl (by first | (refine rgb (by assumption) ?_; exact rfl) | omega) (rgl rfl) (fun h99 => ?_) (fun h99 => ?_)
              · exact absurd h99 (by omega)
              · refine jr.iconst rfl ?_
                refine jr.goto rfl rfl ?_
                have e112 : M109 598 122 = Fv := ((w109_1 122 (zne rfl)).trans hFv)
                refine jr_v rfl rfl (Or.inl rfl) rfl rfl (nlt rfl) rfl ⟨rfl, Nat.le_of_ble_eq_true rfl, Nat.le_of_ble_eq_true rfl⟩ rfl (jc.deep (r_enter (RI.u hI_M109 (a := 598) (i := 132) (show (0 : Int) ≤ _ ∧ _ ≤ (2200 : Int) from by omega)) (RH.o hH_M109 (by decide) (by decide) (by decide)) (RF.o hS_M109 (by decide) (by decide))  (by omega) (by omega) (by rw [((ju_i _ _ (zne (by decide))).trans e112)]; omega) (AS.o (AS.fr hAS (fun i => w109_0 685 i (nne rfl) (nne rfl)) (w109_1 112 (zne rfl))) (by decide) (Or.inr (by decide))) (by omega) (fun M111 hI_M111 hH_M111 hS_M111  w111_0 w111_1 w111_2 w111_3 w111_4 w111_5 w111_6 => ?_)) (Nat.le_of_ble_eq_true rfl))
                obtain ⟨v113, e113⟩ : ∃ z, M111 598 122 = z := ⟨_, rfl⟩
                have b113 : 0 ≤ v113 ∧ v113 ≤ 9 := by rw [← e113]; exact hI_M111 598 122 (Nat.le_of_ble_eq_true rfl)
                obtain ⟨v115, e115⟩ : ∃ z, M 598 131 = z := ⟨_, rfl⟩
                have b115 : 0 ≤ v115 ∧ v115 ≤ 400 := by rw [← e115]; exact hI_M 598 131 (Nat.le_of_ble_eq_true rfl)
                have e116 : M109 598 131 = v115 := ((w109_1 131 (zne rfl)).trans e115)
                have e117 : M111 598 131 = v115 := ((w111_6 131 (zne rfl) (zne rfl)).trans ((ju_i _ _ (zne (by decide))).trans e116))
                obtain ⟨v119, e119⟩ : ∃ z, M111 598 132 = z := ⟨_, rfl⟩
                have b119 : 0 ≤ v119 ∧ v119 ≤ 2200 := by rw [← e119]; exact hI_M111 598 132 (Nat.le_of_ble_eq_true rfl)
                obtain ⟨v121, e121⟩ : ∃ z, M 598 135 = z := ⟨_, rfl⟩
                have b121 : 0 ≤ v121 ∧ v121 ≤ 8 := by rw [← e121]; exact hI_M 598 135 (Nat.le_of_ble_eq_true rfl)
                have e122 : M109 598 135 = v121 := ((w109_1 135 (zne rfl)).trans e121)
                have e123 : M111 598 135 = v121 := ((w111_6 135 (zne rfl) (zne rfl)).trans ((ju_i _ _ (zne (by decide))).trans e122))
                obtain ⟨v125, e125⟩ : ∃ z, M 598 136 = z := ⟨_, rfl⟩
                have b125 : 0 ≤ v125 ∧ v125 ≤ 1 := by rw [← e125]; exact hI_M 598 136 (Nat.le_of_ble_eq_true rfl)
                have e126 : M109 598 136 = v125 := ((w109_1 136 (zne rfl)).trans e125)
                have e127 : M111 598 136 = v125 := ((w111_6 136 (zne rfl) (zne rfl)).trans ((ju_i _ _ (zne (by decide))).trans e126))
                have y129 : (ju M109 598 132 (Pv + 1)) 598 122 = Fv := ((ju_i _ _ (zne (by decide))).trans e112)
                have y130 : (ju M109 598 132 (Pv + 1)) 598 132 = Pv + 1 := (ju_same _ _ _ _)
                have zp := (phi.le M111).2
                have zq := (phi.le M).1
                have hent := FRS.ent (M' := M111) (c := a) (b := Pv + 1) hFR (fun i => (w111_5 654 i (nne rfl) (nne rfl) (nne rfl) (nne rfl) (nne rfl) (nne rfl)).trans ((fun i => ((ju_c _ _ (by decide)).trans ((w109_0 654 i (nne rfl) (nne rfl)).trans (rfl)))) i)) ((w111_6 82 (zne rfl) (zne rfl)).trans ((ju_i _ _ (zne (by decide))).trans ((w109_1 82 (zne rfl)).trans (rfl)))) hFv (fun j hj => ⟨(w111_3 j (by rw [((ju_i _ _ (zne (by decide))).trans e112)]; exact hj)).1.trans ((fun i => ((ju_c _ _ (by decide)).trans ((w109_0 679 i (nne rfl) (nne rfl)).trans (rfl)))) j), (w111_3 j (by rw [((ju_i _ _ (zne (by decide))).trans e112)]; exact hj)).2.trans ((fun i => ((ju_c _ _ (by decide)).trans ((w109_0 681 i (nne rfl) (nne rfl)).trans (rfl)))) j)⟩) (by have q := w111_4.1; rw [((ju_i _ _ (zne (by decide))).trans e112)] at q; exact q) (by have q := w111_4.2.2; rw [((ju_i _ _ (zne (by decide))).trans e112), (ju_same _ _ _ _)] at q; exact q) (by omega) (fun _ => p7 (by omega))
                exact jr.vreturn rfl rfl (q _ hI_M111 hH_M111 hS_M111  w111_0 (Or.inr ⟨by omega, (by rw [w111_1, ((ju_i _ _ (zne (by decide))).trans e112)]; exact hent), by omega, by omega, Or.inr ⟨by omega, Or.inr (Or.inl ⟨by omega, (by rw [show M111 654 = M 654 from funext (fun i => (w111_5 654 i (nne rfl) (nne rfl) (nne rfl) (nne rfl) (nne rfl) (nne rfl)).trans ((fun i => ((ju_c _ _ (by decide)).trans ((w109_0 654 i (nne rfl) (nne rfl)).trans (rfl)))) i)), w111_2, show (ju M109 598 132 (Pv + 1)) 652 a = M 652 a from (fun i => ((ju_c _ _ (by decide)).trans ((w109_0 652 i (nne rfl) (nne rfl)).trans (rfl)))) a]; exact MX.re hMX (hMX.2.2.2.1 a (by omega) (by omega)).1), by omega, by omega⟩)⟩⟩) (fun a i f598 f602 f603 f604 f605 f624 f670 f671 f672 f673 f674 f675 f676 f677 f678 f679 f680 f681 f682 f683 f684 f685 f686 f687 => ((w111_5 a i f598 f679 f680 f681 f682 f685).trans ((ju_c _ _ f598).trans ((w109_0 a i f598 f687).trans rfl)))) (fun i g6 g10 g11 g12 g110 g112 g122 g131 g132 g134 g135 g136 g137 g138 g139 g145 => ((w111_6 i g122 g132).trans ((ju_i _ _ g132).trans ((w109_1 i g145).trans rfl)))))
            · exact absurd (by omega) h72
          · refine jr.aload_n rfl rfl ?_
            refine jr.bipush rfl (jbp _ (nlt rfl)) ?_
            refine jr.putf (i := 135) (x := 8) rfl rfl (nlt rfl) rfl (nlt rfl) rfl rfl rfl rfl rfl ?_
            have y131 : (ju M 598 135 8) 598 122 = Fv := ((ju_i _ _ (zne (by decide))).trans hFv)
            obtain ⟨v132, e132⟩ : ∃ z, M 598 131 = z := ⟨_, rfl⟩
            have b132 : 0 ≤ v132 ∧ v132 ≤ 400 := by rw [← e132]; exact hI_M 598 131 (Nat.le_of_ble_eq_true rfl)
            have y133 : (ju M 598 135 8) 598 131 = v132 := ((ju_i _ _ (zne (by decide))).trans e132)
            have y134 : (ju M 598 135 8) 598 132 = Pv := ((ju_i _ _ (zne (by decide))).trans hPv)
            have y135 : (ju M 598 135 8) 598 135 = 8 := (ju_same _ _ _ _)
            obtain ⟨v136, e136⟩ : ∃ z, M 598 136 = z := ⟨_, rfl⟩
            have b136 : 0 ≤ v136 ∧ v136 ≤ 1 := by rw [← e136]; exact hI_M 598 136 (Nat.le_of_ble_eq_true rfl)
            have y137 : (ju M 598 135 8) 598 136 = v136 := ((ju_i _ _ (zne (by decide))).trans e136)
            obtain ⟨v138, e138⟩ : ∃ z, M 598 135 = z := ⟨_, rfl⟩
            have b138 : 0 ≤ v138 ∧ v138 ≤ 8 := by rw [← e138]; exact hI_M 598 135 (Nat.le_of_ble_eq_true rfl)
            exact jr.vreturn rfl rfl (q _ (RI.u hI_M (a := 598) (i := 135) (show (0 : Int) ≤ _ ∧ _ ≤ (8 : Int) from by omega)) (RH.o hH_M (by decide) (by decide) (by decide)) (RF.o hS_M (by decide) (by decide))  (AS.o hAS (by decide) (Or.inr (by decide))) (Or.inr ⟨by omega, (FRS.fr hFR (fun i => ((ju_c _ _ (by decide)).trans (rfl))) (fun i => ((ju_c _ _ (by decide)).trans (rfl))) (fun i => ((ju_c _ _ (by decide)).trans (rfl))) ((ju_i _ _ (zne (by decide))).trans (rfl)) (by omega)), by omega, by omega, Or.inl ⟨by omega, (phi.fr (M := M) (M' := (ju M 598 135 8)) ((ju_i _ _ (zne (by decide))).trans (rfl)) (fun i => ((ju_c _ _ (by decide)).trans (rfl)))), by omega⟩⟩) (fun a i f598 f602 f603 f604 f605 f624 f670 f671 f672 f673 f674 f675 f676 f677 f678 f679 f680 f681 f682 f683 f684 f685 f686 f687 => ((ju_c _ _ f598).trans rfl)) (fun i g6 g10 g11 g12 g110 g112 g122 g131 g132 g134 g135 g136 g137 g138 g139 g145 => ((ju_i _ _ g135).trans rfl)))
    · refine jr.aload_n rfl rfl ?_
      refine jr.iconst rfl ?_
      refine jr_v rfl rfl (Or.inl rfl) rfl rfl (nlt rfl) rfl ⟨rfl, Nat.le_of_ble_eq_true rfl, Nat.le_of_ble_eq_true rfl⟩ rfl (jc.deep (r_noteWhy hI_M hH_M hS_M  (by omega) (by rw [hFv]; omega) (fun M139 hI_M139 hH_M139 hS_M139  w139_0 w139_1 => ?_)) (Nat.le_of_ble_eq_true rfl))
      refine jr.aload_n rfl rfl ?_
      refine jr.iconst rfl ?_
      refine jr.iconst rfl ?_
      have e141 : M139 598 122 = Fv := ((w139_1 122 (zne rfl)).trans hFv)
      refine jr_v rfl rfl (Or.inl rfl) rfl rfl (nlt rfl) rfl ⟨rfl, Nat.le_of_ble_eq_true rfl, Nat.le_of_ble_eq_true rfl⟩ rfl (jc.deep (r_leave hI_M139 hH_M139 hS_M139  (by omega) (by omega) (MX.fr hMX (fun i => w139_0 652 i (nne rfl) (nne rfl)) (fun i => w139_0 653 i (nne rfl) (nne rfl)) (fun i => w139_0 654 i (nne rfl) (nne rfl)) (fun i => w139_0 655 i (nne rfl) (nne rfl)) (w139_1 82 (zne rfl))) (FRS.fr hFR (fun i => ((w139_0 679 i (nne rfl) (nne rfl)).trans (rfl))) (fun i => ((w139_0 681 i (nne rfl) (nne rfl)).trans (rfl))) (fun i => ((w139_0 654 i (nne rfl) (nne rfl)).trans (rfl))) ((w139_1 82 (zne rfl)).trans (rfl)) (by omega)) (by rw [e141]; omega) (AS.fr hAS (fun i => w139_0 685 i (nne rfl) (nne rfl)) (w139_1 112 (zne rfl))) (by omega) (fun M140 hI_M140 hH_M140 hS_M140  w140_0 w140_1 w140_2 w140_3 => ?_)) (Nat.le_of_ble_eq_true rfl))
      obtain ⟨v143, e143⟩ : ∃ z, M140 598 122 = z := ⟨_, rfl⟩
      have b143 : 0 ≤ v143 ∧ v143 ≤ 9 := by rw [← e143]; exact hI_M140 598 122 (Nat.le_of_ble_eq_true rfl)
      obtain ⟨v145, e145⟩ : ∃ z, M 598 131 = z := ⟨_, rfl⟩
      have b145 : 0 ≤ v145 ∧ v145 ≤ 400 := by rw [← e145]; exact hI_M 598 131 (Nat.le_of_ble_eq_true rfl)
      have e146 : M139 598 131 = v145 := ((w139_1 131 (zne rfl)).trans e145)
      have e147 : M140 598 131 = v145 := ((w140_3 131 (zne rfl) (zne rfl) (zne rfl) (zne rfl) (zne rfl) (zne rfl) (zne rfl)).trans e146)
      obtain ⟨v149, e149⟩ : ∃ z, M140 598 132 = z := ⟨_, rfl⟩
      have b149 : 0 ≤ v149 ∧ v149 ≤ 2200 := by rw [← e149]; exact hI_M140 598 132 (Nat.le_of_ble_eq_true rfl)
      obtain ⟨v151, e151⟩ : ∃ z, M 598 135 = z := ⟨_, rfl⟩
      have b151 : 0 ≤ v151 ∧ v151 ≤ 8 := by rw [← e151]; exact hI_M 598 135 (Nat.le_of_ble_eq_true rfl)
      have e152 : M139 598 135 = v151 := ((w139_1 135 (zne rfl)).trans e151)
      have e153 : M140 598 135 = v151 := ((w140_3 135 (zne rfl) (zne rfl) (zne rfl) (zne rfl) (zne rfl) (zne rfl) (zne rfl)).trans e152)
      obtain ⟨v155, e155⟩ : ∃ z, M140 598 136 = z := ⟨_, rfl⟩
      have b155 : 0 ≤ v155 ∧ v155 ≤ 1 := by rw [← e155]; exact hI_M140 598 136 (Nat.le_of_ble_eq_true rfl)
      obtain ⟨v157, e157⟩ : ∃ z, M 598 136 = z := ⟨_, rfl⟩
      have b157 : 0 ≤ v157 ∧ v157 ≤ 1 := by rw [← e157]; exact hI_M 598 136 (Nat.le_of_ble_eq_true rfl)
      have e159 : M139 598 136 = v157 := ((w139_1 136 (zne rfl)).trans e157)
      exact jr.vreturn rfl rfl (q _ hI_M140 hH_M140 hS_M140  w140_0 (by rcases w140_1 with z | ⟨y1, y2, y3, y4, y5, y6⟩; (exact Or.inl ⟨z, by omega⟩); (have z1 := phi.fr (M := M) (M' := M139) ((w139_1 122 (zne rfl)).trans (rfl)) (fun i => ((w139_0 680 i (nne rfl) (nne rfl)).trans (rfl))); exact Or.inr ⟨by omega, y2, y3, y4, Or.inr ⟨by omega, Or.inl ⟨by omega, y5, by omega, by omega⟩⟩⟩)) (fun a i f598 f602 f603 f604 f605 f624 f670 f671 f672 f673 f674 f675 f676 f677 f678 f679 f680 f681 f682 f683 f684 f685 f686 f687 => ((w140_2 a i f598 f602 f624 f670 f671 f672 f673 f680 f683 f684).trans ((w139_0 a i f598 f687).trans rfl))) (fun i g6 g10 g11 g12 g110 g112 g122 g131 g132 g134 g135 g136 g137 g138 g139 g145 => ((w140_3 i g112 g122 g132 g134 g136 g137 g138).trans ((w139_1 i g145).trans rfl))))
  · refine jr.aload_n rfl rfl ?_
    refine jr.iload_n rfl rfl ?_
    refine jr.iconst rfl ?_
    refine jr.isub rfl ?_
    refine jr_v rfl rfl (Or.inl rfl) rfl rfl (nlt rfl) rfl ⟨rfl, Nat.le_of_ble_eq_true rfl, Nat.le_of_ble_eq_true rfl⟩ rfl (jc.deep (r_noteWhy hI_M hH_M hS_M  (by omega) (by rw [hFv]; omega) (fun M161 hI_M161 hH_M161 hS_M161  w161_0 w161_1 => ?_)) (Nat.le_of_ble_eq_true rfl))
    refine jr.aload_n rfl rfl ?_
    refine jr.iconst rfl ?_
    refine jr.iload_n rfl rfl ?_
    refine jr.iconst rfl ?_
    refine jr.isub rfl ?_
    have e163 : M161 598 122 = Fv := ((w161_1 122 (zne rfl)).trans hFv)
    refine jr_v rfl rfl (Or.inl rfl) rfl rfl (nlt rfl) rfl ⟨rfl, Nat.le_of_ble_eq_true rfl, Nat.le_of_ble_eq_true rfl⟩ rfl (jc.deep (r_leave hI_M161 hH_M161 hS_M161  (by omega) (by omega) (MX.fr hMX (fun i => w161_0 652 i (nne rfl) (nne rfl)) (fun i => w161_0 653 i (nne rfl) (nne rfl)) (fun i => w161_0 654 i (nne rfl) (nne rfl)) (fun i => w161_0 655 i (nne rfl) (nne rfl)) (w161_1 82 (zne rfl))) (FRS.fr hFR (fun i => ((w161_0 679 i (nne rfl) (nne rfl)).trans (rfl))) (fun i => ((w161_0 681 i (nne rfl) (nne rfl)).trans (rfl))) (fun i => ((w161_0 654 i (nne rfl) (nne rfl)).trans (rfl))) ((w161_1 82 (zne rfl)).trans (rfl)) (by omega)) (by rw [e163]; omega) (AS.fr hAS (fun i => w161_0 685 i (nne rfl) (nne rfl)) (w161_1 112 (zne rfl))) (by omega) (fun M162 hI_M162 hH_M162 hS_M162  w162_0 w162_1 w162_2 w162_3 => ?_)) (Nat.le_of_ble_eq_true rfl))
    obtain ⟨v165, e165⟩ : ∃ z, M162 598 122 = z := ⟨_, rfl⟩
    have b165 : 0 ≤ v165 ∧ v165 ≤ 9 := by rw [← e165]; exact hI_M162 598 122 (Nat.le_of_ble_eq_true rfl)
    obtain ⟨v167, e167⟩ : ∃ z, M 598 131 = z := ⟨_, rfl⟩
    have b167 : 0 ≤ v167 ∧ v167 ≤ 400 := by rw [← e167]; exact hI_M 598 131 (Nat.le_of_ble_eq_true rfl)
    have e168 : M161 598 131 = v167 := ((w161_1 131 (zne rfl)).trans e167)
    have e169 : M162 598 131 = v167 := ((w162_3 131 (zne rfl) (zne rfl) (zne rfl) (zne rfl) (zne rfl) (zne rfl) (zne rfl)).trans e168)
    obtain ⟨v171, e171⟩ : ∃ z, M162 598 132 = z := ⟨_, rfl⟩
    have b171 : 0 ≤ v171 ∧ v171 ≤ 2200 := by rw [← e171]; exact hI_M162 598 132 (Nat.le_of_ble_eq_true rfl)
    obtain ⟨v173, e173⟩ : ∃ z, M 598 135 = z := ⟨_, rfl⟩
    have b173 : 0 ≤ v173 ∧ v173 ≤ 8 := by rw [← e173]; exact hI_M 598 135 (Nat.le_of_ble_eq_true rfl)
    have e174 : M161 598 135 = v173 := ((w161_1 135 (zne rfl)).trans e173)
    have e175 : M162 598 135 = v173 := ((w162_3 135 (zne rfl) (zne rfl) (zne rfl) (zne rfl) (zne rfl) (zne rfl) (zne rfl)).trans e174)
    obtain ⟨v177, e177⟩ : ∃ z, M162 598 136 = z := ⟨_, rfl⟩
    have b177 : 0 ≤ v177 ∧ v177 ≤ 1 := by rw [← e177]; exact hI_M162 598 136 (Nat.le_of_ble_eq_true rfl)
    obtain ⟨v179, e179⟩ : ∃ z, M 598 136 = z := ⟨_, rfl⟩
    have b179 : 0 ≤ v179 ∧ v179 ≤ 1 := by rw [← e179]; exact hI_M 598 136 (Nat.le_of_ble_eq_true rfl)
    have e181 : M161 598 136 = v179 := ((w161_1 136 (zne rfl)).trans e179)
    exact jr.vreturn rfl rfl (q _ hI_M162 hH_M162 hS_M162  w162_0 (by rcases w162_1 with z | ⟨y1, y2, y3, y4, y5, y6⟩; (exact Or.inl ⟨z, by omega⟩); (have z1 := phi.fr (M := M) (M' := M161) ((w161_1 122 (zne rfl)).trans (rfl)) (fun i => ((w161_0 680 i (nne rfl) (nne rfl)).trans (rfl))); exact Or.inr ⟨by omega, y2, y3, y4, Or.inr ⟨by omega, Or.inl ⟨by omega, y5, by omega, by omega⟩⟩⟩)) (fun a i f598 f602 f603 f604 f605 f624 f670 f671 f672 f673 f674 f675 f676 f677 f678 f679 f680 f681 f682 f683 f684 f685 f686 f687 => ((w162_2 a i f598 f602 f624 f670 f671 f672 f673 f680 f683 f684).trans ((w161_0 a i f598 f687).trans rfl))) (fun i g6 g10 g11 g12 g110 g112 g122 g131 g132 g134 g135 g136 g137 g138 g139 g145 => ((w162_3 i g112 g122 g132 g134 g136 g137 g138).trans ((w161_1 i g145).trans rfl))))
