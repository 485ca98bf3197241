/-! ===== the reference: contracts, 37.mg ===== -/
theorem op_tab (o : Int) : (o = 0 → ndo o = 0 ∧ dlo o = 0) ∧ (o = 1 → ndo o = 1 ∧ dlo o = -1) ∧ (o = 2 → ndo o = 0 ∧ dlo o = 0) ∧ (o = 3 → ndo o = 0 ∧ dlo o = 0) ∧ (4 ≤ o ∧ o ≤ 6 → ndo o = 0 ∧ dlo o = 1) ∧ (o = 7 ∨ o = 8 → ndo o = 1 ∧ dlo o = -1) ∧ (9 ≤ o ∧ o ≤ 11 → ndo o = 1 ∧ dlo o = 0) ∧ (137 ≤ o ∧ o ≤ 162 → ndo o = 2 ∧ dlo o = -1) ∧ (350 ≤ o ∧ o < 365 → ndo o = 0 ∧ dlo o = 1) ∧ (365 ≤ o ∧ o ≤ 370 → ndo o = argn (o - 340) ∧ dlo o = 1 - argn (o - 340)) ∧ (24 ≤ o ∧ o ≤ 29 → ndo o = 0 ∧ dlo o = 0) ∧ (30 ≤ o ∧ o ≤ 38 → dlo o = -(ndo o)) := by
  refine ⟨?_, ?_, ?_, ?_, ?_, ?_, ?_, ?_, ?_, ?_, ?_, ?_⟩ <;> intro h <;> unfold dlo <;> unfold ndo <;> (repeat' split) <;> first | omega | exact ⟨rfl, rfl⟩ | exact ⟨rfl, by omega⟩
def cr (co : Int → Int) (p : Int) : Int := if co p = 28 ∨ co p = 29 then 1 else 0
theorem cr_le (co : Int → Int) (p : Int) : 0 ≤ cr co p ∧ cr co p ≤ 1 := by
  unfold cr
  split <;> omega
theorem MX.cr0 {M : jm} {ht : Int → Int} {n e : Int} (h : MX M ht n) (h0 : 0 ≤ e) (h1 : e < n) (h2 : M 654 (e - 1) ≠ 0) : cr (M 654) e = 0 := by
  unfold cr
  rw [if_neg]
  intro q
  obtain ⟨_, _, _, d⟩ := h.2.2.1 e h0 h1
  exact h2 (d q).2.1
theorem REr.cr0 {co ht : Int → Int} {n e : Int} (h : REr co ht n e) : cr co e = 0 := by
  obtain ⟨_, _, _, a, b⟩ := h
  unfold cr
  rw [if_neg (by omega)]
theorem MX.ren {M : jm} {ht : Int → Int} {n P : Int} (h : MX M ht n) (h0 : 0 ≤ P) (h1 : P + 1 < n) (h2 : M 654 P ≠ 0) (h3 : ht (P + 1) = 0) : REr (M 654) ht n (P + 1) := by
  obtain ⟨_, _, _, d⟩ := h.2.2.1 (P + 1) (by omega) h1
  rw [show P + 1 - 1 = P by omega] at d
  exact ⟨by omega, h1, h3, fun q => h2 (d (Or.inl q)).2.1, fun q => h2 (d (Or.inr q)).2.1⟩
def mu (M : jm) : Int := 8804 * (300 - M 598 143) + 2201 * (phi M + 4 * cr (M 654) (M 598 132)) + (2200 - M 598 132)
theorem mu.eq {M : jm} {st P f c : Int} (e1 : M 598 143 = st) (e2 : phi M = f) (e3 : M 598 132 = P) (e4 : cr (M 654) P = c) : mu M = 8804 * (300 - st) + 2201 * (f + 4 * c) + (2200 - P) := by
  unfold mu
  rw [e1, e2, e3, e4]
theorem r_act_L487 {A : Nat → Option (Nat × (Nat → Int32))} {Q : Option Value → jm → Prop} {L n : Int} {ht : Int → Int} {M0 : jm} (q : ∀ (M' : jm), RI M' → RH M' → RF M' → AS M' (L + 1) → ((M' 598 136 = 1 ∧ M' 598 135 = 0) ∨ (M' 598 136 = 0 ∧ FRS M' ht n (M' 598 122) ∧ 1 ≤ M' 598 122 ∧ M' 598 122 ≤ 8 ∧ ((M' 598 135 ≠ 0 ∧ phi M' = phi M0 ∧ M' 598 143 = M0 598 143) ∨ (M' 598 135 = 0 ∧ 0 ≤ M' 598 132 ∧ M' 598 132 < n ∧ M' 598 131 = ht (M' 598 132) ∧ mu M' < mu M0)))) → (∀ (a : Nat) (i : Int), a ≠ 598 → a ≠ 602 → a ≠ 603 → a ≠ 604 → a ≠ 605 → a ≠ 624 → a ≠ 670 → a ≠ 671 → a ≠ 672 → a ≠ 673 → a ≠ 674 → a ≠ 675 → a ≠ 676 → a ≠ 677 → a ≠ 678 → a ≠ 679 → a ≠ 680 → a ≠ 681 → a ≠ 682 → a ≠ 683 → a ≠ 684 → a ≠ 685 → a ≠ 686 → a ≠ 687 → M' a i = M0 a i) → (∀ (i : Int), i ≠ 6 → i ≠ 10 → i ≠ 11 → i ≠ 12 → i ≠ 59 → i ≠ 60 → i ≠ 61 → i ≠ 62 → i ≠ 63 → i ≠ 64 → i ≠ 65 → i ≠ 66 → i ≠ 110 → i ≠ 112 → i ≠ 122 → i ≠ 131 → i ≠ 132 → i ≠ 134 → i ≠ 135 → i ≠ 136 → i ≠ 137 → i ≠ 138 → i ≠ 139 → i ≠ 143 → i ≠ 145 → M' 598 i = M0 598 i) → Q none M') : ∀ (M : jm) , RI M → RH M → RF M → (∀ (a : Nat) (i : Int), a ≠ 598 → a ≠ 602 → a ≠ 603 → a ≠ 604 → a ≠ 605 → a ≠ 624 → a ≠ 670 → a ≠ 671 → a ≠ 672 → a ≠ 673 → a ≠ 674 → a ≠ 675 → a ≠ 676 → a ≠ 677 → a ≠ 678 → a ≠ 679 → a ≠ 680 → a ≠ 681 → a ≠ 682 → a ≠ 683 → a ≠ 684 → a ≠ 685 → a ≠ 686 → a ≠ 687 → M a i = M0 a i) → (∀ (i : Int), i ≠ 6 → i ≠ 10 → i ≠ 11 → i ≠ 12 → i ≠ 59 → i ≠ 60 → i ≠ 61 → i ≠ 62 → i ≠ 63 → i ≠ 64 → i ≠ 65 → i ≠ 66 → i ≠ 110 → i ≠ 112 → i ≠ 122 → i ≠ 131 → i ≠ 132 → i ≠ 134 → i ≠ 135 → i ≠ 136 → i ≠ 137 → i ≠ 138 → i ≠ 139 → i ≠ 143 → i ≠ 145 → M 598 i = M0 598 i) → FRS M ht n (M 598 122) → AS M (L + 1) → 1 ≤ M 598 122 ∧ M 598 122 ≤ 8 → phi M = phi M0 → M 598 136 = 0 → M 598 132 = M0 598 132 → 0 ≤ M0 598 132 ∧ M0 598 132 + 1 < n ∧ n ≤ 2000 → (M 598 135 = 0 → M 598 131 = ht (M0 598 132 + 1)) → ((M 598 143 = M0 598 143 ∧ cr (M0 654) (M0 598 132 + 1) = 0) ∨ (M 598 143 = M0 598 143 + 1 ∧ M 598 135 = 0)) → jr A 9 xm_380 487 [(0, .ref (598))] [] M Q := by
    intro M  hI_M hH_M hS_M hF_M hG_M  hy0 hy1 hy2 hy3 hy4 hy5 hy6 hy7 hy8
    have hFR := hy0
    have hAS := hy1
    have hph := hy3
    refine jr.aload_n rfl rfl ?_
    obtain ⟨v1, e1⟩ : ∃ z, M 598 135 = z := ⟨_, rfl⟩
    have b1 : 0 ≤ v1 ∧ v1 ≤ 8 := by rw [← e1]; exact hI_M 598 135 (by decide)
    refine jr.getf (i := 135) (x := v1) (v := .int (Int32.ofInt (v1))) rfl rfl (by decide) rfl (by decide) rfl rfl e1 rfl ?_
    refine jr.if_ne rfl rfl (by omega) (fun h491 => ?_) (fun h491 => ?_)
    · obtain ⟨v2, e2⟩ : ∃ z, M 598 122 = z := ⟨_, rfl⟩
      have b2 : 0 ≤ v2 ∧ v2 ≤ 9 := by rw [← e2]; exact hI_M 598 122 (by decide)
      have y3 : M 598 122 = v2 := e2
      obtain ⟨v4, e4⟩ : ∃ z, M 598 131 = z := ⟨_, rfl⟩
      have b4 : 0 ≤ v4 ∧ v4 ≤ 400 := by rw [← e4]; exact hI_M 598 131 (by decide)
      have y5 : M 598 131 = v4 := e4
      obtain ⟨v6, e6⟩ : ∃ z, M 598 132 = z := ⟨_, rfl⟩
      have b6 : 0 ≤ v6 ∧ v6 ≤ 2200 := by rw [← e6]; exact hI_M 598 132 (by decide)
      have y7 : M 598 132 = v6 := e6
      have y8 : M 598 135 = v1 := e1
      obtain ⟨v9, e9⟩ : ∃ z, M 598 136 = z := ⟨_, rfl⟩
      have b9 : 0 ≤ v9 ∧ v9 ≤ 1 := by rw [← e9]; exact hI_M 598 136 (by decide)
      have y10 : M 598 136 = v9 := e9
      obtain ⟨v11, e11⟩ : ∃ z, M 598 143 = z := ⟨_, rfl⟩
      have b11 : 0 ≤ v11 ∧ v11 ≤ 300 := by rw [← e11]; exact hI_M 598 143 (by decide)
      have y12 : M 598 143 = v11 := e11
      exact jr.vreturn rfl rfl (q _ hI_M hH_M hS_M  hAS (Or.inr ⟨by omega, hFR, by omega, by omega, Or.inl ⟨by omega, hph, by omega⟩⟩) (fun a i f598 f602 f603 f604 f605 f624 f670 f671 f672 f673 f674 f675 f676 f677 f678 f679 f680 f681 f682 f683 f684 f685 f686 f687 => (hF_M a i f598 f602 f603 f604 f605 f624 f670 f671 f672 f673 f674 f675 f676 f677 f678 f679 f680 f681 f682 f683 f684 f685 f686 f687)) (fun i g6 g10 g11 g12 g59 g60 g61 g62 g63 g64 g65 g66 g110 g112 g122 g131 g132 g134 g135 g136 g137 g138 g139 g143 g145 => (hG_M i g6 g10 g11 g12 g59 g60 g61 g62 g63 g64 g65 g66 g110 g112 g122 g131 g132 g134 g135 g136 g137 g138 g139 g143 g145)))
    · refine jr.aload_n rfl rfl ?_
      refine jr.dup rfl rfl ?_
      obtain ⟨v13, e13⟩ : ∃ z, M 598 132 = z := ⟨_, rfl⟩
      have b13 : 0 ≤ v13 ∧ v13 ≤ 2200 := by rw [← e13]; exact hI_M 598 132 (by decide)
      refine jr.getf (i := 132) (x := v13) (v := .int (Int32.ofInt (v13))) rfl rfl (by decide) rfl (by decide) rfl rfl e13 rfl ?_
      refine jr.iconst rfl ?_
      refine jr.iadd rfl ?_
      refine jr.putf (i := 132) (x := (v13 + 1)) rfl rfl (by decide) rfl (by decide) rfl rfl rfl rfl rfl ?_
      obtain ⟨v14, e14⟩ : ∃ z, M 598 122 = z := ⟨_, rfl⟩
      have b14 : 0 ≤ v14 ∧ v14 ≤ 9 := by rw [← e14]; exact hI_M 598 122 (by decide)
      have y15 : (ju M 598 132 (v13 + 1)) 598 122 = v14 := ((ju_i _ _ (by decide)).trans e14)
      obtain ⟨v16, e16⟩ : ∃ z, M 598 131 = z := ⟨_, rfl⟩
      have b16 : 0 ≤ v16 ∧ v16 ≤ 400 := by rw [← e16]; exact hI_M 598 131 (by decide)
      have y17 : (ju M 598 132 (v13 + 1)) 598 131 = v16 := ((ju_i _ _ (by decide)).trans e16)
      have y18 : (ju M 598 132 (v13 + 1)) 598 132 = v13 + 1 := (ju_same _ _ _ _)
      have y19 : (ju M 598 132 (v13 + 1)) 598 135 = v1 := ((ju_i _ _ (by decide)).trans e1)
      obtain ⟨v20, e20⟩ : ∃ z, M 598 136 = z := ⟨_, rfl⟩
      have b20 : 0 ≤ v20 ∧ v20 ≤ 1 := by rw [← e20]; exact hI_M 598 136 (by decide)
      have y21 : (ju M 598 132 (v13 + 1)) 598 136 = v20 := ((ju_i _ _ (by decide)).trans e20)
      obtain ⟨v22, e22⟩ : ∃ z, M 598 143 = z := ⟨_, rfl⟩
      have b22 : 0 ≤ v22 ∧ v22 ≤ 300 := by rw [← e22]; exact hI_M 598 143 (by decide)
      have y23 : (ju M 598 132 (v13 + 1)) 598 143 = v22 := ((ju_i _ _ (by decide)).trans e22)
      have zph : phi (ju M 598 132 (v13 + 1)) = phi M0 := ((phi.fr (M := M) (M' := (ju M 598 132 (v13 + 1))) ((ju_i _ _ (by decide)).trans (rfl)) (fun i => ((ju_c _ _ (by decide)).trans (rfl))))).trans hph
      have zm := mu.eq (M := (ju M 598 132 (v13 + 1))) ((ju_i _ _ (by decide)).trans e22) zph (((ju_same _ _ _ _)).trans (show v13 + 1 = M0 598 132 + 1 by omega)) (show cr ((ju M 598 132 (v13 + 1)) 654) (M0 598 132 + 1) = cr (M0 654) (M0 598 132 + 1) by rw [show (ju M 598 132 (v13 + 1)) 654 = M0 654 from funext (fun i => ((fun i => ((ju_c _ _ (by decide)).trans (rfl))) i).trans (hF_M 654 i (by decide) (by decide) (by decide) (by decide) (by decide) (by decide) (by decide) (by decide) (by decide) (by decide) (by decide) (by decide) (by decide) (by decide) (by decide) (by decide) (by decide) (by decide) (by decide) (by decide) (by decide) (by decide) (by decide) (by decide)))])
      have zn := mu.eq (M := M0) rfl rfl rfl rfl
      have c1 := cr_le (M0 654) (M0 598 132)
      have c2 := cr_le (M0 654) (M0 598 132 + 1)
      exact jr.vreturn rfl rfl (q _ (RI.u hI_M (a := 598) (i := 132) (show (0 : Int) ≤ _ ∧ _ ≤ (2200 : Int) from by omega)) (RH.o hH_M (by decide) (by decide) (by decide)) (RF.o hS_M (by decide) (by decide))  (AS.o hAS (by decide) (Or.inr (by decide))) (Or.inr ⟨by omega, (FRS.fr hFR (fun i => ((ju_c _ _ (by decide)).trans (rfl))) (fun i => ((ju_c _ _ (by decide)).trans (rfl))) (fun i => ((ju_c _ _ (by decide)).trans (rfl))) ((ju_i _ _ (by decide)).trans (rfl)) (by omega)), by omega, by omega, Or.inr ⟨by omega, by omega, by omega, by rw [((ju_same _ _ _ _)).trans (show v13 + 1 = M0 598 132 + 1 by omega), ((ju_i _ _ (by decide)).trans e16)]; exact hy7 (by omega), by omega⟩⟩) (fun a i f598 f602 f603 f604 f605 f624 f670 f671 f672 f673 f674 f675 f676 f677 f678 f679 f680 f681 f682 f683 f684 f685 f686 f687 => ((ju_c _ _ f598).trans (hF_M a i f598 f602 f603 f604 f605 f624 f670 f671 f672 f673 f674 f675 f676 f677 f678 f679 f680 f681 f682 f683 f684 f685 f686 f687))) (fun i g6 g10 g11 g12 g59 g60 g61 g62 g63 g64 g65 g66 g110 g112 g122 g131 g132 g134 g135 g136 g137 g138 g139 g143 g145 => ((ju_i _ _ g132).trans (hG_M i g6 g10 g11 g12 g59 g60 g61 g62 g63 g64 g65 g66 g110 g112 g122 g131 g132 g134 g135 g136 g137 g138 g139 g143 g145))))
theorem r_act {A : Nat → Option (Nat × (Nat → Int32))} {Q : Option Value → jm → Prop} {L n : Int} {ht : Int → Int} {M : jm} (hI_M : RI M) (hH_M : RH M) (hS_M : RF M) {o : Int} (h_o : 0 ≤ o ∧ o ≤ 1000) {a : Int} (h_a : (-9223372036854775808) ≤ a ∧ a ≤ 9223372036854775807) (p0 : MX M ht n) (p1 : FRS M ht n (M 598 122)) (p2 : 1 ≤ M 598 122 ∧ M 598 122 ≤ 8) (p3 : AS M L) (p4 : L ≤ 1999999999) (p5 : (0 ≤ M 598 132 ∧ M 598 132 < n)) (p6 : M 598 131 = ht (M 598 132)) (p7 : o = M 654 (M 598 132)) (p8 : a = M 655 (M 598 132)) (p9 : (M 598 135 = 0 ∧ M 598 136 = 0)) (q : ∀ (M' : jm), RI M' → RH M' → RF M' → AS M' (L + 1) → ((M' 598 136 = 1 ∧ M' 598 135 = 0) ∨ (M' 598 136 = 0 ∧ FRS M' ht n (M' 598 122) ∧ 1 ≤ M' 598 122 ∧ M' 598 122 ≤ 8 ∧ ((M' 598 135 ≠ 0 ∧ phi M' = phi M ∧ M' 598 143 = M 598 143) ∨ (M' 598 135 = 0 ∧ 0 ≤ M' 598 132 ∧ M' 598 132 < n ∧ M' 598 131 = ht (M' 598 132) ∧ mu M' < mu M)))) → (∀ (a : Nat) (i : Int), a ≠ 598 → a ≠ 602 → a ≠ 603 → a ≠ 604 → a ≠ 605 → a ≠ 624 → a ≠ 670 → a ≠ 671 → a ≠ 672 → a ≠ 673 → a ≠ 674 → a ≠ 675 → a ≠ 676 → a ≠ 677 → a ≠ 678 → a ≠ 679 → a ≠ 680 → a ≠ 681 → a ≠ 682 → a ≠ 683 → a ≠ 684 → a ≠ 685 → a ≠ 686 → a ≠ 687 → M' a i = M a i) → (∀ (i : Int), i ≠ 6 → i ≠ 10 → i ≠ 11 → i ≠ 12 → i ≠ 59 → i ≠ 60 → i ≠ 61 → i ≠ 62 → i ≠ 63 → i ≠ 64 → i ≠ 65 → i ≠ 66 → i ≠ 110 → i ≠ 112 → i ≠ 122 → i ≠ 131 → i ≠ 132 → i ≠ 134 → i ≠ 135 → i ≠ 136 → i ≠ 137 → i ≠ 138 → i ≠ 139 → i ≠ 143 → i ≠ 145 → M' 598 i = M 598 i) → Q none M') : jc A 10 380 [.ref (598), .int (Int32.ofInt (o)), .long (Int64.ofInt (a))] M Q := by
  have hMX := p0
  have hFR := p1
  have hAS := p3
  obtain ⟨P, hP⟩ : ∃ z, M 598 132 = z := ⟨_, rfl⟩
  rw [hP] at p5 p6 p7 p8
  have nb := hMX.1
  have nb2 := hMX.2.1
  obtain ⟨⟨q1, q2, q3, q4, q5, q6⟩, q7, q8, q9⟩ := hMX.2.2.1 P p5.1 p5.2
  rw [← p7] at q3 q4 q5 q6 q7 q8 q9
  rw [← p8] at q7 q8 q9
  have tb := op_tab o
  have jf : (o = 1 ∨ o = 2 ∨ o = 7 ∨ o = 8) → P < a ∧ a ≤ n - 1 := fun z => by
    obtain ⟨t1, t2, _⟩ := (q7 (by unfold jpo; omega)).resolve_left id
    exact ⟨t1, t2⟩
  have fv : o = 5 → 0 ≤ a ∧ a ≤ 218 := fun z => by
    obtain ⟨k, f, e, f0, f1, k0, k1, k2, k3⟩ := q8 z
    omega
  have pn : o ≠ 3 → P + 1 < n := fun z => by
    by_cases y : P = n - 1
    · exfalso
      have z2 := hMX.2.2.2.2
      rw [← y, ← p7] at z2
      exact z z2
    · omega
  have cP : o ≠ 28 → o ≠ 29 → cr (M 654) P = 0 := fun z1 z2 => by unfold cr; rw [← p7, if_neg (by omega)]
  have cN : o ≠ 0 → o ≠ 3 → cr (M 654) (P + 1) = 0 := fun z1 z2 => MX.cr0 hMX (by omega) (pn z2) (by rw [show P + 1 - 1 = P by omega, ← p7]; exact z1)
  have cl := cr_le (M 654) P
  have cl2 := cr_le (M 654) (P + 1)
  obtain ⟨Fv, hFv⟩ : ∃ z, M 598 122 = z := ⟨_, rfl⟩
  obtain ⟨hv, hhv⟩ : ∃ z, M 598 131 = z := ⟨_, rfl⟩
  rw [hhv] at p6
  unfold vop at q3
  unfold exo at q6
  obtain ⟨st, hst⟩ : ∃ z, M 598 143 = z := ⟨_, rfl⟩
  have bst : (0 : Int) ≤ st ∧ st ≤ 300 := by rw [← hst]; exact hI_M 598 143 (by decide)
  have hmu := mu.eq hst rfl hP (rfl : cr (M 654) P = cr (M 654) P)
  refine jc_of (m := xm_380) rfl (Nat.le_of_ble_eq_true rfl) rfl ?_
  refine jr.iload_n rfl rfl ?_
  rcases (show o = 0 ∨ o = 1 ∨ o = 2 ∨ o = 3 ∨ o = 4 ∨ o = 5 ∨ o = 6 ∨ o = 7 ∨ o = 8 ∨ o = 9 ∨ o = 10 ∨ o = 11 ∨ (o ≠ 0 ∧ o ≠ 1 ∧ o ≠ 2 ∧ o ≠ 3 ∧ o ≠ 4 ∧ o ≠ 5 ∧ o ≠ 6 ∧ o ≠ 7 ∧ o ≠ 8 ∧ o ≠ 9 ∧ o ≠ 10 ∧ o ≠ 11) by omega) with h1 | h1 | h1 | h1 | h1 | h1 | h1 | h1 | h1 | h1 | h1 | h1 | h1
  · refine jr.tsw_k 0 rfl h1 rfl ?_
    refine jr.aload_n rfl rfl ?_
    refine jr.getf (i := 143) (x := st) (v := .int (Int32.ofInt (st))) rfl rfl (by decide) rfl (by decide) rfl rfl hst rfl ?_
    refine jr.sipush rfl (by decide) ?_
    refine jr.icmp_ne rfl rfl (by omega) (by omega) (fun h71 => ?_) (fun h71 => ?_)
    · refine jr.aload_n rfl rfl ?_
      refine jr.dup rfl rfl ?_
      refine jr.getf (i := 143) (x := st) (v := .int (Int32.ofInt (st))) rfl rfl (by decide) rfl (by decide) rfl rfl hst rfl ?_
      refine jr.iconst rfl ?_
      refine jr.iadd rfl ?_
      refine jr.putf (i := 143) (x := (st + 1)) rfl rfl (by decide) rfl (by decide) rfl rfl rfl rfl rfl ?_
      refine jr.goto rfl rfl ?_
      have y1 : (ju M 598 143 (st + 1)) 598 122 = Fv := ((ju_i _ _ (by decide)).trans hFv)
      obtain ⟨v2, e2⟩ : ∃ z, M 598 136 = z := ⟨_, rfl⟩
      have b2 : 0 ≤ v2 ∧ v2 ≤ 1 := by rw [← e2]; exact hI_M 598 136 (by decide)
      obtain ⟨v3, e3⟩ : ∃ z, M 598 135 = z := ⟨_, rfl⟩
      have b3 : 0 ≤ v3 ∧ v3 ≤ 8 := by rw [← e3]; exact hI_M 598 135 (by decide)
      refine jr.pick [0] rfl rfl ?_
      exact r_act_L487 (L := L) (n := n) (ht := ht) q (ju M 598 143 (st + 1))  (RI.u hI_M (a := 598) (i := 143) (show (0 : Int) ≤ _ ∧ _ ≤ (300 : Int) from by omega)) (RH.o hH_M (by decide) (by decide) (by decide)) (RF.o hS_M (by decide) (by decide))  (fun a i f598 f602 f603 f604 f605 f624 f670 f671 f672 f673 f674 f675 f676 f677 f678 f679 f680 f681 f682 f683 f684 f685 f686 f687 => ((ju_c _ _ f598).trans rfl)) (fun i g6 g10 g11 g12 g59 g60 g61 g62 g63 g64 g65 g66 g110 g112 g122 g131 g132 g134 g135 g136 g137 g138 g139 g143 g145 => ((ju_i _ _ g143).trans rfl))  (FRS.fr hFR (fun i => ((ju_c _ _ (by decide)).trans (rfl))) (fun i => ((ju_c _ _ (by decide)).trans (rfl))) (fun i => ((ju_c _ _ (by decide)).trans (rfl))) ((ju_i _ _ (by decide)).trans (rfl)) (by omega)) (AS.up (AS.o hAS (by decide) (Or.inr (by decide))) (by omega)) (by rw [((ju_i _ _ (by decide)).trans hFv)] <;> omega) (phi.fr (M := M) (M' := (ju M 598 143 (st + 1))) ((ju_i _ _ (by decide)).trans (rfl)) (fun i => ((ju_c _ _ (by decide)).trans (rfl)))) (by rw [((ju_i _ _ (by decide)).trans e2)] <;> omega) (by rw [((ju_i _ _ (by decide)).trans hP)] <;> omega) (by have z := pn (by omega); omega) (fun _ => by rw [((ju_i _ _ (by decide)).trans hhv), hP, q4]; omega) (by rw [(ju_same _ _ _ _), ((ju_i _ _ (by decide)).trans e3), hst, hP]; first | (exact Or.inr ⟨by omega, by omega⟩) | (exact Or.inl ⟨by omega, cN (by omega) (by omega)⟩))
    · refine jr.aload_n rfl rfl ?_
      refine jr.bipush rfl (by decide) ?_
      refine jr.putf (i := 135) (x := 8) rfl rfl (by decide) rfl (by decide) rfl rfl rfl rfl rfl ?_
      have y4 : (ju M 598 135 8) 598 122 = Fv := ((ju_i _ _ (by decide)).trans hFv)
      have y5 : (ju M 598 135 8) 598 131 = hv := ((ju_i _ _ (by decide)).trans hhv)
      have y6 : (ju M 598 135 8) 598 132 = P := ((ju_i _ _ (by decide)).trans hP)
      have y7 : (ju M 598 135 8) 598 135 = 8 := (ju_same _ _ _ _)
      obtain ⟨v8, e8⟩ : ∃ z, M 598 136 = z := ⟨_, rfl⟩
      have b8 : 0 ≤ v8 ∧ v8 ≤ 1 := by rw [← e8]; exact hI_M 598 136 (by decide)
      have y9 : (ju M 598 135 8) 598 136 = v8 := ((ju_i _ _ (by decide)).trans e8)
      have y10 : (ju M 598 135 8) 598 143 = st := ((ju_i _ _ (by decide)).trans hst)
      exact jr.vreturn rfl rfl (q _ (RI.u hI_M (a := 598) (i := 135) (show (0 : Int) ≤ _ ∧ _ ≤ (8 : Int) from by omega)) (RH.o hH_M (by decide) (by decide) (by decide)) (RF.o hS_M (by decide) (by decide))  (AS.up (AS.o hAS (by decide) (Or.inr (by decide))) (by omega)) (Or.inr ⟨by omega, (FRS.fr hFR (fun i => ((ju_c _ _ (by decide)).trans (rfl))) (fun i => ((ju_c _ _ (by decide)).trans (rfl))) (fun i => ((ju_c _ _ (by decide)).trans (rfl))) ((ju_i _ _ (by decide)).trans (rfl)) (by omega)), by omega, by omega, Or.inl ⟨by omega, (phi.fr (M := M) (M' := (ju M 598 135 8)) ((ju_i _ _ (by decide)).trans (rfl)) (fun i => ((ju_c _ _ (by decide)).trans (rfl)))), by omega⟩⟩) (fun a i f598 f602 f603 f604 f605 f624 f670 f671 f672 f673 f674 f675 f676 f677 f678 f679 f680 f681 f682 f683 f684 f685 f686 f687 => ((ju_c _ _ f598).trans rfl)) (fun i g6 g10 g11 g12 g59 g60 g61 g62 g63 g64 g65 g66 g110 g112 g122 g131 g132 g134 g135 g136 g137 g138 g139 g143 g145 => ((ju_i _ _ g135).trans rfl)))
  · refine jr.tsw_k 1 rfl h1 rfl ?_
    refine jr.aload_n rfl rfl ?_
    refine jr.dup rfl rfl ?_
    refine jr.getf (i := 131) (x := hv) (v := .int (Int32.ofInt (hv))) rfl rfl (by decide) rfl (by decide) rfl rfl hhv rfl ?_
    refine jr.iconst rfl ?_
    refine jr.isub rfl ?_
    refine jr.putf (i := 131) (x := (hv - 1)) rfl rfl (by decide) rfl (by decide) rfl rfl rfl rfl rfl ?_
    refine jr.aload_n rfl rfl ?_
    refine jr.getf (i := 130) (v := .ref 686) rfl rfl (by decide) rfl (by decide) rfl rfl rfl rfl ?_
    refine jr.aload_n rfl rfl ?_
    refine jr.getf (i := 131) (x := (hv - 1)) (v := .int (Int32.ofInt (hv - 1))) rfl rfl (by decide) rfl (by decide) rfl rfl (ju_same _ _ _ _) rfl ?_
    obtain ⟨v11, e11⟩ : ∃ z, M 686 (hv - 1) = z := ⟨_, rfl⟩
    have b11 : (-9223372036854775808) ≤ v11 ∧ v11 ≤ 9223372036854775807 := by rw [← e11]; exact (by have q := hI_M 686 (hv - 1) (by decide); rw [xri_row rfl rfl] at q; exact q)
    refine jr.lald (i := (hv - 1)) (x := v11) rfl (by decide) rfl (by decide) (by omega) (by omega) ((ju_c _ _ (by decide)).trans e11) ?_
    refine jr.lconst (x := 0) rfl (by decide) ?_
    refine jr.lcmp_ne rfl rfl rfl (by omega) (by omega) (fun h114 => ?_) (fun h114 => ?_)
    · have y12 : (ju M 598 131 (hv - 1)) 598 122 = Fv := ((ju_i _ _ (by decide)).trans hFv)
      obtain ⟨v13, e13⟩ : ∃ z, M 598 136 = z := ⟨_, rfl⟩
      have b13 : 0 ≤ v13 ∧ v13 ≤ 1 := by rw [← e13]; exact hI_M 598 136 (by decide)
      obtain ⟨v14, e14⟩ : ∃ z, M 598 135 = z := ⟨_, rfl⟩
      have b14 : 0 ≤ v14 ∧ v14 ≤ 8 := by rw [← e14]; exact hI_M 598 135 (by decide)
      refine jr.pick [0] rfl rfl ?_
      exact r_act_L487 (L := L) (n := n) (ht := ht) q (ju M 598 131 (hv - 1))  (RI.u hI_M (a := 598) (i := 131) (show (0 : Int) ≤ _ ∧ _ ≤ (400 : Int) from by omega)) (RH.o hH_M (by decide) (by decide) (by decide)) (RF.o hS_M (by decide) (by decide))  (fun a i f598 f602 f603 f604 f605 f624 f670 f671 f672 f673 f674 f675 f676 f677 f678 f679 f680 f681 f682 f683 f684 f685 f686 f687 => ((ju_c _ _ f598).trans rfl)) (fun i g6 g10 g11 g12 g59 g60 g61 g62 g63 g64 g65 g66 g110 g112 g122 g131 g132 g134 g135 g136 g137 g138 g139 g143 g145 => ((ju_i _ _ g131).trans rfl))  (FRS.fr hFR (fun i => ((ju_c _ _ (by decide)).trans (rfl))) (fun i => ((ju_c _ _ (by decide)).trans (rfl))) (fun i => ((ju_c _ _ (by decide)).trans (rfl))) ((ju_i _ _ (by decide)).trans (rfl)) (by omega)) (AS.up (AS.o hAS (by decide) (Or.inr (by decide))) (by omega)) (by rw [((ju_i _ _ (by decide)).trans hFv)] <;> omega) (phi.fr (M := M) (M' := (ju M 598 131 (hv - 1))) ((ju_i _ _ (by decide)).trans (rfl)) (fun i => ((ju_c _ _ (by decide)).trans (rfl)))) (by rw [((ju_i _ _ (by decide)).trans e13)] <;> omega) (by rw [((ju_i _ _ (by decide)).trans hP)] <;> omega) (by have z := pn (by omega); omega) (fun _ => by rw [(ju_same _ _ _ _), hP, q4]; omega) (by rw [((ju_i _ _ (by decide)).trans hst), ((ju_i _ _ (by decide)).trans e14), hst, hP]; first | (exact Or.inr ⟨by omega, by omega⟩) | (exact Or.inl ⟨by omega, cN (by omega) (by omega)⟩))
    · refine jr.aload_n rfl rfl ?_
      refine jr.lload_n rfl rfl ?_
      refine jr.l2i rfl ?_
      refine jr.putf (i := 132) (x := a) rfl rfl (by decide) rfl (by decide) rfl rfl rfl rfl rfl ?_
      have y15 : (ju (ju M 598 131 (hv - 1)) 598 132 a) 598 122 = Fv := ((ju_i _ _ (by decide)).trans ((ju_i _ _ (by decide)).trans hFv))
      have y16 : (ju (ju M 598 131 (hv - 1)) 598 132 a) 598 131 = hv - 1 := ((ju_i _ _ (by decide)).trans (ju_same _ _ _ _))
      have y17 : (ju (ju M 598 131 (hv - 1)) 598 132 a) 598 132 = a := (ju_same _ _ _ _)
      obtain ⟨v18, e18⟩ : ∃ z, M 598 135 = z := ⟨_, rfl⟩
      have b18 : 0 ≤ v18 ∧ v18 ≤ 8 := by rw [← e18]; exact hI_M 598 135 (by decide)
      have y19 : (ju (ju M 598 131 (hv - 1)) 598 132 a) 598 135 = v18 := ((ju_i _ _ (by decide)).trans ((ju_i _ _ (by decide)).trans e18))
      obtain ⟨v20, e20⟩ : ∃ z, M 598 136 = z := ⟨_, rfl⟩
      have b20 : 0 ≤ v20 ∧ v20 ≤ 1 := by rw [← e20]; exact hI_M 598 136 (by decide)
      have y21 : (ju (ju M 598 131 (hv - 1)) 598 132 a) 598 136 = v20 := ((ju_i _ _ (by decide)).trans ((ju_i _ _ (by decide)).trans e20))
      have y22 : (ju (ju M 598 131 (hv - 1)) 598 132 a) 598 143 = st := ((ju_i _ _ (by decide)).trans ((ju_i _ _ (by decide)).trans hst))
      obtain ⟨t1, t2, t3, t4⟩ := (q7 (by unfold jpo; omega)).resolve_left id
      have zph : phi (ju (ju M 598 131 (hv - 1)) 598 132 a) = phi M := (phi.fr (M := M) (M' := (ju (ju M 598 131 (hv - 1)) 598 132 a)) ((ju_i _ _ (by decide)).trans ((ju_i _ _ (by decide)).trans (rfl))) (fun i => ((ju_c _ _ (by decide)).trans ((ju_c _ _ (by decide)).trans (rfl)))))
      have zm := mu.eq (M := (ju (ju M 598 131 (hv - 1)) 598 132 a)) ((ju_i _ _ (by decide)).trans ((ju_i _ _ (by decide)).trans hst)) zph (ju_same _ _ _ _) (show cr ((ju (ju M 598 131 (hv - 1)) 598 132 a) 654) a = 0 by rw [show (ju (ju M 598 131 (hv - 1)) 598 132 a) 654 = M 654 from funext (fun i => ((ju_c _ _ (by decide)).trans ((ju_c _ _ (by decide)).trans (rfl))))]; exact MX.cr0 hMX (by omega) (by omega) t4)
      exact jr.vreturn rfl rfl (q _ (RI.u (RI.u hI_M (a := 598) (i := 131) (show (0 : Int) ≤ _ ∧ _ ≤ (400 : Int) from by omega)) (a := 598) (i := 132) (show (0 : Int) ≤ _ ∧ _ ≤ (2200 : Int) from by omega)) (RH.o (RH.o hH_M (by decide) (by decide) (by decide)) (by decide) (by decide) (by decide)) (RF.o (RF.o hS_M (by decide) (by decide)) (by decide) (by decide))  (AS.up (AS.o (AS.o hAS (by decide) (Or.inr (by decide))) (by decide) (Or.inr (by decide))) (by omega)) (Or.inr ⟨by omega, (FRS.fr hFR (fun i => ((ju_c _ _ (by decide)).trans ((ju_c _ _ (by decide)).trans (rfl)))) (fun i => ((ju_c _ _ (by decide)).trans ((ju_c _ _ (by decide)).trans (rfl)))) (fun i => ((ju_c _ _ (by decide)).trans ((ju_c _ _ (by decide)).trans (rfl)))) ((ju_i _ _ (by decide)).trans ((ju_i _ _ (by decide)).trans (rfl))) (by omega)), by omega, by omega, Or.inr ⟨by omega, by omega, by omega, (by rw [((ju_i _ _ (by decide)).trans (ju_same _ _ _ _)), (ju_same _ _ _ _), t3]; split <;> omega), by omega⟩⟩) (fun a i f598 f602 f603 f604 f605 f624 f670 f671 f672 f673 f674 f675 f676 f677 f678 f679 f680 f681 f682 f683 f684 f685 f686 f687 => ((ju_c _ _ f598).trans ((ju_c _ _ f598).trans rfl))) (fun i g6 g10 g11 g12 g59 g60 g61 g62 g63 g64 g65 g66 g110 g112 g122 g131 g132 g134 g135 g136 g137 g138 g139 g143 g145 => ((ju_i _ _ g132).trans ((ju_i _ _ g131).trans rfl))))
  · refine jr.tsw_k 2 rfl h1 rfl ?_
    refine jr.aload_n rfl rfl ?_
    refine jr.lload_n rfl rfl ?_
    refine jr.l2i rfl ?_
    refine jr.putf (i := 132) (x := a) rfl rfl (by decide) rfl (by decide) rfl rfl rfl rfl rfl ?_
    have y23 : (ju M 598 132 a) 598 122 = Fv := ((ju_i _ _ (by decide)).trans hFv)
    have y24 : (ju M 598 132 a) 598 131 = hv := ((ju_i _ _ (by decide)).trans hhv)
    have y25 : (ju M 598 132 a) 598 132 = a := (ju_same _ _ _ _)
    obtain ⟨v26, e26⟩ : ∃ z, M 598 135 = z := ⟨_, rfl⟩
    have b26 : 0 ≤ v26 ∧ v26 ≤ 8 := by rw [← e26]; exact hI_M 598 135 (by decide)
    have y27 : (ju M 598 132 a) 598 135 = v26 := ((ju_i _ _ (by decide)).trans e26)
    obtain ⟨v28, e28⟩ : ∃ z, M 598 136 = z := ⟨_, rfl⟩
    have b28 : 0 ≤ v28 ∧ v28 ≤ 1 := by rw [← e28]; exact hI_M 598 136 (by decide)
    have y29 : (ju M 598 132 a) 598 136 = v28 := ((ju_i _ _ (by decide)).trans e28)
    have y30 : (ju M 598 132 a) 598 143 = st := ((ju_i _ _ (by decide)).trans hst)
    obtain ⟨t1, t2, t3, t4⟩ := (q7 (by unfold jpo; omega)).resolve_left id
    have zph : phi (ju M 598 132 a) = phi M := (phi.fr (M := M) (M' := (ju M 598 132 a)) ((ju_i _ _ (by decide)).trans (rfl)) (fun i => ((ju_c _ _ (by decide)).trans (rfl))))
    have zm := mu.eq (M := (ju M 598 132 a)) ((ju_i _ _ (by decide)).trans hst) zph (ju_same _ _ _ _) (show cr ((ju M 598 132 a) 654) a = 0 by rw [show (ju M 598 132 a) 654 = M 654 from funext (fun i => ((ju_c _ _ (by decide)).trans (rfl)))]; exact MX.cr0 hMX (by omega) (by omega) t4)
    exact jr.vreturn rfl rfl (q _ (RI.u hI_M (a := 598) (i := 132) (show (0 : Int) ≤ _ ∧ _ ≤ (2200 : Int) from by omega)) (RH.o hH_M (by decide) (by decide) (by decide)) (RF.o hS_M (by decide) (by decide))  (AS.up (AS.o hAS (by decide) (Or.inr (by decide))) (by omega)) (Or.inr ⟨by omega, (FRS.fr hFR (fun i => ((ju_c _ _ (by decide)).trans (rfl))) (fun i => ((ju_c _ _ (by decide)).trans (rfl))) (fun i => ((ju_c _ _ (by decide)).trans (rfl))) ((ju_i _ _ (by decide)).trans (rfl)) (by omega)), by omega, by omega, Or.inr ⟨by omega, by omega, by omega, (by rw [((ju_i _ _ (by decide)).trans hhv), (ju_same _ _ _ _), t3]; split <;> omega), by omega⟩⟩) (fun a i f598 f602 f603 f604 f605 f624 f670 f671 f672 f673 f674 f675 f676 f677 f678 f679 f680 f681 f682 f683 f684 f685 f686 f687 => ((ju_c _ _ f598).trans rfl)) (fun i g6 g10 g11 g12 g59 g60 g61 g62 g63 g64 g65 g66 g110 g112 g122 g131 g132 g134 g135 g136 g137 g138 g139 g143 g145 => ((ju_i _ _ g132).trans rfl)))
  · refine jr.tsw_k 3 rfl h1 rfl ?_
    refine jr.aload_n rfl rfl ?_
    refine jr.getf (i := 122) (x := Fv) (v := .int (Int32.ofInt (Fv))) rfl rfl (by decide) rfl (by decide) rfl rfl hFv rfl ?_
    refine jr.iconst rfl ?_
    refine jr.isub rfl ?_
    refine jr.istore rfl (by decide) rfl ?_
    refine jr.aload_n rfl rfl ?_
    refine jr.getf (i := 124) (v := .ref 680) rfl rfl (by decide) rfl (by decide) rfl rfl rfl rfl ?_
    refine jr.iload rfl rfl ?_
    obtain ⟨v31, e31⟩ : ∃ z, M 680 (Fv - 1) = z := ⟨_, rfl⟩
    have b31 : 0 ≤ v31 ∧ v31 ≤ 1 := by rw [← e31]; exact (by have q := hI_M 680 (Fv - 1) (by decide); rw [xri_row rfl rfl] at q; exact q)
    refine jr.zald (i := (Fv - 1)) (x := v31) rfl (by decide) rfl (by decide) (by omega) (by omega) e31 ?_
    refine jr.if_eq rfl rfl (by omega) (fun h147 => ?_) (fun h147 => ?_)
    · refine jr.aload_n rfl rfl ?_
      refine jr.iconst rfl ?_
      refine jr.iconst rfl ?_
      have y33 : M 598 122 = Fv := hFv
      refine jr_v rfl rfl (Or.inl rfl) rfl rfl (by decide) rfl ⟨rfl, Nat.le_of_ble_eq_true rfl, Nat.le_of_ble_eq_true rfl⟩ rfl (jc.deep (r_leave hI_M hH_M hS_M  (by omega) (by omega) hMX (FRS.fr hFR (fun i => (rfl)) (fun i => (rfl)) (fun i => (rfl)) (rfl) (by omega)) (by rw [hFv]; omega) hAS (by omega) (fun M32 hI_M32 hH_M32 hS_M32  w32_0 w32_1 w32_2 w32_3 => ?_)) (by decide))
      obtain ⟨v34, e34⟩ : ∃ z, M32 598 122 = z := ⟨_, rfl⟩
      have b34 : 0 ≤ v34 ∧ v34 ≤ 9 := by rw [← e34]; exact hI_M32 598 122 (by decide)
      have y35 : M32 598 122 = v34 := e34
      have e36 : M32 598 131 = hv := ((w32_3 131 (by decide) (by decide) (by decide) (by decide) (by decide) (by decide) (by decide)).trans hhv)
      have y37 : M32 598 131 = hv := e36
      obtain ⟨v38, e38⟩ : ∃ z, M32 598 132 = z := ⟨_, rfl⟩
      have b38 : 0 ≤ v38 ∧ v38 ≤ 2200 := by rw [← e38]; exact hI_M32 598 132 (by decide)
      have y39 : M32 598 132 = v38 := e38
      obtain ⟨v40, e40⟩ : ∃ z, M 598 135 = z := ⟨_, rfl⟩
      have b40 : 0 ≤ v40 ∧ v40 ≤ 8 := by rw [← e40]; exact hI_M 598 135 (by decide)
      have e41 : M32 598 135 = v40 := ((w32_3 135 (by decide) (by decide) (by decide) (by decide) (by decide) (by decide) (by decide)).trans e40)
      have y42 : M32 598 135 = v40 := e41
      obtain ⟨v43, e43⟩ : ∃ z, M32 598 136 = z := ⟨_, rfl⟩
      have b43 : 0 ≤ v43 ∧ v43 ≤ 1 := by rw [← e43]; exact hI_M32 598 136 (by decide)
      have y44 : M32 598 136 = v43 := e43
      have e45 : M32 598 143 = st := ((w32_3 143 (by decide) (by decide) (by decide) (by decide) (by decide) (by decide) (by decide)).trans hst)
      have y46 : M32 598 143 = st := e45
      exact jr.vreturn rfl rfl (q _ hI_M32 hH_M32 hS_M32  (AS.up w32_0 (by omega)) (by rcases w32_1 with z | ⟨y1, y2, y3, y4, y5, y6⟩; (exact Or.inl ⟨z, by omega⟩); (have zr := y5; have zc := REr.cr0 y5; obtain ⟨r1, r2, r3, _, _⟩ := y5; have zm := mu.eq (M := M32) (e45) rfl rfl zc; exact Or.inr ⟨by omega, y2, y3, y4, Or.inr ⟨by omega, r1, r2, by rw [e36, r3]; omega, by omega⟩⟩)) (fun a i f598 f602 f603 f604 f605 f624 f670 f671 f672 f673 f674 f675 f676 f677 f678 f679 f680 f681 f682 f683 f684 f685 f686 f687 => ((w32_2 a i f598 f602 f624 f670 f671 f672 f673 f680 f683 f684).trans rfl)) (fun i g6 g10 g11 g12 g59 g60 g61 g62 g63 g64 g65 g66 g110 g112 g122 g131 g132 g134 g135 g136 g137 g138 g139 g143 g145 => ((w32_3 i g112 g122 g132 g134 g136 g137 g138).trans rfl)))
    · refine jr.aload_n rfl rfl ?_
      refine jr.iload rfl rfl ?_
      have y48 : M 598 122 = Fv := hFv
      refine jr_v rfl rfl (Or.inl rfl) rfl rfl (by decide) rfl ⟨rfl, Nat.le_of_ble_eq_true rfl, Nat.le_of_ble_eq_true rfl⟩ rfl (jc.deep (r_endBehind hI_M hH_M hS_M  (by omega) hMX (FRS.fr hFR (fun i => (rfl)) (fun i => (rfl)) (fun i => (rfl)) (rfl) (by omega)) (by rw [hFv]; omega) hAS (by omega) (by rw [hFv]; omega) (fun M47 hI_M47 hH_M47 hS_M47  w47_0 w47_1 w47_2 w47_3 => ?_)) (by decide))
      refine jr.goto rfl rfl ?_
      obtain ⟨v49, e49⟩ : ∃ z, M47 598 122 = z := ⟨_, rfl⟩
      have b49 : 0 ≤ v49 ∧ v49 ≤ 9 := by rw [← e49]; exact hI_M47 598 122 (by decide)
      have y50 : M47 598 122 = v49 := e49
      have e51 : M47 598 131 = hv := ((w47_3 131 (by decide) (by decide) (by decide) (by decide) (by decide) (by decide) (by decide)).trans hhv)
      have y52 : M47 598 131 = hv := e51
      obtain ⟨v53, e53⟩ : ∃ z, M47 598 132 = z := ⟨_, rfl⟩
      have b53 : 0 ≤ v53 ∧ v53 ≤ 2200 := by rw [← e53]; exact hI_M47 598 132 (by decide)
      have y54 : M47 598 132 = v53 := e53
      obtain ⟨v55, e55⟩ : ∃ z, M 598 135 = z := ⟨_, rfl⟩
      have b55 : 0 ≤ v55 ∧ v55 ≤ 8 := by rw [← e55]; exact hI_M 598 135 (by decide)
      have e56 : M47 598 135 = v55 := ((w47_3 135 (by decide) (by decide) (by decide) (by decide) (by decide) (by decide) (by decide)).trans e55)
      have y57 : M47 598 135 = v55 := e56
      obtain ⟨v58, e58⟩ : ∃ z, M47 598 136 = z := ⟨_, rfl⟩
      have b58 : 0 ≤ v58 ∧ v58 ≤ 1 := by rw [← e58]; exact hI_M47 598 136 (by decide)
      have y59 : M47 598 136 = v58 := e58
      have e60 : M47 598 143 = st := ((w47_3 143 (by decide) (by decide) (by decide) (by decide) (by decide) (by decide) (by decide)).trans hst)
      have y61 : M47 598 143 = st := e60
      exact jr.vreturn rfl rfl (q _ hI_M47 hH_M47 hS_M47  (AS.up w47_0 (by omega)) (by rcases w47_1 with z | ⟨y1, y2, y3, y4, y5, y6⟩; (exact Or.inl ⟨z, by omega⟩); (have zr := y5; have zc := REr.cr0 y5; obtain ⟨r1, r2, r3, _, _⟩ := y5; have zm := mu.eq (M := M47) (e60) rfl rfl zc; exact Or.inr ⟨by omega, y2, y3, y4, Or.inr ⟨by omega, r1, r2, by rw [e51, r3]; omega, by omega⟩⟩)) (fun a i f598 f602 f603 f604 f605 f624 f670 f671 f672 f673 f674 f675 f676 f677 f678 f679 f680 f681 f682 f683 f684 f685 f686 f687 => ((w47_2 a i f598 f602 f624 f670 f671 f672 f673 f680 f683 f684).trans rfl)) (fun i g6 g10 g11 g12 g59 g60 g61 g62 g63 g64 g65 g66 g110 g112 g122 g131 g132 g134 g135 g136 g137 g138 g139 g143 g145 => ((w47_3 i g112 g122 g132 g134 g136 g137 g138).trans rfl)))
  · refine jr.tsw_k 4 rfl h1 rfl ?_
    refine jr.aload_n rfl rfl ?_
    refine jr.getf (i := 130) (v := .ref 686) rfl rfl (by decide) rfl (by decide) rfl rfl rfl rfl ?_
    refine jr.aload_n rfl rfl ?_
    refine jr.getf (i := 131) (x := hv) (v := .int (Int32.ofInt (hv))) rfl rfl (by decide) rfl (by decide) rfl rfl hhv rfl ?_
    refine jr.lload_n rfl rfl ?_
    refine jr.last (i := hv) (x := a) rfl (by decide) rfl (by decide) (by omega) (by omega) ?_
    refine jr.aload_n rfl rfl ?_
    refine jr.dup rfl rfl ?_
    refine jr.getf (i := 131) (x := hv) (v := .int (Int32.ofInt (hv))) rfl rfl (by decide) rfl (by decide) rfl rfl ((ju_c _ _ (by decide)).trans hhv) rfl ?_
    refine jr.iconst rfl ?_
    refine jr.iadd rfl ?_
    refine jr.putf (i := 131) (x := (hv + 1)) rfl rfl (by decide) rfl (by decide) rfl rfl rfl rfl rfl ?_
    refine jr.goto rfl rfl ?_
    have y62 : (ju (ju M 686 hv a) 598 131 (hv + 1)) 598 122 = Fv := ((ju_i _ _ (by decide)).trans ((ju_c _ _ (by decide)).trans hFv))
    obtain ⟨v63, e63⟩ : ∃ z, M 598 136 = z := ⟨_, rfl⟩
    have b63 : 0 ≤ v63 ∧ v63 ≤ 1 := by rw [← e63]; exact hI_M 598 136 (by decide)
    obtain ⟨v64, e64⟩ : ∃ z, M 598 135 = z := ⟨_, rfl⟩
    have b64 : 0 ≤ v64 ∧ v64 ≤ 8 := by rw [← e64]; exact hI_M 598 135 (by decide)
    refine jr.pick [0] rfl rfl ?_
    exact r_act_L487 (L := L) (n := n) (ht := ht) q (ju (ju M 686 hv a) 598 131 (hv + 1))  (RI.u (RI.u hI_M (a := 686) (i := hv) (by rw [xri_row rfl rfl]; show (-9223372036854775808 : Int) ≤ _ ∧ _ ≤ (9223372036854775807 : Int); omega)) (a := 598) (i := 131) (show (0 : Int) ≤ _ ∧ _ ≤ (400 : Int) from by omega)) (RH.o (RH.o hH_M (by decide) (by decide) (by decide)) (by decide) (by decide) (by decide)) (RF.o (RF.o hS_M (by decide) (by decide)) (by decide) (by decide))  (fun a i f598 f602 f603 f604 f605 f624 f670 f671 f672 f673 f674 f675 f676 f677 f678 f679 f680 f681 f682 f683 f684 f685 f686 f687 => ((ju_c _ _ f598).trans ((ju_c _ _ f686).trans rfl))) (fun i g6 g10 g11 g12 g59 g60 g61 g62 g63 g64 g65 g66 g110 g112 g122 g131 g132 g134 g135 g136 g137 g138 g139 g143 g145 => ((ju_i _ _ g131).trans ((ju_c _ _ (by decide)).trans rfl)))  (FRS.fr hFR (fun i => ((ju_c _ _ (by decide)).trans ((ju_c _ _ (by decide)).trans (rfl)))) (fun i => ((ju_c _ _ (by decide)).trans ((ju_c _ _ (by decide)).trans (rfl)))) (fun i => ((ju_c _ _ (by decide)).trans ((ju_c _ _ (by decide)).trans (rfl)))) ((ju_i _ _ (by decide)).trans ((ju_c _ _ (by decide)).trans (rfl))) (by omega)) (AS.up (AS.o (AS.o hAS (by decide) (Or.inl (by decide))) (by decide) (Or.inr (by decide))) (by omega)) (by rw [((ju_i _ _ (by decide)).trans ((ju_c _ _ (by decide)).trans hFv))] <;> omega) (phi.fr (M := M) (M' := (ju (ju M 686 hv a) 598 131 (hv + 1))) ((ju_i _ _ (by decide)).trans ((ju_c _ _ (by decide)).trans (rfl))) (fun i => ((ju_c _ _ (by decide)).trans ((ju_c _ _ (by decide)).trans (rfl))))) (by rw [((ju_i _ _ (by decide)).trans ((ju_c _ _ (by decide)).trans e63))] <;> omega) (by rw [((ju_i _ _ (by decide)).trans ((ju_c _ _ (by decide)).trans hP))] <;> omega) (by have z := pn (by omega); omega) (fun _ => by rw [(ju_same _ _ _ _), hP, q4]; omega) (by rw [((ju_i _ _ (by decide)).trans ((ju_c _ _ (by decide)).trans hst)), ((ju_i _ _ (by decide)).trans ((ju_c _ _ (by decide)).trans e64)), hst, hP]; first | (exact Or.inr ⟨by omega, by omega⟩) | (exact Or.inl ⟨by omega, cN (by omega) (by omega)⟩))
  · refine jr.tsw_k 5 rfl h1 rfl ?_
    refine jr.aload_n rfl rfl ?_
    refine jr.getf (i := 130) (v := .ref 686) rfl rfl (by decide) rfl (by decide) rfl rfl rfl rfl ?_
    refine jr.aload_n rfl rfl ?_
    refine jr.getf (i := 131) (x := hv) (v := .int (Int32.ofInt (hv))) rfl rfl (by decide) rfl (by decide) rfl rfl hhv rfl ?_
    refine jr.aload_n rfl rfl ?_
    refine jr.lload_n rfl rfl ?_
    refine jr.l2i rfl ?_
    refine jr.bipush rfl (by decide) ?_
    refine jr.idiv rfl (by decide) ?_
    have b65 : j_div a 16 = a / 16 := j_div_ex (by omega) (by omega)
    generalize j_div a 16 = v65 at b65 ⊢
    refine jr.lload_n rfl rfl ?_
    refine jr.l2i rfl ?_
    refine jr.bipush rfl (by decide) ?_
    refine jr.irem rfl (by decide) ?_
    have b66 : j_rem a 16 = a % 16 := j_rem_ex (by omega) (by omega)
    generalize j_rem a 16 = v66 at b66 ⊢
    refine jr_v rfl rfl (Or.inl rfl) rfl rfl (by decide) rfl ⟨rfl, Nat.le_of_ble_eq_true rfl, Nat.le_of_ble_eq_true rfl⟩ rfl (jc.deep (r_fieldOf hI_M hH_M hS_M  (by omega) (by omega) (by obtain ⟨k, f, e, f0, f1, k0, k1, k2, k3⟩ := q8 (by omega); have e1 : v65 = k := (by omega); have e2 : v66 = f := (by omega); rw [e1, e2]; exact ⟨k2, k3⟩) (fun r67 M67 hI_M67 hH_M67 hS_M67  z67 w67_0 w67_1 => ?_)) (by decide))
    refine jr.last (i := hv) (x := r67) rfl (by decide) rfl (by decide) (by omega) (by omega) ?_
    refine jr.aload_n rfl rfl ?_
    refine jr.dup rfl rfl ?_
    have e68 : M67 598 131 = hv := ((w67_1 131 (by decide) (by decide) (by decide) (by decide) (by decide)).trans hhv)
    refine jr.getf (i := 131) (x := hv) (v := .int (Int32.ofInt (hv))) rfl rfl (by decide) rfl (by decide) rfl rfl ((ju_c _ _ (by decide)).trans e68) rfl ?_
    refine jr.iconst rfl ?_
    refine jr.iadd rfl ?_
    refine jr.putf (i := 131) (x := (hv + 1)) rfl rfl (by decide) rfl (by decide) rfl rfl rfl rfl rfl ?_
    refine jr.goto rfl rfl ?_
    have e69 : M67 598 122 = Fv := ((w67_1 122 (by decide) (by decide) (by decide) (by decide) (by decide)).trans hFv)
    have y70 : (ju (ju M67 686 hv r67) 598 131 (hv + 1)) 598 122 = Fv := ((ju_i _ _ (by decide)).trans ((ju_c _ _ (by decide)).trans e69))
    obtain ⟨v71, e71⟩ : ∃ z, M 598 136 = z := ⟨_, rfl⟩
    have b71 : 0 ≤ v71 ∧ v71 ≤ 1 := by rw [← e71]; exact hI_M 598 136 (by decide)
    have e72 : M67 598 136 = v71 := ((w67_1 136 (by decide) (by decide) (by decide) (by decide) (by decide)).trans e71)
    have e73 : M67 598 132 = P := ((w67_1 132 (by decide) (by decide) (by decide) (by decide) (by decide)).trans hP)
    obtain ⟨v74, e74⟩ : ∃ z, M67 598 135 = z := ⟨_, rfl⟩
    have b74 : 0 ≤ v74 ∧ v74 ≤ 8 := by rw [← e74]; exact hI_M67 598 135 (by decide)
    have e75 : M67 598 143 = st := ((w67_1 143 (by decide) (by decide) (by decide) (by decide) (by decide)).trans hst)
    refine jr.pick [0] rfl rfl ?_
    exact r_act_L487 (L := L) (n := n) (ht := ht) q (ju (ju M67 686 hv r67) 598 131 (hv + 1))  (RI.u (RI.u hI_M67 (a := 686) (i := hv) (by rw [xri_row rfl rfl]; show (-9223372036854775808 : Int) ≤ _ ∧ _ ≤ (9223372036854775807 : Int); omega)) (a := 598) (i := 131) (show (0 : Int) ≤ _ ∧ _ ≤ (400 : Int) from by omega)) (RH.o (RH.o hH_M67 (by decide) (by decide) (by decide)) (by decide) (by decide) (by decide)) (RF.o (RF.o hS_M67 (by decide) (by decide)) (by decide) (by decide))  (fun a i f598 f602 f603 f604 f605 f624 f670 f671 f672 f673 f674 f675 f676 f677 f678 f679 f680 f681 f682 f683 f684 f685 f686 f687 => ((ju_c _ _ f598).trans ((ju_c _ _ f686).trans ((w67_0 a i f598 f603 f604 f605).trans rfl)))) (fun i g6 g10 g11 g12 g59 g60 g61 g62 g63 g64 g65 g66 g110 g112 g122 g131 g132 g134 g135 g136 g137 g138 g139 g143 g145 => ((ju_i _ _ g131).trans ((ju_c _ _ (by decide)).trans ((w67_1 i g6 g10 g11 g12 g135).trans rfl))))  (FRS.fr hFR (fun i => ((ju_c _ _ (by decide)).trans ((ju_c _ _ (by decide)).trans ((w67_0 679 i (by decide) (by decide) (by decide) (by decide)).trans (rfl))))) (fun i => ((ju_c _ _ (by decide)).trans ((ju_c _ _ (by decide)).trans ((w67_0 681 i (by decide) (by decide) (by decide) (by decide)).trans (rfl))))) (fun i => ((ju_c _ _ (by decide)).trans ((ju_c _ _ (by decide)).trans ((w67_0 654 i (by decide) (by decide) (by decide) (by decide)).trans (rfl))))) ((ju_i _ _ (by decide)).trans ((ju_c _ _ (by decide)).trans ((w67_1 82 (by decide) (by decide) (by decide) (by decide) (by decide)).trans (rfl)))) (by omega)) (AS.up (AS.o (AS.o (AS.fr hAS (fun i => w67_0 685 i (by decide) (by decide) (by decide) (by decide)) (w67_1 112 (by decide) (by decide) (by decide) (by decide) (by decide))) (by decide) (Or.inl (by decide))) (by decide) (Or.inr (by decide))) (by omega)) (by rw [((ju_i _ _ (by decide)).trans ((ju_c _ _ (by decide)).trans e69))] <;> omega) (phi.fr (M := M) (M' := (ju (ju M67 686 hv r67) 598 131 (hv + 1))) ((ju_i _ _ (by decide)).trans ((ju_c _ _ (by decide)).trans ((w67_1 122 (by decide) (by decide) (by decide) (by decide) (by decide)).trans (rfl)))) (fun i => ((ju_c _ _ (by decide)).trans ((ju_c _ _ (by decide)).trans ((w67_0 680 i (by decide) (by decide) (by decide) (by decide)).trans (rfl)))))) (by rw [((ju_i _ _ (by decide)).trans ((ju_c _ _ (by decide)).trans e72))] <;> omega) (by rw [((ju_i _ _ (by decide)).trans ((ju_c _ _ (by decide)).trans e73))] <;> omega) (by have z := pn (by omega); omega) (fun _ => by rw [(ju_same _ _ _ _), hP, q4]; omega) (by rw [((ju_i _ _ (by decide)).trans ((ju_c _ _ (by decide)).trans e75)), ((ju_i _ _ (by decide)).trans ((ju_c _ _ (by decide)).trans e74)), hst, hP]; first | (exact Or.inr ⟨by omega, by omega⟩) | (exact Or.inl ⟨by omega, cN (by omega) (by omega)⟩))
  · refine jr.tsw_k 6 rfl h1 rfl ?_
    refine jr.aload_n rfl rfl ?_
    refine jr.getf (i := 130) (v := .ref 686) rfl rfl (by decide) rfl (by decide) rfl rfl rfl rfl ?_
    refine jr.aload_n rfl rfl ?_
    refine jr.getf (i := 131) (x := hv) (v := .int (Int32.ofInt (hv))) rfl rfl (by decide) rfl (by decide) rfl rfl hhv rfl ?_
    refine jr.aload_n rfl rfl ?_
    refine jr.lload_n rfl rfl ?_
    refine jr.l2i rfl ?_
    refine jr.iw (j_w a) (j_w_eq _) ?_
    have b76 : -2147483648 ≤ j_w a ∧ j_w a ≤ 2147483647 := jb_any _
    generalize j_w a = v76 at b76 ⊢
    refine jr_v rfl rfl (Or.inl rfl) rfl rfl (by decide) rfl ⟨rfl, Nat.le_of_ble_eq_true rfl, Nat.le_of_ble_eq_true rfl⟩ rfl (jc.deep (r_first hI_M hH_M hS_M (Kp.rfl _) (by omega)  (fun r77 M77 hI_M77 hH_M77 hS_M77 ht_M77 z77 w77_0 w77_1 w77_2 => ?_)) (by decide))
    refine jr.iconst rfl ?_
    refine jr.icmp_ne rfl rfl (by omega) (by omega) (fun h320 => ?_) (fun h320 => ?_)
    · refine jr.lconst (x := 1) rfl (by decide) ?_
      refine jr.last (i := hv) (x := 1) rfl (by decide) rfl (by decide) (by omega) (by omega) ?_
      refine jr.aload_n rfl rfl ?_
      refine jr.dup rfl rfl ?_
      have e78 : M77 598 131 = hv := ((w77_2 131 (by decide) (by decide) (by decide) (by decide)).trans hhv)
      refine jr.getf (i := 131) (x := hv) (v := .int (Int32.ofInt (hv))) rfl rfl (by decide) rfl (by decide) rfl rfl ((ju_c _ _ (by decide)).trans e78) rfl ?_
      refine jr.iconst rfl ?_
      refine jr.iadd rfl ?_
      refine jr.putf (i := 131) (x := (hv + 1)) rfl rfl (by decide) rfl (by decide) rfl rfl rfl rfl rfl ?_
      refine jr.goto rfl rfl ?_
      have e79 : M77 598 122 = Fv := ((w77_2 122 (by decide) (by decide) (by decide) (by decide)).trans hFv)
      have y80 : (ju (ju M77 686 hv 1) 598 131 (hv + 1)) 598 122 = Fv := ((ju_i _ _ (by decide)).trans ((ju_c _ _ (by decide)).trans e79))
      obtain ⟨v81, e81⟩ : ∃ z, M 598 136 = z := ⟨_, rfl⟩
      have b81 : 0 ≤ v81 ∧ v81 ≤ 1 := by rw [← e81]; exact hI_M 598 136 (by decide)
      have e82 : M77 598 136 = v81 := ((w77_2 136 (by decide) (by decide) (by decide) (by decide)).trans e81)
      have e83 : M77 598 132 = P := ((w77_2 132 (by decide) (by decide) (by decide) (by decide)).trans hP)
      obtain ⟨v84, e84⟩ : ∃ z, M 598 135 = z := ⟨_, rfl⟩
      have b84 : 0 ≤ v84 ∧ v84 ≤ 8 := by rw [← e84]; exact hI_M 598 135 (by decide)
      have e85 : M77 598 135 = v84 := ((w77_2 135 (by decide) (by decide) (by decide) (by decide)).trans e84)
      have e86 : M77 598 143 = st := ((w77_2 143 (by decide) (by decide) (by decide) (by decide)).trans hst)
      refine jr.pick [0] rfl rfl ?_
      exact r_act_L487 (L := L) (n := n) (ht := ht) q (ju (ju M77 686 hv 1) 598 131 (hv + 1))  (RI.u (RI.u hI_M77 (a := 686) (i := hv) (by rw [xri_row rfl rfl]; show (-9223372036854775808 : Int) ≤ _ ∧ _ ≤ (9223372036854775807 : Int); omega)) (a := 598) (i := 131) (show (0 : Int) ≤ _ ∧ _ ≤ (400 : Int) from by omega)) (RH.o (RH.o hH_M77 (by decide) (by decide) (by decide)) (by decide) (by decide) (by decide)) (RF.o (RF.o hS_M77 (by decide) (by decide)) (by decide) (by decide))  (fun a i f598 f602 f603 f604 f605 f624 f670 f671 f672 f673 f674 f675 f676 f677 f678 f679 f680 f681 f682 f683 f684 f685 f686 f687 => ((ju_c _ _ f598).trans ((ju_c _ _ f686).trans ((w77_1 a i f598 f603 f604 f605).trans rfl)))) (fun i g6 g10 g11 g12 g59 g60 g61 g62 g63 g64 g65 g66 g110 g112 g122 g131 g132 g134 g135 g136 g137 g138 g139 g143 g145 => ((ju_i _ _ g131).trans ((ju_c _ _ (by decide)).trans ((w77_2 i g6 g10 g11 g12).trans rfl))))  (FRS.fr hFR (fun i => ((ju_c _ _ (by decide)).trans ((ju_c _ _ (by decide)).trans ((w77_1 679 i (by decide) (by decide) (by decide) (by decide)).trans (rfl))))) (fun i => ((ju_c _ _ (by decide)).trans ((ju_c _ _ (by decide)).trans ((w77_1 681 i (by decide) (by decide) (by decide) (by decide)).trans (rfl))))) (fun i => ((ju_c _ _ (by decide)).trans ((ju_c _ _ (by decide)).trans ((w77_1 654 i (by decide) (by decide) (by decide) (by decide)).trans (rfl))))) ((ju_i _ _ (by decide)).trans ((ju_c _ _ (by decide)).trans ((w77_2 82 (by decide) (by decide) (by decide) (by decide)).trans (rfl)))) (by omega)) (AS.up (AS.o (AS.o (AS.fr hAS (fun i => (ht_M77 685 i rfl)) (ht_M77 598 112 rfl)) (by decide) (Or.inl (by decide))) (by decide) (Or.inr (by decide))) (by omega)) (by rw [((ju_i _ _ (by decide)).trans ((ju_c _ _ (by decide)).trans e79))] <;> omega) (phi.fr (M := M) (M' := (ju (ju M77 686 hv 1) 598 131 (hv + 1))) ((ju_i _ _ (by decide)).trans ((ju_c _ _ (by decide)).trans ((w77_2 122 (by decide) (by decide) (by decide) (by decide)).trans (rfl)))) (fun i => ((ju_c _ _ (by decide)).trans ((ju_c _ _ (by decide)).trans ((w77_1 680 i (by decide) (by decide) (by decide) (by decide)).trans (rfl)))))) (by rw [((ju_i _ _ (by decide)).trans ((ju_c _ _ (by decide)).trans e82))] <;> omega) (by rw [((ju_i _ _ (by decide)).trans ((ju_c _ _ (by decide)).trans e83))] <;> omega) (by have z := pn (by omega); omega) (fun _ => by rw [(ju_same _ _ _ _), hP, q4]; omega) (by rw [((ju_i _ _ (by decide)).trans ((ju_c _ _ (by decide)).trans e86)), ((ju_i _ _ (by decide)).trans ((ju_c _ _ (by decide)).trans e85)), hst, hP]; first | (exact Or.inr ⟨by omega, by omega⟩) | (exact Or.inl ⟨by omega, cN (by omega) (by omega)⟩))
    · refine jr.lconst (x := 0) rfl (by decide) ?_
      refine jr.goto rfl rfl ?_
      refine jr.last (i := hv) (x := 0) rfl (by decide) rfl (by decide) (by omega) (by omega) ?_
      refine jr.aload_n rfl rfl ?_
      refine jr.dup rfl rfl ?_
      have e87 : M77 598 131 = hv := ((w77_2 131 (by decide) (by decide) (by decide) (by decide)).trans hhv)
      refine jr.getf (i := 131) (x := hv) (v := .int (Int32.ofInt (hv))) rfl rfl (by decide) rfl (by decide) rfl rfl ((ju_c _ _ (by decide)).trans e87) rfl ?_
      refine jr.iconst rfl ?_
      refine jr.iadd rfl ?_
      refine jr.putf (i := 131) (x := (hv + 1)) rfl rfl (by decide) rfl (by decide) rfl rfl rfl rfl rfl ?_
      refine jr.goto rfl rfl ?_
      have e88 : M77 598 122 = Fv := ((w77_2 122 (by decide) (by decide) (by decide) (by decide)).trans hFv)
      have y89 : (ju (ju M77 686 hv 0) 598 131 (hv + 1)) 598 122 = Fv := ((ju_i _ _ (by decide)).trans ((ju_c _ _ (by decide)).trans e88))
      obtain ⟨v90, e90⟩ : ∃ z, M 598 136 = z := ⟨_, rfl⟩
      have b90 : 0 ≤ v90 ∧ v90 ≤ 1 := by rw [← e90]; exact hI_M 598 136 (by decide)
      have e91 : M77 598 136 = v90 := ((w77_2 136 (by decide) (by decide) (by decide) (by decide)).trans e90)
      have e92 : M77 598 132 = P := ((w77_2 132 (by decide) (by decide) (by decide) (by decide)).trans hP)
      obtain ⟨v93, e93⟩ : ∃ z, M 598 135 = z := ⟨_, rfl⟩
      have b93 : 0 ≤ v93 ∧ v93 ≤ 8 := by rw [← e93]; exact hI_M 598 135 (by decide)
      have e94 : M77 598 135 = v93 := ((w77_2 135 (by decide) (by decide) (by decide) (by decide)).trans e93)
      have e95 : M77 598 143 = st := ((w77_2 143 (by decide) (by decide) (by decide) (by decide)).trans hst)
      refine jr.pick [0] rfl rfl ?_
      exact r_act_L487 (L := L) (n := n) (ht := ht) q (ju (ju M77 686 hv 0) 598 131 (hv + 1))  (RI.u (RI.u hI_M77 (a := 686) (i := hv) (by rw [xri_row rfl rfl]; show (-9223372036854775808 : Int) ≤ _ ∧ _ ≤ (9223372036854775807 : Int); omega)) (a := 598) (i := 131) (show (0 : Int) ≤ _ ∧ _ ≤ (400 : Int) from by omega)) (RH.o (RH.o hH_M77 (by decide) (by decide) (by decide)) (by decide) (by decide) (by decide)) (RF.o (RF.o hS_M77 (by decide) (by decide)) (by decide) (by decide))  (fun a i f598 f602 f603 f604 f605 f624 f670 f671 f672 f673 f674 f675 f676 f677 f678 f679 f680 f681 f682 f683 f684 f685 f686 f687 => ((ju_c _ _ f598).trans ((ju_c _ _ f686).trans ((w77_1 a i f598 f603 f604 f605).trans rfl)))) (fun i g6 g10 g11 g12 g59 g60 g61 g62 g63 g64 g65 g66 g110 g112 g122 g131 g132 g134 g135 g136 g137 g138 g139 g143 g145 => ((ju_i _ _ g131).trans ((ju_c _ _ (by decide)).trans ((w77_2 i g6 g10 g11 g12).trans rfl))))  (FRS.fr hFR (fun i => ((ju_c _ _ (by decide)).trans ((ju_c _ _ (by decide)).trans ((w77_1 679 i (by decide) (by decide) (by decide) (by decide)).trans (rfl))))) (fun i => ((ju_c _ _ (by decide)).trans ((ju_c _ _ (by decide)).trans ((w77_1 681 i (by decide) (by decide) (by decide) (by decide)).trans (rfl))))) (fun i => ((ju_c _ _ (by decide)).trans ((ju_c _ _ (by decide)).trans ((w77_1 654 i (by decide) (by decide) (by decide) (by decide)).trans (rfl))))) ((ju_i _ _ (by decide)).trans ((ju_c _ _ (by decide)).trans ((w77_2 82 (by decide) (by decide) (by decide) (by decide)).trans (rfl)))) (by omega)) (AS.up (AS.o (AS.o (AS.fr hAS (fun i => (ht_M77 685 i rfl)) (ht_M77 598 112 rfl)) (by decide) (Or.inl (by decide))) (by decide) (Or.inr (by decide))) (by omega)) (by rw [((ju_i _ _ (by decide)).trans ((ju_c _ _ (by decide)).trans e88))] <;> omega) (phi.fr (M := M) (M' := (ju (ju M77 686 hv 0) 598 131 (hv + 1))) ((ju_i _ _ (by decide)).trans ((ju_c _ _ (by decide)).trans ((w77_2 122 (by decide) (by decide) (by decide) (by decide)).trans (rfl)))) (fun i => ((ju_c _ _ (by decide)).trans ((ju_c _ _ (by decide)).trans ((w77_1 680 i (by decide) (by decide) (by decide) (by decide)).trans (rfl)))))) (by rw [((ju_i _ _ (by decide)).trans ((ju_c _ _ (by decide)).trans e91))] <;> omega) (by rw [((ju_i _ _ (by decide)).trans ((ju_c _ _ (by decide)).trans e92))] <;> omega) (by have z := pn (by omega); omega) (fun _ => by rw [(ju_same _ _ _ _), hP, q4]; omega) (by rw [((ju_i _ _ (by decide)).trans ((ju_c _ _ (by decide)).trans e95)), ((ju_i _ _ (by decide)).trans ((ju_c _ _ (by decide)).trans e94)), hst, hP]; first | (exact Or.inr ⟨by omega, by omega⟩) | (exact Or.inl ⟨by omega, cN (by omega) (by omega)⟩))
  · refine jr.tsw_k 7 rfl h1 rfl ?_
    refine jr.aload_n rfl rfl ?_
    refine jr.getf (i := 130) (v := .ref 686) rfl rfl (by decide) rfl (by decide) rfl rfl rfl rfl ?_
    refine jr.aload_n rfl rfl ?_
    refine jr.getf (i := 131) (x := hv) (v := .int (Int32.ofInt (hv))) rfl rfl (by decide) rfl (by decide) rfl rfl hhv rfl ?_
    refine jr.iconst rfl ?_
    refine jr.isub rfl ?_
    obtain ⟨v96, e96⟩ : ∃ z, M 686 (hv - 1) = z := ⟨_, rfl⟩
    have b96 : (-9223372036854775808) ≤ v96 ∧ v96 ≤ 9223372036854775807 := by rw [← e96]; exact (by have q := hI_M 686 (hv - 1) (by decide); rw [xri_row rfl rfl] at q; exact q)
    refine jr.lald (i := (hv - 1)) (x := v96) rfl (by decide) rfl (by decide) (by omega) (by omega) e96 ?_
    refine jr.lconst (x := 0) rfl (by decide) ?_
    refine jr.lcmp_eq rfl rfl rfl (by omega) (by omega) (fun h178 => ?_) (fun h178 => ?_)
    · refine jr.iconst rfl ?_
      refine jr.istore rfl (by decide) rfl ?_
      refine jr.iload rfl rfl ?_
      refine jr.iload_n rfl rfl ?_
      refine jr.bipush rfl (by decide) ?_
      refine jr.icmp_ne rfl rfl (by omega) (by omega) (fun h194 => ?_) (fun h194 => ?_)
      · refine jr.iconst rfl ?_
        refine jr.icmp_ne rfl rfl (by omega) (by omega) (fun h => absurd h (by decide)) (fun _ => ?_)
        refine jr.aload_n rfl rfl ?_
        refine jr.getf (i := 130) (v := .ref 686) rfl rfl (by decide) rfl (by decide) rfl rfl rfl rfl ?_
        refine jr.aload_n rfl rfl ?_
        refine jr.getf (i := 131) (x := hv) (v := .int (Int32.ofInt (hv))) rfl rfl (by decide) rfl (by decide) rfl rfl hhv rfl ?_
        refine jr.iconst rfl ?_
        refine jr.isub rfl ?_
        refine jr.iload rfl rfl ?_
        refine jr.if_eq rfl rfl (by omega) (fun _ => ?_) (fun h => absurd (by decide) h)
        refine jr.lconst (x := 0) rfl (by decide) ?_
        refine jr.last (i := (hv - 1)) (x := 0) rfl (by decide) rfl (by decide) (by omega) (by omega) ?_
        refine jr.aload_n rfl rfl ?_
        refine jr.lload_n rfl rfl ?_
        refine jr.l2i rfl ?_
        refine jr.putf (i := 132) (x := a) rfl rfl (by decide) rfl (by decide) rfl rfl rfl rfl rfl ?_
        have y97 : (ju (ju M 686 (hv - 1) 0) 598 132 a) 598 122 = Fv := ((ju_i _ _ (by decide)).trans ((ju_c _ _ (by decide)).trans hFv))
        have y98 : (ju (ju M 686 (hv - 1) 0) 598 132 a) 598 131 = hv := ((ju_i _ _ (by decide)).trans ((ju_c _ _ (by decide)).trans hhv))
        have y99 : (ju (ju M 686 (hv - 1) 0) 598 132 a) 598 132 = a := (ju_same _ _ _ _)
        obtain ⟨v100, e100⟩ : ∃ z, M 598 135 = z := ⟨_, rfl⟩
        have b100 : 0 ≤ v100 ∧ v100 ≤ 8 := by rw [← e100]; exact hI_M 598 135 (by decide)
        have y101 : (ju (ju M 686 (hv - 1) 0) 598 132 a) 598 135 = v100 := ((ju_i _ _ (by decide)).trans ((ju_c _ _ (by decide)).trans e100))
        obtain ⟨v102, e102⟩ : ∃ z, M 598 136 = z := ⟨_, rfl⟩
        have b102 : 0 ≤ v102 ∧ v102 ≤ 1 := by rw [← e102]; exact hI_M 598 136 (by decide)
        have y103 : (ju (ju M 686 (hv - 1) 0) 598 132 a) 598 136 = v102 := ((ju_i _ _ (by decide)).trans ((ju_c _ _ (by decide)).trans e102))
        have y104 : (ju (ju M 686 (hv - 1) 0) 598 132 a) 598 143 = st := ((ju_i _ _ (by decide)).trans ((ju_c _ _ (by decide)).trans hst))
        obtain ⟨t1, t2, t3, t4⟩ := (q7 (by unfold jpo; omega)).resolve_left id
        have zph : phi (ju (ju M 686 (hv - 1) 0) 598 132 a) = phi M := (phi.fr (M := M) (M' := (ju (ju M 686 (hv - 1) 0) 598 132 a)) ((ju_i _ _ (by decide)).trans ((ju_c _ _ (by decide)).trans (rfl))) (fun i => ((ju_c _ _ (by decide)).trans ((ju_c _ _ (by decide)).trans (rfl)))))
        have zm := mu.eq (M := (ju (ju M 686 (hv - 1) 0) 598 132 a)) ((ju_i _ _ (by decide)).trans ((ju_c _ _ (by decide)).trans hst)) zph (ju_same _ _ _ _) (show cr ((ju (ju M 686 (hv - 1) 0) 598 132 a) 654) a = 0 by rw [show (ju (ju M 686 (hv - 1) 0) 598 132 a) 654 = M 654 from funext (fun i => ((ju_c _ _ (by decide)).trans ((ju_c _ _ (by decide)).trans (rfl))))]; exact MX.cr0 hMX (by omega) (by omega) t4)
        exact jr.vreturn rfl rfl (q _ (RI.u (RI.u hI_M (a := 686) (i := (hv - 1)) (by rw [xri_row rfl rfl]; show (-9223372036854775808 : Int) ≤ _ ∧ _ ≤ (9223372036854775807 : Int); omega)) (a := 598) (i := 132) (show (0 : Int) ≤ _ ∧ _ ≤ (2200 : Int) from by omega)) (RH.o (RH.o hH_M (by decide) (by decide) (by decide)) (by decide) (by decide) (by decide)) (RF.o (RF.o hS_M (by decide) (by decide)) (by decide) (by decide))  (AS.up (AS.o (AS.o hAS (by decide) (Or.inl (by decide))) (by decide) (Or.inr (by decide))) (by omega)) (Or.inr ⟨by omega, (FRS.fr hFR (fun i => ((ju_c _ _ (by decide)).trans ((ju_c _ _ (by decide)).trans (rfl)))) (fun i => ((ju_c _ _ (by decide)).trans ((ju_c _ _ (by decide)).trans (rfl)))) (fun i => ((ju_c _ _ (by decide)).trans ((ju_c _ _ (by decide)).trans (rfl)))) ((ju_i _ _ (by decide)).trans ((ju_c _ _ (by decide)).trans (rfl))) (by omega)), by omega, by omega, Or.inr ⟨by omega, by omega, by omega, (by rw [((ju_i _ _ (by decide)).trans ((ju_c _ _ (by decide)).trans hhv)), (ju_same _ _ _ _), t3]; split <;> omega), by omega⟩⟩) (fun a i f598 f602 f603 f604 f605 f624 f670 f671 f672 f673 f674 f675 f676 f677 f678 f679 f680 f681 f682 f683 f684 f685 f686 f687 => ((ju_c _ _ f598).trans ((ju_c _ _ f686).trans rfl))) (fun i g6 g10 g11 g12 g59 g60 g61 g62 g63 g64 g65 g66 g110 g112 g122 g131 g132 g134 g135 g136 g137 g138 g139 g143 g145 => ((ju_i _ _ g132).trans ((ju_c _ _ (by decide)).trans rfl))))
      · exact absurd (by omega) h194
    · refine jr.iconst rfl ?_
      refine jr.goto rfl rfl ?_
      refine jr.istore rfl (by decide) rfl ?_
      refine jr.iload rfl rfl ?_
      refine jr.iload_n rfl rfl ?_
      refine jr.bipush rfl (by decide) ?_
      refine jr.icmp_ne rfl rfl (by omega) (by omega) (fun h194 => ?_) (fun h194 => ?_)
      · refine jr.iconst rfl ?_
        refine jr.icmp_ne rfl rfl (by omega) (by omega) (fun _ => ?_) (fun h => absurd (by decide) h)
        refine jr.aload_n rfl rfl ?_
        refine jr.dup rfl rfl ?_
        refine jr.getf (i := 131) (x := hv) (v := .int (Int32.ofInt (hv))) rfl rfl (by decide) rfl (by decide) rfl rfl hhv rfl ?_
        refine jr.iconst rfl ?_
        refine jr.isub rfl ?_
        refine jr.putf (i := 131) (x := (hv - 1)) rfl rfl (by decide) rfl (by decide) rfl rfl rfl rfl rfl ?_
        refine jr.goto rfl rfl ?_
        have y105 : (ju M 598 131 (hv - 1)) 598 122 = Fv := ((ju_i _ _ (by decide)).trans hFv)
        obtain ⟨v106, e106⟩ : ∃ z, M 598 136 = z := ⟨_, rfl⟩
        have b106 : 0 ≤ v106 ∧ v106 ≤ 1 := by rw [← e106]; exact hI_M 598 136 (by decide)
        obtain ⟨v107, e107⟩ : ∃ z, M 598 135 = z := ⟨_, rfl⟩
        have b107 : 0 ≤ v107 ∧ v107 ≤ 8 := by rw [← e107]; exact hI_M 598 135 (by decide)
        refine jr.pick [1] rfl rfl ?_
        exact r_act_L487 (L := L) (n := n) (ht := ht) q (ju M 598 131 (hv - 1))  (RI.u hI_M (a := 598) (i := 131) (show (0 : Int) ≤ _ ∧ _ ≤ (400 : Int) from by omega)) (RH.o hH_M (by decide) (by decide) (by decide)) (RF.o hS_M (by decide) (by decide))  (fun a i f598 f602 f603 f604 f605 f624 f670 f671 f672 f673 f674 f675 f676 f677 f678 f679 f680 f681 f682 f683 f684 f685 f686 f687 => ((ju_c _ _ f598).trans rfl)) (fun i g6 g10 g11 g12 g59 g60 g61 g62 g63 g64 g65 g66 g110 g112 g122 g131 g132 g134 g135 g136 g137 g138 g139 g143 g145 => ((ju_i _ _ g131).trans rfl))  (FRS.fr hFR (fun i => ((ju_c _ _ (by decide)).trans (rfl))) (fun i => ((ju_c _ _ (by decide)).trans (rfl))) (fun i => ((ju_c _ _ (by decide)).trans (rfl))) ((ju_i _ _ (by decide)).trans (rfl)) (by omega)) (AS.up (AS.o hAS (by decide) (Or.inr (by decide))) (by omega)) (by rw [((ju_i _ _ (by decide)).trans hFv)] <;> omega) (phi.fr (M := M) (M' := (ju M 598 131 (hv - 1))) ((ju_i _ _ (by decide)).trans (rfl)) (fun i => ((ju_c _ _ (by decide)).trans (rfl)))) (by rw [((ju_i _ _ (by decide)).trans e106)] <;> omega) (by rw [((ju_i _ _ (by decide)).trans hP)] <;> omega) (by have z := pn (by omega); omega) (fun _ => by rw [(ju_same _ _ _ _), hP, q4]; omega) (by rw [((ju_i _ _ (by decide)).trans hst), ((ju_i _ _ (by decide)).trans e107), hst, hP]; first | (exact Or.inr ⟨by omega, by omega⟩) | (exact Or.inl ⟨by omega, cN (by omega) (by omega)⟩))
      · exact absurd (by omega) h194
  · refine jr.tsw_k 8 rfl h1 rfl ?_
    refine jr.aload_n rfl rfl ?_
    refine jr.getf (i := 130) (v := .ref 686) rfl rfl (by decide) rfl (by decide) rfl rfl rfl rfl ?_
    refine jr.aload_n rfl rfl ?_
    refine jr.getf (i := 131) (x := hv) (v := .int (Int32.ofInt (hv))) rfl rfl (by decide) rfl (by decide) rfl rfl hhv rfl ?_
    refine jr.iconst rfl ?_
    refine jr.isub rfl ?_
    obtain ⟨v108, e108⟩ : ∃ z, M 686 (hv - 1) = z := ⟨_, rfl⟩
    have b108 : (-9223372036854775808) ≤ v108 ∧ v108 ≤ 9223372036854775807 := by rw [← e108]; exact (by have q := hI_M 686 (hv - 1) (by decide); rw [xri_row rfl rfl] at q; exact q)
    refine jr.lald (i := (hv - 1)) (x := v108) rfl (by decide) rfl (by decide) (by omega) (by omega) e108 ?_
    refine jr.lconst (x := 0) rfl (by decide) ?_
    refine jr.lcmp_eq rfl rfl rfl (by omega) (by omega) (fun h178 => ?_) (fun h178 => ?_)
    · refine jr.iconst rfl ?_
      refine jr.istore rfl (by decide) rfl ?_
      refine jr.iload rfl rfl ?_
      refine jr.iload_n rfl rfl ?_
      refine jr.bipush rfl (by decide) ?_
      refine jr.icmp_ne rfl rfl (by omega) (by omega) (fun h194 => ?_) (fun h194 => ?_)
      · exact absurd h194 (by omega)
      · refine jr.iconst rfl ?_
        refine jr.goto rfl rfl ?_
        refine jr.icmp_ne rfl rfl (by omega) (by omega) (fun _ => ?_) (fun h => absurd (by decide) h)
        refine jr.aload_n rfl rfl ?_
        refine jr.dup rfl rfl ?_
        refine jr.getf (i := 131) (x := hv) (v := .int (Int32.ofInt (hv))) rfl rfl (by decide) rfl (by decide) rfl rfl hhv rfl ?_
        refine jr.iconst rfl ?_
        refine jr.isub rfl ?_
        refine jr.putf (i := 131) (x := (hv - 1)) rfl rfl (by decide) rfl (by decide) rfl rfl rfl rfl rfl ?_
        refine jr.goto rfl rfl ?_
        have y109 : (ju M 598 131 (hv - 1)) 598 122 = Fv := ((ju_i _ _ (by decide)).trans hFv)
        obtain ⟨v110, e110⟩ : ∃ z, M 598 136 = z := ⟨_, rfl⟩
        have b110 : 0 ≤ v110 ∧ v110 ≤ 1 := by rw [← e110]; exact hI_M 598 136 (by decide)
        obtain ⟨v111, e111⟩ : ∃ z, M 598 135 = z := ⟨_, rfl⟩
        have b111 : 0 ≤ v111 ∧ v111 ≤ 8 := by rw [← e111]; exact hI_M 598 135 (by decide)
        refine jr.pick [1] rfl rfl ?_
        exact r_act_L487 (L := L) (n := n) (ht := ht) q (ju M 598 131 (hv - 1))  (RI.u hI_M (a := 598) (i := 131) (show (0 : Int) ≤ _ ∧ _ ≤ (400 : Int) from by omega)) (RH.o hH_M (by decide) (by decide) (by decide)) (RF.o hS_M (by decide) (by decide))  (fun a i f598 f602 f603 f604 f605 f624 f670 f671 f672 f673 f674 f675 f676 f677 f678 f679 f680 f681 f682 f683 f684 f685 f686 f687 => ((ju_c _ _ f598).trans rfl)) (fun i g6 g10 g11 g12 g59 g60 g61 g62 g63 g64 g65 g66 g110 g112 g122 g131 g132 g134 g135 g136 g137 g138 g139 g143 g145 => ((ju_i _ _ g131).trans rfl))  (FRS.fr hFR (fun i => ((ju_c _ _ (by decide)).trans (rfl))) (fun i => ((ju_c _ _ (by decide)).trans (rfl))) (fun i => ((ju_c _ _ (by decide)).trans (rfl))) ((ju_i _ _ (by decide)).trans (rfl)) (by omega)) (AS.up (AS.o hAS (by decide) (Or.inr (by decide))) (by omega)) (by rw [((ju_i _ _ (by decide)).trans hFv)] <;> omega) (phi.fr (M := M) (M' := (ju M 598 131 (hv - 1))) ((ju_i _ _ (by decide)).trans (rfl)) (fun i => ((ju_c _ _ (by decide)).trans (rfl)))) (by rw [((ju_i _ _ (by decide)).trans e110)] <;> omega) (by rw [((ju_i _ _ (by decide)).trans hP)] <;> omega) (by have z := pn (by omega); omega) (fun _ => by rw [(ju_same _ _ _ _), hP, q4]; omega) (by rw [((ju_i _ _ (by decide)).trans hst), ((ju_i _ _ (by decide)).trans e111), hst, hP]; first | (exact Or.inr ⟨by omega, by omega⟩) | (exact Or.inl ⟨by omega, cN (by omega) (by omega)⟩))
    · refine jr.iconst rfl ?_
      refine jr.goto rfl rfl ?_
      refine jr.istore rfl (by decide) rfl ?_
      refine jr.iload rfl rfl ?_
      refine jr.iload_n rfl rfl ?_
      refine jr.bipush rfl (by decide) ?_
      refine jr.icmp_ne rfl rfl (by omega) (by omega) (fun h194 => ?_) (fun h194 => ?_)
      · exact absurd h194 (by omega)
      · refine jr.iconst rfl ?_
        refine jr.goto rfl rfl ?_
        refine jr.icmp_ne rfl rfl (by omega) (by omega) (fun h => absurd h (by decide)) (fun _ => ?_)
        refine jr.aload_n rfl rfl ?_
        refine jr.getf (i := 130) (v := .ref 686) rfl rfl (by decide) rfl (by decide) rfl rfl rfl rfl ?_
        refine jr.aload_n rfl rfl ?_
        refine jr.getf (i := 131) (x := hv) (v := .int (Int32.ofInt (hv))) rfl rfl (by decide) rfl (by decide) rfl rfl hhv rfl ?_
        refine jr.iconst rfl ?_
        refine jr.isub rfl ?_
        refine jr.iload rfl rfl ?_
        refine jr.if_eq rfl rfl (by omega) (fun h => absurd h (by decide)) (fun _ => ?_)
        refine jr.lconst (x := 1) rfl (by decide) ?_
        refine jr.goto rfl rfl ?_
        refine jr.last (i := (hv - 1)) (x := 1) rfl (by decide) rfl (by decide) (by omega) (by omega) ?_
        refine jr.aload_n rfl rfl ?_
        refine jr.lload_n rfl rfl ?_
        refine jr.l2i rfl ?_
        refine jr.putf (i := 132) (x := a) rfl rfl (by decide) rfl (by decide) rfl rfl rfl rfl rfl ?_
        have y112 : (ju (ju M 686 (hv - 1) 1) 598 132 a) 598 122 = Fv := ((ju_i _ _ (by decide)).trans ((ju_c _ _ (by decide)).trans hFv))
        have y113 : (ju (ju M 686 (hv - 1) 1) 598 132 a) 598 131 = hv := ((ju_i _ _ (by decide)).trans ((ju_c _ _ (by decide)).trans hhv))
        have y114 : (ju (ju M 686 (hv - 1) 1) 598 132 a) 598 132 = a := (ju_same _ _ _ _)
        obtain ⟨v115, e115⟩ : ∃ z, M 598 135 = z := ⟨_, rfl⟩
        have b115 : 0 ≤ v115 ∧ v115 ≤ 8 := by rw [← e115]; exact hI_M 598 135 (by decide)
        have y116 : (ju (ju M 686 (hv - 1) 1) 598 132 a) 598 135 = v115 := ((ju_i _ _ (by decide)).trans ((ju_c _ _ (by decide)).trans e115))
        obtain ⟨v117, e117⟩ : ∃ z, M 598 136 = z := ⟨_, rfl⟩
        have b117 : 0 ≤ v117 ∧ v117 ≤ 1 := by rw [← e117]; exact hI_M 598 136 (by decide)
        have y118 : (ju (ju M 686 (hv - 1) 1) 598 132 a) 598 136 = v117 := ((ju_i _ _ (by decide)).trans ((ju_c _ _ (by decide)).trans e117))
        have y119 : (ju (ju M 686 (hv - 1) 1) 598 132 a) 598 143 = st := ((ju_i _ _ (by decide)).trans ((ju_c _ _ (by decide)).trans hst))
        obtain ⟨t1, t2, t3, t4⟩ := (q7 (by unfold jpo; omega)).resolve_left id
        have zph : phi (ju (ju M 686 (hv - 1) 1) 598 132 a) = phi M := (phi.fr (M := M) (M' := (ju (ju M 686 (hv - 1) 1) 598 132 a)) ((ju_i _ _ (by decide)).trans ((ju_c _ _ (by decide)).trans (rfl))) (fun i => ((ju_c _ _ (by decide)).trans ((ju_c _ _ (by decide)).trans (rfl)))))
        have zm := mu.eq (M := (ju (ju M 686 (hv - 1) 1) 598 132 a)) ((ju_i _ _ (by decide)).trans ((ju_c _ _ (by decide)).trans hst)) zph (ju_same _ _ _ _) (show cr ((ju (ju M 686 (hv - 1) 1) 598 132 a) 654) a = 0 by rw [show (ju (ju M 686 (hv - 1) 1) 598 132 a) 654 = M 654 from funext (fun i => ((ju_c _ _ (by decide)).trans ((ju_c _ _ (by decide)).trans (rfl))))]; exact MX.cr0 hMX (by omega) (by omega) t4)
        exact jr.vreturn rfl rfl (q _ (RI.u (RI.u hI_M (a := 686) (i := (hv - 1)) (by rw [xri_row rfl rfl]; show (-9223372036854775808 : Int) ≤ _ ∧ _ ≤ (9223372036854775807 : Int); omega)) (a := 598) (i := 132) (show (0 : Int) ≤ _ ∧ _ ≤ (2200 : Int) from by omega)) (RH.o (RH.o hH_M (by decide) (by decide) (by decide)) (by decide) (by decide) (by decide)) (RF.o (RF.o hS_M (by decide) (by decide)) (by decide) (by decide))  (AS.up (AS.o (AS.o hAS (by decide) (Or.inl (by decide))) (by decide) (Or.inr (by decide))) (by omega)) (Or.inr ⟨by omega, (FRS.fr hFR (fun i => ((ju_c _ _ (by decide)).trans ((ju_c _ _ (by decide)).trans (rfl)))) (fun i => ((ju_c _ _ (by decide)).trans ((ju_c _ _ (by decide)).trans (rfl)))) (fun i => ((ju_c _ _ (by decide)).trans ((ju_c _ _ (by decide)).trans (rfl)))) ((ju_i _ _ (by decide)).trans ((ju_c _ _ (by decide)).trans (rfl))) (by omega)), by omega, by omega, Or.inr ⟨by omega, by omega, by omega, (by rw [((ju_i _ _ (by decide)).trans ((ju_c _ _ (by decide)).trans hhv)), (ju_same _ _ _ _), t3]; split <;> omega), by omega⟩⟩) (fun a i f598 f602 f603 f604 f605 f624 f670 f671 f672 f673 f674 f675 f676 f677 f678 f679 f680 f681 f682 f683 f684 f685 f686 f687 => ((ju_c _ _ f598).trans ((ju_c _ _ f686).trans rfl))) (fun i g6 g10 g11 g12 g59 g60 g61 g62 g63 g64 g65 g66 g110 g112 g122 g131 g132 g134 g135 g136 g137 g138 g139 g143 g145 => ((ju_i _ _ g132).trans ((ju_c _ _ (by decide)).trans rfl))))
  · refine jr.tsw_k 9 rfl h1 rfl ?_
    refine jr.aload_n rfl rfl ?_
    refine jr.getf (i := 130) (v := .ref 686) rfl rfl (by decide) rfl (by decide) rfl rfl rfl rfl ?_
    refine jr.aload_n rfl rfl ?_
    refine jr.getf (i := 131) (x := hv) (v := .int (Int32.ofInt (hv))) rfl rfl (by decide) rfl (by decide) rfl rfl hhv rfl ?_
    refine jr.iconst rfl ?_
    refine jr.isub rfl ?_
    refine jr.aload_n rfl rfl ?_
    refine jr.getf (i := 130) (v := .ref 686) rfl rfl (by decide) rfl (by decide) rfl rfl rfl rfl ?_
    refine jr.aload_n rfl rfl ?_
    refine jr.getf (i := 131) (x := hv) (v := .int (Int32.ofInt (hv))) rfl rfl (by decide) rfl (by decide) rfl rfl hhv rfl ?_
    refine jr.iconst rfl ?_
    refine jr.isub rfl ?_
    obtain ⟨v120, e120⟩ : ∃ z, M 686 (hv - 1) = z := ⟨_, rfl⟩
    have b120 : (-9223372036854775808) ≤ v120 ∧ v120 ≤ 9223372036854775807 := by rw [← e120]; exact (by have q := hI_M 686 (hv - 1) (by decide); rw [xri_row rfl rfl] at q; exact q)
    refine jr.lald (i := (hv - 1)) (x := v120) rfl (by decide) rfl (by decide) (by omega) (by omega) e120 ?_
    refine jr.lconst (x := 0) rfl (by decide) ?_
    refine jr.lcmp_eq rfl rfl rfl (by omega) (by omega) (fun h364 => ?_) (fun h364 => ?_)
    · refine jr.lconst (x := 0) rfl (by decide) ?_
      refine jr.last (i := (hv - 1)) (x := 0) rfl (by decide) rfl (by decide) (by omega) (by omega) ?_
      refine jr.goto rfl rfl ?_
      have y121 : (ju M 686 (hv - 1) 0) 598 122 = Fv := ((ju_c _ _ (by decide)).trans hFv)
      obtain ⟨v122, e122⟩ : ∃ z, M 598 136 = z := ⟨_, rfl⟩
      have b122 : 0 ≤ v122 ∧ v122 ≤ 1 := by rw [← e122]; exact hI_M 598 136 (by decide)
      obtain ⟨v123, e123⟩ : ∃ z, M 598 135 = z := ⟨_, rfl⟩
      have b123 : 0 ≤ v123 ∧ v123 ≤ 8 := by rw [← e123]; exact hI_M 598 135 (by decide)
      refine jr.pick [0] rfl rfl ?_
      exact r_act_L487 (L := L) (n := n) (ht := ht) q (ju M 686 (hv - 1) 0)  (RI.u hI_M (a := 686) (i := (hv - 1)) (by rw [xri_row rfl rfl]; show (-9223372036854775808 : Int) ≤ _ ∧ _ ≤ (9223372036854775807 : Int); omega)) (RH.o hH_M (by decide) (by decide) (by decide)) (RF.o hS_M (by decide) (by decide))  (fun a i f598 f602 f603 f604 f605 f624 f670 f671 f672 f673 f674 f675 f676 f677 f678 f679 f680 f681 f682 f683 f684 f685 f686 f687 => ((ju_c _ _ f686).trans rfl)) (fun i g6 g10 g11 g12 g59 g60 g61 g62 g63 g64 g65 g66 g110 g112 g122 g131 g132 g134 g135 g136 g137 g138 g139 g143 g145 => ((ju_c _ _ (by decide)).trans rfl))  (FRS.fr hFR (fun i => ((ju_c _ _ (by decide)).trans (rfl))) (fun i => ((ju_c _ _ (by decide)).trans (rfl))) (fun i => ((ju_c _ _ (by decide)).trans (rfl))) ((ju_c _ _ (by decide)).trans (rfl)) (by omega)) (AS.up (AS.o hAS (by decide) (Or.inl (by decide))) (by omega)) (by rw [((ju_c _ _ (by decide)).trans hFv)] <;> omega) (phi.fr (M := M) (M' := (ju M 686 (hv - 1) 0)) ((ju_c _ _ (by decide)).trans (rfl)) (fun i => ((ju_c _ _ (by decide)).trans (rfl)))) (by rw [((ju_c _ _ (by decide)).trans e122)] <;> omega) (by rw [((ju_c _ _ (by decide)).trans hP)] <;> omega) (by have z := pn (by omega); omega) (fun _ => by rw [((ju_c _ _ (by decide)).trans hhv), hP, q4]; omega) (by rw [((ju_c _ _ (by decide)).trans hst), ((ju_c _ _ (by decide)).trans e123), hst, hP]; first | (exact Or.inr ⟨by omega, by omega⟩) | (exact Or.inl ⟨by omega, cN (by omega) (by omega)⟩))
    · refine jr.lconst (x := 1) rfl (by decide) ?_
      refine jr.goto rfl rfl ?_
      refine jr.last (i := (hv - 1)) (x := 1) rfl (by decide) rfl (by decide) (by omega) (by omega) ?_
      refine jr.goto rfl rfl ?_
      have y124 : (ju M 686 (hv - 1) 1) 598 122 = Fv := ((ju_c _ _ (by decide)).trans hFv)
      obtain ⟨v125, e125⟩ : ∃ z, M 598 136 = z := ⟨_, rfl⟩
      have b125 : 0 ≤ v125 ∧ v125 ≤ 1 := by rw [← e125]; exact hI_M 598 136 (by decide)
      obtain ⟨v126, e126⟩ : ∃ z, M 598 135 = z := ⟨_, rfl⟩
      have b126 : 0 ≤ v126 ∧ v126 ≤ 8 := by rw [← e126]; exact hI_M 598 135 (by decide)
      refine jr.pick [0] rfl rfl ?_
      exact r_act_L487 (L := L) (n := n) (ht := ht) q (ju M 686 (hv - 1) 1)  (RI.u hI_M (a := 686) (i := (hv - 1)) (by rw [xri_row rfl rfl]; show (-9223372036854775808 : Int) ≤ _ ∧ _ ≤ (9223372036854775807 : Int); omega)) (RH.o hH_M (by decide) (by decide) (by decide)) (RF.o hS_M (by decide) (by decide))  (fun a i f598 f602 f603 f604 f605 f624 f670 f671 f672 f673 f674 f675 f676 f677 f678 f679 f680 f681 f682 f683 f684 f685 f686 f687 => ((ju_c _ _ f686).trans rfl)) (fun i g6 g10 g11 g12 g59 g60 g61 g62 g63 g64 g65 g66 g110 g112 g122 g131 g132 g134 g135 g136 g137 g138 g139 g143 g145 => ((ju_c _ _ (by decide)).trans rfl))  (FRS.fr hFR (fun i => ((ju_c _ _ (by decide)).trans (rfl))) (fun i => ((ju_c _ _ (by decide)).trans (rfl))) (fun i => ((ju_c _ _ (by decide)).trans (rfl))) ((ju_c _ _ (by decide)).trans (rfl)) (by omega)) (AS.up (AS.o hAS (by decide) (Or.inl (by decide))) (by omega)) (by rw [((ju_c _ _ (by decide)).trans hFv)] <;> omega) (phi.fr (M := M) (M' := (ju M 686 (hv - 1) 1)) ((ju_c _ _ (by decide)).trans (rfl)) (fun i => ((ju_c _ _ (by decide)).trans (rfl)))) (by rw [((ju_c _ _ (by decide)).trans e125)] <;> omega) (by rw [((ju_c _ _ (by decide)).trans hP)] <;> omega) (by have z := pn (by omega); omega) (fun _ => by rw [((ju_c _ _ (by decide)).trans hhv), hP, q4]; omega) (by rw [((ju_c _ _ (by decide)).trans hst), ((ju_c _ _ (by decide)).trans e126), hst, hP]; first | (exact Or.inr ⟨by omega, by omega⟩) | (exact Or.inl ⟨by omega, cN (by omega) (by omega)⟩))
  · refine jr.tsw_k 10 rfl h1 rfl ?_
    refine jr.aload_n rfl rfl ?_
    refine jr.getf (i := 130) (v := .ref 686) rfl rfl (by decide) rfl (by decide) rfl rfl rfl rfl ?_
    refine jr.aload_n rfl rfl ?_
    refine jr.getf (i := 131) (x := hv) (v := .int (Int32.ofInt (hv))) rfl rfl (by decide) rfl (by decide) rfl rfl hhv rfl ?_
    refine jr.iconst rfl ?_
    refine jr.isub rfl ?_
    refine jr.aload_n rfl rfl ?_
    refine jr.getf (i := 130) (v := .ref 686) rfl rfl (by decide) rfl (by decide) rfl rfl rfl rfl ?_
    refine jr.aload_n rfl rfl ?_
    refine jr.getf (i := 131) (x := hv) (v := .int (Int32.ofInt (hv))) rfl rfl (by decide) rfl (by decide) rfl rfl hhv rfl ?_
    refine jr.iconst rfl ?_
    refine jr.isub rfl ?_
    obtain ⟨v127, e127⟩ : ∃ z, M 686 (hv - 1) = z := ⟨_, rfl⟩
    have b127 : (-9223372036854775808) ≤ v127 ∧ v127 ≤ 9223372036854775807 := by rw [← e127]; exact (by have q := hI_M 686 (hv - 1) (by decide); rw [xri_row rfl rfl] at q; exact q)
    refine jr.lald (i := (hv - 1)) (x := v127) rfl (by decide) rfl (by decide) (by omega) (by omega) e127 ?_
    refine jr.lneg rfl ?_
    refine jr.lw (jl_w (-v127)) (jl_w_eq _) ?_
    have b128 : -9223372036854775808 ≤ jl_w (-v127) ∧ jl_w (-v127) ≤ 9223372036854775807 := jbl_any _
    generalize jl_w (-v127) = v128 at b128 ⊢
    refine jr.last (i := (hv - 1)) (x := v128) rfl (by decide) rfl (by decide) (by omega) (by omega) ?_
    refine jr.goto rfl rfl ?_
    have y129 : (ju M 686 (hv - 1) v128) 598 122 = Fv := ((ju_c _ _ (by decide)).trans hFv)
    obtain ⟨v130, e130⟩ : ∃ z, M 598 136 = z := ⟨_, rfl⟩
    have b130 : 0 ≤ v130 ∧ v130 ≤ 1 := by rw [← e130]; exact hI_M 598 136 (by decide)
    obtain ⟨v131, e131⟩ : ∃ z, M 598 135 = z := ⟨_, rfl⟩
    have b131 : 0 ≤ v131 ∧ v131 ≤ 8 := by rw [← e131]; exact hI_M 598 135 (by decide)
    refine jr.pick [0] rfl rfl ?_
    exact r_act_L487 (L := L) (n := n) (ht := ht) q (ju M 686 (hv - 1) v128)  (RI.u hI_M (a := 686) (i := (hv - 1)) (by rw [xri_row rfl rfl]; show (-9223372036854775808 : Int) ≤ _ ∧ _ ≤ (9223372036854775807 : Int); omega)) (RH.o hH_M (by decide) (by decide) (by decide)) (RF.o hS_M (by decide) (by decide))  (fun a i f598 f602 f603 f604 f605 f624 f670 f671 f672 f673 f674 f675 f676 f677 f678 f679 f680 f681 f682 f683 f684 f685 f686 f687 => ((ju_c _ _ f686).trans rfl)) (fun i g6 g10 g11 g12 g59 g60 g61 g62 g63 g64 g65 g66 g110 g112 g122 g131 g132 g134 g135 g136 g137 g138 g139 g143 g145 => ((ju_c _ _ (by decide)).trans rfl))  (FRS.fr hFR (fun i => ((ju_c _ _ (by decide)).trans (rfl))) (fun i => ((ju_c _ _ (by decide)).trans (rfl))) (fun i => ((ju_c _ _ (by decide)).trans (rfl))) ((ju_c _ _ (by decide)).trans (rfl)) (by omega)) (AS.up (AS.o hAS (by decide) (Or.inl (by decide))) (by omega)) (by rw [((ju_c _ _ (by decide)).trans hFv)] <;> omega) (phi.fr (M := M) (M' := (ju M 686 (hv - 1) v128)) ((ju_c _ _ (by decide)).trans (rfl)) (fun i => ((ju_c _ _ (by decide)).trans (rfl)))) (by rw [((ju_c _ _ (by decide)).trans e130)] <;> omega) (by rw [((ju_c _ _ (by decide)).trans hP)] <;> omega) (by have z := pn (by omega); omega) (fun _ => by rw [((ju_c _ _ (by decide)).trans hhv), hP, q4]; omega) (by rw [((ju_c _ _ (by decide)).trans hst), ((ju_c _ _ (by decide)).trans e131), hst, hP]; first | (exact Or.inr ⟨by omega, by omega⟩) | (exact Or.inl ⟨by omega, cN (by omega) (by omega)⟩))
  · refine jr.tsw_k 11 rfl h1 rfl ?_
    refine jr.aload_n rfl rfl ?_
    refine jr.getf (i := 130) (v := .ref 686) rfl rfl (by decide) rfl (by decide) rfl rfl rfl rfl ?_
    refine jr.aload_n rfl rfl ?_
    refine jr.getf (i := 131) (x := hv) (v := .int (Int32.ofInt (hv))) rfl rfl (by decide) rfl (by decide) rfl rfl hhv rfl ?_
    refine jr.iconst rfl ?_
    refine jr.isub rfl ?_
    refine jr.aload_n rfl rfl ?_
    refine jr.getf (i := 130) (v := .ref 686) rfl rfl (by decide) rfl (by decide) rfl rfl rfl rfl ?_
    refine jr.aload_n rfl rfl ?_
    refine jr.getf (i := 131) (x := hv) (v := .int (Int32.ofInt (hv))) rfl rfl (by decide) rfl (by decide) rfl rfl hhv rfl ?_
    refine jr.iconst rfl ?_
    refine jr.isub rfl ?_
    obtain ⟨v132, e132⟩ : ∃ z, M 686 (hv - 1) = z := ⟨_, rfl⟩
    have b132 : (-9223372036854775808) ≤ v132 ∧ v132 ≤ 9223372036854775807 := by rw [← e132]; exact (by have q := hI_M 686 (hv - 1) (by decide); rw [xri_row rfl rfl] at q; exact q)
    refine jr.lald (i := (hv - 1)) (x := v132) rfl (by decide) rfl (by decide) (by omega) (by omega) e132 ?_
    refine jr.lconst (x := 0) rfl (by decide) ?_
    refine jr.lcmp_ne rfl rfl rfl (by omega) (by omega) (fun h425 => ?_) (fun h425 => ?_)
    · refine jr.lconst (x := 0) rfl (by decide) ?_
      refine jr.last (i := (hv - 1)) (x := 0) rfl (by decide) rfl (by decide) (by omega) (by omega) ?_
      refine jr.goto rfl rfl ?_
      have y133 : (ju M 686 (hv - 1) 0) 598 122 = Fv := ((ju_c _ _ (by decide)).trans hFv)
      obtain ⟨v134, e134⟩ : ∃ z, M 598 136 = z := ⟨_, rfl⟩
      have b134 : 0 ≤ v134 ∧ v134 ≤ 1 := by rw [← e134]; exact hI_M 598 136 (by decide)
      obtain ⟨v135, e135⟩ : ∃ z, M 598 135 = z := ⟨_, rfl⟩
      have b135 : 0 ≤ v135 ∧ v135 ≤ 8 := by rw [← e135]; exact hI_M 598 135 (by decide)
      refine jr.pick [0] rfl rfl ?_
      exact r_act_L487 (L := L) (n := n) (ht := ht) q (ju M 686 (hv - 1) 0)  (RI.u hI_M (a := 686) (i := (hv - 1)) (by rw [xri_row rfl rfl]; show (-9223372036854775808 : Int) ≤ _ ∧ _ ≤ (9223372036854775807 : Int); omega)) (RH.o hH_M (by decide) (by decide) (by decide)) (RF.o hS_M (by decide) (by decide))  (fun a i f598 f602 f603 f604 f605 f624 f670 f671 f672 f673 f674 f675 f676 f677 f678 f679 f680 f681 f682 f683 f684 f685 f686 f687 => ((ju_c _ _ f686).trans rfl)) (fun i g6 g10 g11 g12 g59 g60 g61 g62 g63 g64 g65 g66 g110 g112 g122 g131 g132 g134 g135 g136 g137 g138 g139 g143 g145 => ((ju_c _ _ (by decide)).trans rfl))  (FRS.fr hFR (fun i => ((ju_c _ _ (by decide)).trans (rfl))) (fun i => ((ju_c _ _ (by decide)).trans (rfl))) (fun i => ((ju_c _ _ (by decide)).trans (rfl))) ((ju_c _ _ (by decide)).trans (rfl)) (by omega)) (AS.up (AS.o hAS (by decide) (Or.inl (by decide))) (by omega)) (by rw [((ju_c _ _ (by decide)).trans hFv)] <;> omega) (phi.fr (M := M) (M' := (ju M 686 (hv - 1) 0)) ((ju_c _ _ (by decide)).trans (rfl)) (fun i => ((ju_c _ _ (by decide)).trans (rfl)))) (by rw [((ju_c _ _ (by decide)).trans e134)] <;> omega) (by rw [((ju_c _ _ (by decide)).trans hP)] <;> omega) (by have z := pn (by omega); omega) (fun _ => by rw [((ju_c _ _ (by decide)).trans hhv), hP, q4]; omega) (by rw [((ju_c _ _ (by decide)).trans hst), ((ju_c _ _ (by decide)).trans e135), hst, hP]; first | (exact Or.inr ⟨by omega, by omega⟩) | (exact Or.inl ⟨by omega, cN (by omega) (by omega)⟩))
    · refine jr.lconst (x := 1) rfl (by decide) ?_
      refine jr.goto rfl rfl ?_
      refine jr.last (i := (hv - 1)) (x := 1) rfl (by decide) rfl (by decide) (by omega) (by omega) ?_
      refine jr.goto rfl rfl ?_
      have y136 : (ju M 686 (hv - 1) 1) 598 122 = Fv := ((ju_c _ _ (by decide)).trans hFv)
      obtain ⟨v137, e137⟩ : ∃ z, M 598 136 = z := ⟨_, rfl⟩
      have b137 : 0 ≤ v137 ∧ v137 ≤ 1 := by rw [← e137]; exact hI_M 598 136 (by decide)
      obtain ⟨v138, e138⟩ : ∃ z, M 598 135 = z := ⟨_, rfl⟩
      have b138 : 0 ≤ v138 ∧ v138 ≤ 8 := by rw [← e138]; exact hI_M 598 135 (by decide)
      refine jr.pick [0] rfl rfl ?_
      exact r_act_L487 (L := L) (n := n) (ht := ht) q (ju M 686 (hv - 1) 1)  (RI.u hI_M (a := 686) (i := (hv - 1)) (by rw [xri_row rfl rfl]; show (-9223372036854775808 : Int) ≤ _ ∧ _ ≤ (9223372036854775807 : Int); omega)) (RH.o hH_M (by decide) (by decide) (by decide)) (RF.o hS_M (by decide) (by decide))  (fun a i f598 f602 f603 f604 f605 f624 f670 f671 f672 f673 f674 f675 f676 f677 f678 f679 f680 f681 f682 f683 f684 f685 f686 f687 => ((ju_c _ _ f686).trans rfl)) (fun i g6 g10 g11 g12 g59 g60 g61 g62 g63 g64 g65 g66 g110 g112 g122 g131 g132 g134 g135 g136 g137 g138 g139 g143 g145 => ((ju_c _ _ (by decide)).trans rfl))  (FRS.fr hFR (fun i => ((ju_c _ _ (by decide)).trans (rfl))) (fun i => ((ju_c _ _ (by decide)).trans (rfl))) (fun i => ((ju_c _ _ (by decide)).trans (rfl))) ((ju_c _ _ (by decide)).trans (rfl)) (by omega)) (AS.up (AS.o hAS (by decide) (Or.inl (by decide))) (by omega)) (by rw [((ju_c _ _ (by decide)).trans hFv)] <;> omega) (phi.fr (M := M) (M' := (ju M 686 (hv - 1) 1)) ((ju_c _ _ (by decide)).trans (rfl)) (fun i => ((ju_c _ _ (by decide)).trans (rfl)))) (by rw [((ju_c _ _ (by decide)).trans e137)] <;> omega) (by rw [((ju_c _ _ (by decide)).trans hP)] <;> omega) (by have z := pn (by omega); omega) (fun _ => by rw [((ju_c _ _ (by decide)).trans hhv), hP, q4]; omega) (by rw [((ju_c _ _ (by decide)).trans hst), ((ju_c _ _ (by decide)).trans e138), hst, hP]; first | (exact Or.inr ⟨by omega, by omega⟩) | (exact Or.inl ⟨by omega, cN (by omega) (by omega)⟩))
  · refine jr.tsw_d rfl (by omega) (by omega) rfl ?_
    refine jr.iload_n rfl rfl ?_
    refine jr.sipush rfl (by decide) ?_
    refine jr.icmp_lt rfl rfl (by omega) (by omega) (fun h442 => ?_) (fun h442 => ?_)
    · refine jr.iload_n rfl rfl ?_
      refine jr.bipush rfl (by decide) ?_
      refine jr.icmp_lt rfl rfl (by omega) (by omega) (fun h463 => ?_) (fun h463 => ?_)
      · refine jr.aload_n rfl rfl ?_
        refine jr.iload_n rfl rfl ?_
        refine jr.bipush rfl (by decide) ?_
        refine jr.isub rfl ?_
        refine jr.lload_n rfl rfl ?_
        have y140 : M 598 122 = Fv := hFv
        obtain ⟨v141, e141⟩ : ∃ z, M 598 82 = z := ⟨_, rfl⟩
        have b141 : 0 ≤ v141 ∧ v141 ≤ 16 := by rw [← e141]; exact hI_M 598 82 (by decide)
        obtain ⟨v142, e142⟩ : ∃ z, M 598 135 = z := ⟨_, rfl⟩
        have b142 : 0 ≤ v142 ∧ v142 ≤ 8 := by rw [← e142]; exact hI_M 598 135 (by decide)
        obtain ⟨v143, e143⟩ : ∃ z, M 598 136 = z := ⟨_, rfl⟩
        have b143 : 0 ≤ v143 ∧ v143 ≤ 1 := by rw [← e143]; exact hI_M 598 136 (by decide)
        refine jr_v rfl rfl (Or.inl rfl) rfl rfl (by decide) rfl ⟨rfl, Nat.le_of_ble_eq_true rfl, Nat.le_of_ble_eq_true rfl⟩ rfl (jc.deep (r_doDeed hI_M hH_M hS_M  (by omega) (by omega) hMX (FRS.fr hFR (fun i => (rfl)) (fun i => (rfl)) (fun i => (rfl)) (rfl) (by omega)) (by rw [hFv]; omega) hAS (by omega) (by rw [show 20 + (o - 20) = o by omega]; omega) (by rw [e141]; intro q; omega) (fun q => by rw [hP]; exact MX.ren hMX (by omega) (pn (by omega)) (by rw [← p7]; omega) (by rw [q4]; omega)) (by rw [e142, e143]; omega) (by rw [hP]; omega) (fun M139 hI_M139 hH_M139 hS_M139  w139_0 w139_1 w139_2 w139_3 => ?_)) (by decide))
        rw [show 20 + (o - 20) = o by omega] at w139_1
        obtain ⟨v144, e144⟩ : ∃ z, M139 598 122 = z := ⟨_, rfl⟩
        have b144 : 0 ≤ v144 ∧ v144 ≤ 9 := by rw [← e144]; exact hI_M139 598 122 (by decide)
        have y145 : M139 598 122 = v144 := e144
        obtain ⟨v146, e146⟩ : ∃ z, M139 598 131 = z := ⟨_, rfl⟩
        have b146 : 0 ≤ v146 ∧ v146 ≤ 400 := by rw [← e146]; exact hI_M139 598 131 (by decide)
        have y147 : M139 598 131 = v146 := e146
        obtain ⟨v148, e148⟩ : ∃ z, M139 598 132 = z := ⟨_, rfl⟩
        have b148 : 0 ≤ v148 ∧ v148 ≤ 2200 := by rw [← e148]; exact hI_M139 598 132 (by decide)
        have y149 : M139 598 132 = v148 := e148
        obtain ⟨v150, e150⟩ : ∃ z, M139 598 135 = z := ⟨_, rfl⟩
        have b150 : 0 ≤ v150 ∧ v150 ≤ 8 := by rw [← e150]; exact hI_M139 598 135 (by decide)
        have y151 : M139 598 135 = v150 := e150
        obtain ⟨v152, e152⟩ : ∃ z, M139 598 136 = z := ⟨_, rfl⟩
        have b152 : 0 ≤ v152 ∧ v152 ≤ 1 := by rw [← e152]; exact hI_M139 598 136 (by decide)
        have y153 : M139 598 136 = v152 := e152
        have e154 : M139 598 143 = st := ((w139_3 143 (by decide) (by decide) (by decide) (by decide) (by decide) (by decide) (by decide) (by decide) (by decide) (by decide) (by decide) (by decide) (by decide) (by decide) (by decide) (by decide)).trans hst)
        have y155 : M139 598 143 = st := e154
        exact jr.vreturn rfl rfl (q _ hI_M139 hH_M139 hS_M139  w139_0 (by rcases w139_1 with z | ⟨y1, y2, y3, y4, ⟨y5, y6, y7⟩ | ⟨y5, ⟨y6, y7, y8, y9⟩ | ⟨y6, y7, y8, y9⟩ | ⟨y6, y7, y8, y9⟩⟩⟩; (exact Or.inl z); (exact Or.inr ⟨y1, y2, y3, y4, Or.inl ⟨y5, y6, (e154).trans hst.symm⟩⟩); (have zc := REr.cr0 y7; obtain ⟨r1, r2, r3, _, _⟩ := y7; have zm := mu.eq (M := M139) (e154) rfl rfl zc; exact Or.inr ⟨y1, y2, y3, y4, Or.inr ⟨y5, r1, r2, by rw [y9, r3]; omega, by omega⟩⟩); (have ck : cr (M 654) P = 1 := (by unfold cr; rw [← p7, if_pos (by omega)]); have zc := REr.cr0 y7; obtain ⟨r1, r2, r3, _, _⟩ := y7; have zm := mu.eq (M := M139) (e154) rfl rfl zc; exact Or.inr ⟨y1, y2, y3, y4, Or.inr ⟨y5, r1, r2, by rw [y9, r3]; omega, by omega⟩⟩); (have zm := mu.eq (M := M139) (e154) y8 (y7.trans (show M 598 132 + 1 = P + 1 by omega)) (show cr (M139 654) (P + 1) = 0 by rw [show M139 654 = M 654 from funext (fun i => ((w139_2 654 i (by decide) (by decide) (by decide) (by decide) (by decide) (by decide) (by decide) (by decide) (by decide) (by decide) (by decide) (by decide) (by decide) (by decide) (by decide) (by decide) (by decide) (by decide) (by decide) (by decide) (by decide) (by decide) (by decide) (by decide)).trans (rfl)))]; exact cN (by omega) (by omega)); have pz := pn (by omega); exact Or.inr ⟨y1, y2, y3, y4, Or.inr ⟨y5, by omega, by omega, by rw [y9, y7.trans (show M 598 132 + 1 = P + 1 by omega), q4]; omega, by omega⟩⟩)) (fun a i f598 f602 f603 f604 f605 f624 f670 f671 f672 f673 f674 f675 f676 f677 f678 f679 f680 f681 f682 f683 f684 f685 f686 f687 => ((w139_2 a i f598 f602 f603 f604 f605 f624 f670 f671 f672 f673 f674 f675 f676 f677 f678 f679 f680 f681 f682 f683 f684 f685 f686 f687).trans rfl)) (fun i g6 g10 g11 g12 g59 g60 g61 g62 g63 g64 g65 g66 g110 g112 g122 g131 g132 g134 g135 g136 g137 g138 g139 g143 g145 => ((w139_3 i g6 g10 g11 g12 g110 g112 g122 g131 g132 g134 g135 g136 g137 g138 g139 g145).trans rfl)))
      · refine jr.aload_n rfl rfl ?_
        refine jr.iload_n rfl rfl ?_
        refine jr.bipush rfl (by decide) ?_
        refine jr.isub rfl ?_
        refine jr_v rfl rfl (Or.inl rfl) rfl rfl (by decide) rfl ⟨rfl, Nat.le_of_ble_eq_true rfl, Nat.le_of_ble_eq_true rfl⟩ rfl (jc.deep (r_bySign hI_M hH_M hS_M  (by omega) (by rw [hhv]; omega) (fun M156 hI_M156 hH_M156 hS_M156  w156_0 w156_1 w156_2 => ?_)) (by decide))
        refine jr.goto rfl rfl ?_
        have e157 : M156 598 122 = Fv := ((w156_2 122 (by decide) (by decide)).trans hFv)
        have y158 : M156 598 122 = Fv := e157
        obtain ⟨v159, e159⟩ : ∃ z, M 598 136 = z := ⟨_, rfl⟩
        have b159 : 0 ≤ v159 ∧ v159 ≤ 1 := by rw [← e159]; exact hI_M 598 136 (by decide)
        have e160 : M156 598 136 = v159 := ((w156_2 136 (by decide) (by decide)).trans e159)
        have e161 : M156 598 132 = P := ((w156_2 132 (by decide) (by decide)).trans hP)
        obtain ⟨v162, e162⟩ : ∃ z, M156 598 131 = z := ⟨_, rfl⟩
        have b162 : 0 ≤ v162 ∧ v162 ≤ 400 := by rw [← e162]; exact hI_M156 598 131 (by decide)
        obtain ⟨v163, e163⟩ : ∃ z, M156 598 135 = z := ⟨_, rfl⟩
        have b163 : 0 ≤ v163 ∧ v163 ≤ 8 := by rw [← e163]; exact hI_M156 598 135 (by decide)
        have e164 : M156 598 143 = st := ((w156_2 143 (by decide) (by decide)).trans hst)
        refine jr.pick [0] rfl rfl ?_
        exact r_act_L487 (L := L) (n := n) (ht := ht) q M156  hI_M156 hH_M156 hS_M156  (fun a i f598 f602 f603 f604 f605 f624 f670 f671 f672 f673 f674 f675 f676 f677 f678 f679 f680 f681 f682 f683 f684 f685 f686 f687 => ((w156_1 a i f598 f686).trans rfl)) (fun i g6 g10 g11 g12 g59 g60 g61 g62 g63 g64 g65 g66 g110 g112 g122 g131 g132 g134 g135 g136 g137 g138 g139 g143 g145 => ((w156_2 i g131 g135).trans rfl))  (FRS.fr hFR (fun i => ((w156_1 679 i (by decide) (by decide)).trans (rfl))) (fun i => ((w156_1 681 i (by decide) (by decide)).trans (rfl))) (fun i => ((w156_1 654 i (by decide) (by decide)).trans (rfl))) ((w156_2 82 (by decide) (by decide)).trans (rfl)) (by omega)) (AS.up (AS.fr hAS (fun i => w156_1 685 i (by decide) (by decide)) (w156_2 112 (by decide) (by decide))) (by omega)) (by rw [e157] <;> omega) (phi.fr (M := M) (M' := M156) ((w156_2 122 (by decide) (by decide)).trans (rfl)) (fun i => ((w156_1 680 i (by decide) (by decide)).trans (rfl)))) (by rw [e160] <;> omega) (by rw [e161] <;> omega) (by have z := pn (by omega); omega) (fun _ => by rw [e162, hP, q4]; omega) (by rw [e164, e163, hst, hP]; first | (exact Or.inr ⟨by omega, by omega⟩) | (exact Or.inl ⟨by omega, cN (by omega) (by omega)⟩))
    · refine jr.aload_n rfl rfl ?_
      refine jr.iload_n rfl rfl ?_
      refine jr.bipush rfl (by decide) ?_
      refine jr.isub rfl ?_
      refine jr.sipush rfl (by decide) ?_
      refine jr.isub rfl ?_
      refine jr_v rfl rfl (Or.inl rfl) rfl rfl (by decide) rfl ⟨rfl, Nat.le_of_ble_eq_true rfl, Nat.le_of_ble_eq_true rfl⟩ rfl (jc.deep (r_word hI_M hH_M hS_M  (by omega) (by intro z; rw [show o - 20 - 320 = o - 340 by omega] at z ⊢; omega) (by rw [hhv]; omega) (fun M165 hI_M165 hH_M165 hS_M165  w165_0 w165_1 w165_2 w165_3 => ?_)) (by decide))
      rw [show o - 20 - 320 = o - 340 by omega] at w165_0 w165_1
      refine jr.goto rfl rfl ?_
      have e166 : M165 598 122 = Fv := ((w165_3 122 (by decide) (by decide) (by decide) (by decide) (by decide) (by decide) (by decide) (by decide) (by decide) (by decide) (by decide) (by decide) (by decide) (by decide)).trans hFv)
      have y167 : M165 598 122 = Fv := e166
      obtain ⟨v168, e168⟩ : ∃ z, M 598 136 = z := ⟨_, rfl⟩
      have b168 : 0 ≤ v168 ∧ v168 ≤ 1 := by rw [← e168]; exact hI_M 598 136 (by decide)
      have e169 : M165 598 136 = v168 := ((w165_3 136 (by decide) (by decide) (by decide) (by decide) (by decide) (by decide) (by decide) (by decide) (by decide) (by decide) (by decide) (by decide) (by decide) (by decide)).trans e168)
      have e170 : M165 598 132 = P := ((w165_3 132 (by decide) (by decide) (by decide) (by decide) (by decide) (by decide) (by decide) (by decide) (by decide) (by decide) (by decide) (by decide) (by decide) (by decide)).trans hP)
      obtain ⟨v171, e171⟩ : ∃ z, M165 598 131 = z := ⟨_, rfl⟩
      have b171 : 0 ≤ v171 ∧ v171 ≤ 400 := by rw [← e171]; exact hI_M165 598 131 (by decide)
      obtain ⟨v172, e172⟩ : ∃ z, M165 598 135 = z := ⟨_, rfl⟩
      have b172 : 0 ≤ v172 ∧ v172 ≤ 8 := by rw [← e172]; exact hI_M165 598 135 (by decide)
      have e173 : M165 598 143 = st := ((w165_3 143 (by decide) (by decide) (by decide) (by decide) (by decide) (by decide) (by decide) (by decide) (by decide) (by decide) (by decide) (by decide) (by decide) (by decide)).trans hst)
      refine jr.pick [0] rfl rfl ?_
      exact r_act_L487 (L := L) (n := n) (ht := ht) q M165  hI_M165 hH_M165 hS_M165  (fun a i f598 f602 f603 f604 f605 f624 f670 f671 f672 f673 f674 f675 f676 f677 f678 f679 f680 f681 f682 f683 f684 f685 f686 f687 => ((w165_2 a i f598 f603 f604 f605 f624 f686).trans rfl)) (fun i g6 g10 g11 g12 g59 g60 g61 g62 g63 g64 g65 g66 g110 g112 g122 g131 g132 g134 g135 g136 g137 g138 g139 g143 g145 => ((w165_3 i g6 g10 g11 g12 g59 g60 g61 g62 g63 g64 g65 g66 g131 g135).trans rfl))  (FRS.fr hFR (fun i => ((w165_2 679 i (by decide) (by decide) (by decide) (by decide) (by decide) (by decide)).trans (rfl))) (fun i => ((w165_2 681 i (by decide) (by decide) (by decide) (by decide) (by decide) (by decide)).trans (rfl))) (fun i => ((w165_2 654 i (by decide) (by decide) (by decide) (by decide) (by decide) (by decide)).trans (rfl))) ((w165_3 82 (by decide) (by decide) (by decide) (by decide) (by decide) (by decide) (by decide) (by decide) (by decide) (by decide) (by decide) (by decide) (by decide) (by decide)).trans (rfl)) (by omega)) (AS.up (AS.fr hAS (fun i => w165_2 685 i (by decide) (by decide) (by decide) (by decide) (by decide) (by decide)) (w165_3 112 (by decide) (by decide) (by decide) (by decide) (by decide) (by decide) (by decide) (by decide) (by decide) (by decide) (by decide) (by decide) (by decide) (by decide))) (by omega)) (by rw [e166] <;> omega) (phi.fr (M := M) (M' := M165) ((w165_3 122 (by decide) (by decide) (by decide) (by decide) (by decide) (by decide) (by decide) (by decide) (by decide) (by decide) (by decide) (by decide) (by decide) (by decide)).trans (rfl)) (fun i => ((w165_2 680 i (by decide) (by decide) (by decide) (by decide) (by decide) (by decide)).trans (rfl)))) (by rw [e169] <;> omega) (by rw [e170] <;> omega) (by have z := pn (by omega); omega) (fun _ => by rw [e171, hP, q4]; omega) (by rw [e173, e172, hst, hP]; first | (exact Or.inr ⟨by omega, by omega⟩) | (exact Or.inl ⟨by omega, cN (by omega) (by omega)⟩))
