/-! ===== the reference: contracts, 37.me ===== -/
theorem r_endBehind {A : Nat → Option (Nat × (Nat → Int32))} {Q : Option Value → jm → Prop} {L n : Int} {ht : Int → Int} {M : jm} (hI_M : RI M) (hH_M : RH M) (hS_M : RF M) {f : Int} (h_f : 0 ≤ f ∧ f ≤ 8) (p0 : MX M ht n) (p1 : FRS M ht n (M 598 122)) (p2 : 1 ≤ M 598 122 ∧ M 598 122 ≤ 8) (p3 : AS M L) (p4 : L ≤ 2000000000) (p5 : f = M 598 122 - 1) (q : ∀ (M' : jm), RI M' → RH M' → RF M' → AS M' L → ((M' 598 136 = 1) ∨ (M' 598 136 = M 598 136 ∧ FRS M' ht n (M' 598 122) ∧ 1 ≤ M' 598 122 ∧ M' 598 122 ≤ 8 ∧ REr (M' 654) ht n (M' 598 132) ∧ phi M' < phi M)) → (∀ (a : Nat) (i : Int), a ≠ 598 → a ≠ 602 → a ≠ 624 → a ≠ 670 → a ≠ 671 → a ≠ 672 → a ≠ 673 → a ≠ 680 → a ≠ 683 → a ≠ 684 → M' a i = M a i) → (∀ (i : Int), i ≠ 112 → i ≠ 122 → i ≠ 132 → i ≠ 134 → i ≠ 136 → i ≠ 137 → i ≠ 138 → M' 598 i = M 598 i) → Q none M') : jc A 6 381 [.ref (598), .int (Int32.ofInt (f))] M Q := by
  have hMX := p0
  have hFR := p1
  have hAS := p3
  obtain ⟨F, hF⟩ : ∃ z, M 598 122 = z := ⟨_, rfl⟩
  rw [hF] at p5
  have fr0 := hFR f (by omega) (by omega)
  obtain ⟨c, hc⟩ : ∃ z, M 679 f = z := ⟨_, rfl⟩
  obtain ⟨bk, hbk⟩ : ∃ z, M 681 f = z := ⟨_, rfl⟩
  rw [hc, hbk] at fr0
  obtain ⟨bh, hbh⟩ : ∃ z, M 653 c = z := ⟨_, rfl⟩
  obtain ⟨be, hbe⟩ : ∃ z, M 680 f = z := ⟨_, rfl⟩
  have en := (hMX.2.2.2.1 c fr0.1 fr0.2.1).2
  rw [hbh] at en
  have b_c : (0 : Int) ≤ c ∧ c ≤ (15 : Int) := by rw [← hc]; exact (by have q := hI_M 679 f (by decide); rw [xri_row rfl rfl] at q; exact q)
  have b_bk : (0 : Int) ≤ bk ∧ bk ≤ (2200 : Int) := by rw [← hbk]; exact (by have q := hI_M 681 f (by decide); rw [xri_row rfl rfl] at q; exact q)
  have b_bh : (-1 : Int) ≤ bh ∧ bh ≤ (2200 : Int) := by rw [← hbh]; exact (by have q := hI_M 653 (c) (by decide); rw [xri_row rfl rfl] at q; exact q)
  have b_be : (0 : Int) ≤ be ∧ be ≤ (1 : Int) := by rw [← hbe]; exact (by have q := hI_M 680 f (by decide); rw [xri_row rfl rfl] at q; exact q)
  refine jc_of (m := xm_381) rfl (Nat.le_of_ble_eq_true rfl) rfl ?_
  refine jr.aload_n rfl rfl ?_
  refine jr.getf (i := 127) (v := .ref 683) rfl rfl (by decide) rfl (by decide) rfl rfl rfl rfl ?_
  refine jr.iload_n rfl rfl ?_
  obtain ⟨v1, e1⟩ : ∃ z, M 683 f = z := ⟨_, rfl⟩
  have b1 : 0 ≤ v1 ∧ v1 ≤ 2 := by rw [← e1]; exact (by have q := hI_M 683 f (by decide); rw [xri_row rfl rfl] at q; exact q)
  refine jr.iald (i := f) (x := v1) rfl (by decide) rfl (by decide) (by omega) (by omega) e1 ?_
  refine jr.istore_n rfl (by decide) rfl ?_
  refine jr.aload_n rfl rfl ?_
  refine jr.getf (i := 128) (v := .ref 684) rfl rfl (by decide) rfl (by decide) rfl rfl rfl rfl ?_
  refine jr.iload_n rfl rfl ?_
  obtain ⟨v2, e2⟩ : ∃ z, M 684 f = z := ⟨_, rfl⟩
  have b2 : 0 ≤ v2 ∧ v2 ≤ 8 := by rw [← e2]; exact (by have q := hI_M 684 f (by decide); rw [xri_row rfl rfl] at q; exact q)
  refine jr.iald (i := f) (x := v2) rfl (by decide) rfl (by decide) (by omega) (by omega) e2 ?_
  refine jr.istore_n rfl (by decide) rfl ?_
  refine jr.aload_n rfl rfl ?_
  refine jr.dup rfl rfl ?_
  refine jr.getf (i := 122) (x := F) (v := .int (Int32.ofInt (F))) rfl rfl (by decide) rfl (by decide) rfl rfl hF rfl ?_
  refine jr.iconst rfl ?_
  refine jr.isub rfl ?_
  refine jr.putf (i := 122) (x := (F - 1)) rfl rfl (by decide) rfl (by decide) rfl rfl rfl rfl rfl ?_
  refine jr.aload_n rfl rfl ?_
  refine jr.getf (i := 122) (x := (F - 1)) (v := .int (Int32.ofInt (F - 1))) rfl rfl (by decide) rfl (by decide) rfl rfl (ju_same _ _ _ _) rfl ?_
  refine jr.if_ne rfl rfl (by omega) (fun h28 => ?_) (fun h28 => ?_)
  · refine jr.iload_n rfl rfl ?_
    refine jr.iconst rfl ?_
    refine jr.icmp_ne rfl rfl (by omega) (by omega) (fun h49 => ?_) (fun h49 => ?_)
    · refine jr.iconst rfl ?_
      refine jr.istore rfl (by decide) rfl ?_
      refine jr.iload_n rfl rfl ?_
      refine jr.if_eq rfl rfl (by omega) (fun h75 => ?_) (fun h75 => ?_)
      · refine jr.aload_n rfl rfl ?_
        refine jr.iload rfl rfl ?_
        refine jr.if_eq rfl rfl (by omega) (fun _ => ?_) (fun h => absurd (by decide) h)
        refine jr.aload_n rfl rfl ?_
        obtain ⟨v3, e3⟩ : ∃ z, M 598 134 = z := ⟨_, rfl⟩
        have b3 : 0 ≤ v3 ∧ v3 ≤ 8 := by rw [← e3]; exact hI_M 598 134 (by decide)
        refine jr.getf (i := 134) (x := v3) (v := .int (Int32.ofInt (v3))) rfl rfl (by decide) rfl (by decide) rfl rfl ((ju_i _ _ (by decide)).trans e3) rfl ?_
        refine jr.putf (i := 134) (x := v3) rfl rfl (by decide) rfl (by decide) rfl rfl rfl rfl rfl ?_
        refine jr.aload_n rfl rfl ?_
        refine jr.aload_n rfl rfl ?_
        refine jr.getf (i := 125) (v := .ref 681) rfl rfl (by decide) rfl (by decide) rfl rfl rfl rfl ?_
        refine jr.iload_n rfl rfl ?_
        refine jr.iald (i := f) (x := bk) rfl (by decide) rfl (by decide) (by omega) (by omega) ((ju_c _ _ (by decide)).trans ((ju_c _ _ (by decide)).trans hbk)) ?_
        refine jr.putf (i := 132) (x := bk) rfl rfl (by decide) rfl (by decide) rfl rfl rfl rfl rfl ?_
        have y4 : (ju (ju (ju M 598 122 (F - 1)) 598 134 v3) 598 132 bk) 598 122 = F - 1 := ((ju_i _ _ (by decide)).trans ((ju_i _ _ (by decide)).trans (ju_same _ _ _ _)))
        obtain ⟨v5, e5⟩ : ∃ z, M 598 136 = z := ⟨_, rfl⟩
        have b5 : 0 ≤ v5 ∧ v5 ≤ 1 := by rw [← e5]; exact hI_M 598 136 (by decide)
        have y6 : (ju (ju (ju M 598 122 (F - 1)) 598 134 v3) 598 132 bk) 598 136 = v5 := ((ju_i _ _ (by decide)).trans ((ju_i _ _ (by decide)).trans ((ju_i _ _ (by decide)).trans e5)))
        exact jr.vreturn rfl rfl (q _ (RI.u (RI.u (RI.u hI_M (a := 598) (i := 122) (show (0 : Int) ≤ _ ∧ _ ≤ (9 : Int) from by omega)) (a := 598) (i := 134) (show (0 : Int) ≤ _ ∧ _ ≤ (8 : Int) from by omega)) (a := 598) (i := 132) (show (0 : Int) ≤ _ ∧ _ ≤ (2200 : Int) from by omega)) (RH.o (RH.o (RH.o hH_M (by decide) (by decide) (by decide)) (by decide) (by decide) (by decide)) (by decide) (by decide) (by decide)) (RF.o (RF.o (RF.o hS_M (by decide) (by decide)) (by decide) (by decide)) (by decide) (by decide))  (AS.o (AS.o (AS.o hAS (by decide) (Or.inr (by decide))) (by decide) (Or.inr (by decide))) (by decide) (Or.inr (by decide))) (Or.inr ⟨by omega, (FRS.fr hFR (fun i => ((ju_c _ _ (by decide)).trans ((ju_c _ _ (by decide)).trans ((ju_c _ _ (by decide)).trans (rfl))))) (fun i => ((ju_c _ _ (by decide)).trans ((ju_c _ _ (by decide)).trans ((ju_c _ _ (by decide)).trans (rfl))))) (fun i => ((ju_c _ _ (by decide)).trans ((ju_c _ _ (by decide)).trans ((ju_c _ _ (by decide)).trans (rfl))))) ((ju_i _ _ (by decide)).trans ((ju_i _ _ (by decide)).trans ((ju_i _ _ (by decide)).trans (rfl)))) (by omega)), by omega, by omega, (by rw [show (ju (ju (ju M 598 122 (F - 1)) 598 134 v3) 598 132 bk) 654 = M 654 from funext (fun i => ((ju_c _ _ (by decide)).trans ((ju_c _ _ (by decide)).trans ((ju_c _ _ (by decide)).trans (rfl))))), (ju_same _ _ _ _)]; exact fr0.2.2 (by omega)), (by have z1 := (phi.le (ju (ju (ju M 598 122 (F - 1)) 598 134 v3) 598 132 bk)).2; have z2 := (phi.le M).1; omega)⟩) (fun a i f598 f602 f624 f670 f671 f672 f673 f680 f683 f684 => ((ju_c _ _ f598).trans ((ju_c _ _ f598).trans ((ju_c _ _ f598).trans rfl)))) (fun i g112 g122 g132 g134 g136 g137 g138 => ((ju_i _ _ g132).trans ((ju_i _ _ g134).trans ((ju_i _ _ g122).trans rfl)))))
      · refine jr.iload rfl rfl ?_
        refine jr.if_eq rfl rfl (by omega) (fun _ => ?_) (fun h => absurd (by decide) h)
        refine jr.aload_n rfl rfl ?_
        refine jr.iload_n rfl rfl ?_
        refine jr.iload_n rfl rfl ?_
        have y8 : (ju M 598 122 (F - 1)) 598 122 = F - 1 := (ju_same _ _ _ _)
        refine jr_v rfl rfl (Or.inl rfl) rfl rfl (by decide) rfl ⟨rfl, Nat.le_of_ble_eq_true rfl, Nat.le_of_ble_eq_true rfl⟩ rfl (jc.deep (r_leave (RI.u hI_M (a := 598) (i := 122) (show (0 : Int) ≤ _ ∧ _ ≤ (9 : Int) from by omega)) (RH.o hH_M (by decide) (by decide) (by decide)) (RF.o hS_M (by decide) (by decide))  (by omega) (by omega) (MX.o hMX (by decide) (Or.inr (by decide))) (FRS.fr hFR (fun i => ((ju_c _ _ (by decide)).trans (rfl))) (fun i => ((ju_c _ _ (by decide)).trans (rfl))) (fun i => ((ju_c _ _ (by decide)).trans (rfl))) ((ju_i _ _ (by decide)).trans (rfl)) (by omega)) (by rw [(ju_same _ _ _ _)]; omega) (AS.o hAS (by decide) (Or.inr (by decide))) (by omega) (fun M7 hI_M7 hH_M7 hS_M7  w7_0 w7_1 w7_2 w7_3 => ?_)) (by decide))
        obtain ⟨v10, e10⟩ : ∃ z, M 598 136 = z := ⟨_, rfl⟩
        have b10 : 0 ≤ v10 ∧ v10 ≤ 1 := by rw [← e10]; exact hI_M 598 136 (by decide)
        have y9 : (ju M 598 122 (F - 1)) 598 122 = F - 1 := (ju_same _ _ _ _)
        have y11 : (ju M 598 122 (F - 1)) 598 136 = v10 := ((ju_i _ _ (by decide)).trans e10)
        obtain ⟨v12, e12⟩ : ∃ z, M 598 136 = z := ⟨_, rfl⟩
        have b12 : 0 ≤ v12 ∧ v12 ≤ 1 := by rw [← e12]; exact hI_M 598 136 (by decide)
        exact jr.vreturn rfl rfl (q _ hI_M7 hH_M7 hS_M7  w7_0 (by rcases w7_1 with z | ⟨y1, y2, y3, y4, y5, y6⟩; (exact Or.inl z); (have z1 := (phi.le (ju M 598 122 (F - 1))).2; have z2 := (phi.le M).1; exact Or.inr ⟨by omega, y2, y3, y4, y5, by omega⟩)) (fun a i f598 f602 f624 f670 f671 f672 f673 f680 f683 f684 => ((w7_2 a i f598 f602 f624 f670 f671 f672 f673 f680 f683 f684).trans ((ju_c _ _ f598).trans rfl))) (fun i g112 g122 g132 g134 g136 g137 g138 => ((w7_3 i g112 g122 g132 g134 g136 g137 g138).trans ((ju_i _ _ g122).trans rfl))))
    · refine jr.aload_n rfl rfl ?_
      refine jr.getf (i := 126) (v := .ref 682) rfl rfl (by decide) rfl (by decide) rfl rfl rfl rfl ?_
      refine jr.iload_n rfl rfl ?_
      obtain ⟨v13, e13⟩ : ∃ z, M 682 f = z := ⟨_, rfl⟩
      have b13 : 0 ≤ v13 ∧ v13 ≤ 1 := by rw [← e13]; exact (by have q := hI_M 682 f (by decide); rw [xri_row rfl rfl] at q; exact q)
      refine jr.zald (i := f) (x := v13) rfl (by decide) rfl (by decide) (by omega) (by omega) ((ju_c _ _ (by decide)).trans e13) ?_
      refine jr.if_eq rfl rfl (by omega) (fun h58 => ?_) (fun h58 => ?_)
      · refine jr.iconst rfl ?_
        refine jr.istore rfl (by decide) rfl ?_
        refine jr.iload_n rfl rfl ?_
        refine jr.if_eq rfl rfl (by omega) (fun h75 => ?_) (fun h75 => ?_)
        · exact absurd h75 (by omega)
        · refine jr.iload rfl rfl ?_
          refine jr.if_eq rfl rfl (by omega) (fun _ => ?_) (fun h => absurd (by decide) h)
          refine jr.aload_n rfl rfl ?_
          refine jr.iload_n rfl rfl ?_
          refine jr.iload_n rfl rfl ?_
          have y15 : (ju M 598 122 (F - 1)) 598 122 = F - 1 := (ju_same _ _ _ _)
          refine jr_v rfl rfl (Or.inl rfl) rfl rfl (by decide) rfl ⟨rfl, Nat.le_of_ble_eq_true rfl, Nat.le_of_ble_eq_true rfl⟩ rfl (jc.deep (r_leave (RI.u hI_M (a := 598) (i := 122) (show (0 : Int) ≤ _ ∧ _ ≤ (9 : Int) from by omega)) (RH.o hH_M (by decide) (by decide) (by decide)) (RF.o hS_M (by decide) (by decide))  (by omega) (by omega) (MX.o hMX (by decide) (Or.inr (by decide))) (FRS.fr hFR (fun i => ((ju_c _ _ (by decide)).trans (rfl))) (fun i => ((ju_c _ _ (by decide)).trans (rfl))) (fun i => ((ju_c _ _ (by decide)).trans (rfl))) ((ju_i _ _ (by decide)).trans (rfl)) (by omega)) (by rw [(ju_same _ _ _ _)]; omega) (AS.o hAS (by decide) (Or.inr (by decide))) (by omega) (fun M14 hI_M14 hH_M14 hS_M14  w14_0 w14_1 w14_2 w14_3 => ?_)) (by decide))
          obtain ⟨v17, e17⟩ : ∃ z, M 598 136 = z := ⟨_, rfl⟩
          have b17 : 0 ≤ v17 ∧ v17 ≤ 1 := by rw [← e17]; exact hI_M 598 136 (by decide)
          have y16 : (ju M 598 122 (F - 1)) 598 122 = F - 1 := (ju_same _ _ _ _)
          have y18 : (ju M 598 122 (F - 1)) 598 136 = v17 := ((ju_i _ _ (by decide)).trans e17)
          obtain ⟨v19, e19⟩ : ∃ z, M 598 136 = z := ⟨_, rfl⟩
          have b19 : 0 ≤ v19 ∧ v19 ≤ 1 := by rw [← e19]; exact hI_M 598 136 (by decide)
          exact jr.vreturn rfl rfl (q _ hI_M14 hH_M14 hS_M14  w14_0 (by rcases w14_1 with z | ⟨y1, y2, y3, y4, y5, y6⟩; (exact Or.inl z); (have z1 := (phi.le (ju M 598 122 (F - 1))).2; have z2 := (phi.le M).1; exact Or.inr ⟨by omega, y2, y3, y4, y5, by omega⟩)) (fun a i f598 f602 f624 f670 f671 f672 f673 f680 f683 f684 => ((w14_2 a i f598 f602 f624 f670 f671 f672 f673 f680 f683 f684).trans ((ju_c _ _ f598).trans rfl))) (fun i g112 g122 g132 g134 g136 g137 g138 => ((w14_3 i g112 g122 g132 g134 g136 g137 g138).trans ((ju_i _ _ g122).trans rfl))))
      · refine jr.iload_n rfl rfl ?_
        refine jr.bipush rfl (by decide) ?_
        refine jr.icmp_eq rfl rfl (by omega) (by omega) (fun h64 => ?_) (fun h64 => ?_)
        · refine jr.iconst rfl ?_
          refine jr.istore rfl (by decide) rfl ?_
          refine jr.iload_n rfl rfl ?_
          refine jr.if_eq rfl rfl (by omega) (fun h75 => ?_) (fun h75 => ?_)
          · exact absurd h75 (by omega)
          · refine jr.iload rfl rfl ?_
            refine jr.if_eq rfl rfl (by omega) (fun _ => ?_) (fun h => absurd (by decide) h)
            refine jr.aload_n rfl rfl ?_
            refine jr.iload_n rfl rfl ?_
            refine jr.iload_n rfl rfl ?_
            have y21 : (ju M 598 122 (F - 1)) 598 122 = F - 1 := (ju_same _ _ _ _)
            refine jr_v rfl rfl (Or.inl rfl) rfl rfl (by decide) rfl ⟨rfl, Nat.le_of_ble_eq_true rfl, Nat.le_of_ble_eq_true rfl⟩ rfl (jc.deep (r_leave (RI.u hI_M (a := 598) (i := 122) (show (0 : Int) ≤ _ ∧ _ ≤ (9 : Int) from by omega)) (RH.o hH_M (by decide) (by decide) (by decide)) (RF.o hS_M (by decide) (by decide))  (by omega) (by omega) (MX.o hMX (by decide) (Or.inr (by decide))) (FRS.fr hFR (fun i => ((ju_c _ _ (by decide)).trans (rfl))) (fun i => ((ju_c _ _ (by decide)).trans (rfl))) (fun i => ((ju_c _ _ (by decide)).trans (rfl))) ((ju_i _ _ (by decide)).trans (rfl)) (by omega)) (by rw [(ju_same _ _ _ _)]; omega) (AS.o hAS (by decide) (Or.inr (by decide))) (by omega) (fun M20 hI_M20 hH_M20 hS_M20  w20_0 w20_1 w20_2 w20_3 => ?_)) (by decide))
            obtain ⟨v23, e23⟩ : ∃ z, M 598 136 = z := ⟨_, rfl⟩
            have b23 : 0 ≤ v23 ∧ v23 ≤ 1 := by rw [← e23]; exact hI_M 598 136 (by decide)
            have y22 : (ju M 598 122 (F - 1)) 598 122 = F - 1 := (ju_same _ _ _ _)
            have y24 : (ju M 598 122 (F - 1)) 598 136 = v23 := ((ju_i _ _ (by decide)).trans e23)
            obtain ⟨v25, e25⟩ : ∃ z, M 598 136 = z := ⟨_, rfl⟩
            have b25 : 0 ≤ v25 ∧ v25 ≤ 1 := by rw [← e25]; exact hI_M 598 136 (by decide)
            exact jr.vreturn rfl rfl (q _ hI_M20 hH_M20 hS_M20  w20_0 (by rcases w20_1 with z | ⟨y1, y2, y3, y4, y5, y6⟩; (exact Or.inl z); (have z1 := (phi.le (ju M 598 122 (F - 1))).2; have z2 := (phi.le M).1; exact Or.inr ⟨by omega, y2, y3, y4, y5, by omega⟩)) (fun a i f598 f602 f624 f670 f671 f672 f673 f680 f683 f684 => ((w20_2 a i f598 f602 f624 f670 f671 f672 f673 f680 f683 f684).trans ((ju_c _ _ f598).trans rfl))) (fun i g112 g122 g132 g134 g136 g137 g138 => ((w20_3 i g112 g122 g132 g134 g136 g137 g138).trans ((ju_i _ _ g122).trans rfl))))
        · refine jr.iconst rfl ?_
          refine jr.goto rfl rfl ?_
          refine jr.istore rfl (by decide) rfl ?_
          refine jr.iload_n rfl rfl ?_
          refine jr.if_eq rfl rfl (by omega) (fun h75 => ?_) (fun h75 => ?_)
          · exact absurd h75 (by omega)
          · refine jr.iload rfl rfl ?_
            refine jr.if_eq rfl rfl (by omega) (fun h => absurd h (by decide)) (fun _ => ?_)
            refine jr.aload_n rfl rfl ?_
            refine jr.iload rfl rfl ?_
            refine jr.if_eq rfl rfl (by omega) (fun h => absurd h (by decide)) (fun _ => ?_)
            refine jr.iload_n rfl rfl ?_
            refine jr.goto rfl rfl ?_
            refine jr.putf (i := 134) (x := v2) rfl rfl (by decide) rfl (by decide) rfl rfl rfl rfl rfl ?_
            refine jr.aload_n rfl rfl ?_
            refine jr.aload_n rfl rfl ?_
            refine jr.getf (i := 125) (v := .ref 681) rfl rfl (by decide) rfl (by decide) rfl rfl rfl rfl ?_
            refine jr.iload_n rfl rfl ?_
            refine jr.iald (i := f) (x := bk) rfl (by decide) rfl (by decide) (by omega) (by omega) ((ju_c _ _ (by decide)).trans ((ju_c _ _ (by decide)).trans hbk)) ?_
            refine jr.putf (i := 132) (x := bk) rfl rfl (by decide) rfl (by decide) rfl rfl rfl rfl rfl ?_
            have y26 : (ju (ju (ju M 598 122 (F - 1)) 598 134 v2) 598 132 bk) 598 122 = F - 1 := ((ju_i _ _ (by decide)).trans ((ju_i _ _ (by decide)).trans (ju_same _ _ _ _)))
            obtain ⟨v27, e27⟩ : ∃ z, M 598 136 = z := ⟨_, rfl⟩
            have b27 : 0 ≤ v27 ∧ v27 ≤ 1 := by rw [← e27]; exact hI_M 598 136 (by decide)
            have y28 : (ju (ju (ju M 598 122 (F - 1)) 598 134 v2) 598 132 bk) 598 136 = v27 := ((ju_i _ _ (by decide)).trans ((ju_i _ _ (by decide)).trans ((ju_i _ _ (by decide)).trans e27)))
            exact jr.vreturn rfl rfl (q _ (RI.u (RI.u (RI.u hI_M (a := 598) (i := 122) (show (0 : Int) ≤ _ ∧ _ ≤ (9 : Int) from by omega)) (a := 598) (i := 134) (show (0 : Int) ≤ _ ∧ _ ≤ (8 : Int) from by omega)) (a := 598) (i := 132) (show (0 : Int) ≤ _ ∧ _ ≤ (2200 : Int) from by omega)) (RH.o (RH.o (RH.o hH_M (by decide) (by decide) (by decide)) (by decide) (by decide) (by decide)) (by decide) (by decide) (by decide)) (RF.o (RF.o (RF.o hS_M (by decide) (by decide)) (by decide) (by decide)) (by decide) (by decide))  (AS.o (AS.o (AS.o hAS (by decide) (Or.inr (by decide))) (by decide) (Or.inr (by decide))) (by decide) (Or.inr (by decide))) (Or.inr ⟨by omega, (FRS.fr hFR (fun i => ((ju_c _ _ (by decide)).trans ((ju_c _ _ (by decide)).trans ((ju_c _ _ (by decide)).trans (rfl))))) (fun i => ((ju_c _ _ (by decide)).trans ((ju_c _ _ (by decide)).trans ((ju_c _ _ (by decide)).trans (rfl))))) (fun i => ((ju_c _ _ (by decide)).trans ((ju_c _ _ (by decide)).trans ((ju_c _ _ (by decide)).trans (rfl))))) ((ju_i _ _ (by decide)).trans ((ju_i _ _ (by decide)).trans ((ju_i _ _ (by decide)).trans (rfl)))) (by omega)), by omega, by omega, (by rw [show (ju (ju (ju M 598 122 (F - 1)) 598 134 v2) 598 132 bk) 654 = M 654 from funext (fun i => ((ju_c _ _ (by decide)).trans ((ju_c _ _ (by decide)).trans ((ju_c _ _ (by decide)).trans (rfl))))), (ju_same _ _ _ _)]; exact fr0.2.2 (by omega)), (by have z1 := (phi.le (ju (ju (ju M 598 122 (F - 1)) 598 134 v2) 598 132 bk)).2; have z2 := (phi.le M).1; omega)⟩) (fun a i f598 f602 f624 f670 f671 f672 f673 f680 f683 f684 => ((ju_c _ _ f598).trans ((ju_c _ _ f598).trans ((ju_c _ _ f598).trans rfl)))) (fun i g112 g122 g132 g134 g136 g137 g138 => ((ju_i _ _ g132).trans ((ju_i _ _ g134).trans ((ju_i _ _ g122).trans rfl)))))
  · refine jr.aload_n rfl rfl ?_
    refine jr.iconst rfl ?_
    refine jr.putf (i := 136) (x := 1) rfl rfl (by decide) rfl (by decide) rfl rfl rfl rfl rfl ?_
    refine jr.aload_n rfl rfl ?_
    refine jr.iload_n rfl rfl ?_
    refine jr.putf (i := 137) (x := v1) rfl rfl (by decide) rfl (by decide) rfl rfl rfl rfl rfl ?_
    refine jr.aload_n rfl rfl ?_
    refine jr.iload_n rfl rfl ?_
    refine jr.putf (i := 138) (x := v2) rfl rfl (by decide) rfl (by decide) rfl rfl rfl rfl rfl ?_
    have y29 : (ju (ju (ju (ju M 598 122 (F - 1)) 598 136 1) 598 137 v1) 598 138 v2) 598 122 = F - 1 := ((ju_i _ _ (by decide)).trans ((ju_i _ _ (by decide)).trans ((ju_i _ _ (by decide)).trans (ju_same _ _ _ _))))
    have y30 : (ju (ju (ju (ju M 598 122 (F - 1)) 598 136 1) 598 137 v1) 598 138 v2) 598 136 = 1 := ((ju_i _ _ (by decide)).trans ((ju_i _ _ (by decide)).trans (ju_same _ _ _ _)))
    exact jr.vreturn rfl rfl (q _ (RI.u (RI.u (RI.u (RI.u hI_M (a := 598) (i := 122) (show (0 : Int) ≤ _ ∧ _ ≤ (9 : Int) from by omega)) (a := 598) (i := 136) (show (0 : Int) ≤ _ ∧ _ ≤ (1 : Int) from by omega)) (a := 598) (i := 137) (show (0 : Int) ≤ _ ∧ _ ≤ (2 : Int) from by omega)) (a := 598) (i := 138) (show (0 : Int) ≤ _ ∧ _ ≤ (8 : Int) from by omega)) (RH.o (RH.o (RH.o (RH.o hH_M (by decide) (by decide) (by decide)) (by decide) (by decide) (by decide)) (by decide) (by decide) (by decide)) (by decide) (by decide) (by decide)) (RF.o (RF.o (RF.o (RF.o hS_M (by decide) (by decide)) (by decide) (by decide)) (by decide) (by decide)) (by decide) (by decide))  (AS.o (AS.o (AS.o (AS.o hAS (by decide) (Or.inr (by decide))) (by decide) (Or.inr (by decide))) (by decide) (Or.inr (by decide))) (by decide) (Or.inr (by decide))) (Or.inl (((ju_i _ _ (by decide)).trans ((ju_i _ _ (by decide)).trans (ju_same _ _ _ _))))) (fun a i f598 f602 f624 f670 f671 f672 f673 f680 f683 f684 => ((ju_c _ _ f598).trans ((ju_c _ _ f598).trans ((ju_c _ _ f598).trans ((ju_c _ _ f598).trans rfl))))) (fun i g112 g122 g132 g134 g136 g137 g138 => ((ju_i _ _ g138).trans ((ju_i _ _ g137).trans ((ju_i _ _ g136).trans ((ju_i _ _ g122).trans rfl))))))
theorem r_raise_L37 {A : Nat → Option (Nat × (Nat → Int32))} {Q : Option Value → jm → Prop} {L n : Int} {ht : Int → Int} {M0 : jm} (q : ∀ (M' : jm), RI M' → RH M' → RF M' → AS M' L → ((M' 598 136 = 1) ∨ (M' 598 136 = M0 598 136 ∧ FRS M' ht n (M' 598 122) ∧ 1 ≤ M' 598 122 ∧ M' 598 122 ≤ 8 ∧ REr (M' 654) ht n (M' 598 132) ∧ phi M' < phi M0)) → M' 598 131 = 0 → (∀ (a : Nat) (i : Int), a ≠ 598 → a ≠ 602 → a ≠ 624 → a ≠ 670 → a ≠ 671 → a ≠ 672 → a ≠ 673 → a ≠ 680 → a ≠ 683 → a ≠ 684 → M' a i = M0 a i) → (∀ (i : Int), i ≠ 112 → i ≠ 122 → i ≠ 132 → i ≠ 134 → i ≠ 136 → i ≠ 137 → i ≠ 138 → i ≠ 111 → i ≠ 131 → i ≠ 142 → i ≠ 147 → M' 598 i = M0 598 i) → Q none M') : ∀ (M : jm) (m : Int) (x : Int) (y : Int), RI M → RH M → RF M → (∀ (a : Nat) (i : Int), a ≠ 598 → a ≠ 602 → a ≠ 624 → a ≠ 670 → a ≠ 671 → a ≠ 672 → a ≠ 673 → a ≠ 680 → a ≠ 683 → a ≠ 684 → M a i = M0 a i) → (∀ (i : Int), i ≠ 112 → i ≠ 122 → i ≠ 132 → i ≠ 134 → i ≠ 136 → i ≠ 137 → i ≠ 138 → i ≠ 111 → i ≠ 131 → i ≠ 142 → i ≠ 147 → M 598 i = M0 598 i) → 1 ≤ m ∧ m ≤ 8 → 0 ≤ x ∧ x ≤ 2000 → 0 ≤ y ∧ y ≤ 1 → x + y ≤ 2000 → MX M ht n → FRS M ht n (M 598 122) → 1 ≤ M 598 122 ∧ M 598 122 ≤ 8 → AS M L → L ≤ 2000000000 → M = M0 → jr A 5 xm_378 37 [(2, .int (Int32.ofInt (m))), (0, .ref (598))] [.int (Int32.ofInt (y)), .int (Int32.ofInt (x)), .ref (598)] M Q := by
    intro M m x y hI_M hH_M hS_M hF_M hG_M h_m h_x h_y hy0 hy1 hy2 hy3 hy4 hy5 hy6
    subst hy6
    have hMX := hy1
    have hFR := hy2
    have hAS := hy4
    refine jr.iadd rfl ?_
    refine jr.putf (i := 111) (x := (x + y)) rfl rfl (by decide) rfl (by decide) rfl rfl rfl rfl rfl ?_
    refine jr.aload_n rfl rfl ?_
    refine jr.aload_n rfl rfl ?_
    refine jr.getf (i := 123) (v := .ref 679) rfl rfl (by decide) rfl (by decide) rfl rfl rfl rfl ?_
    refine jr.aload_n rfl rfl ?_
    obtain ⟨v1, e1⟩ : ∃ z, M 598 122 = z := ⟨_, rfl⟩
    have b1 : 0 ≤ v1 ∧ v1 ≤ 9 := by rw [← e1]; exact hI_M 598 122 (by decide)
    refine jr.getf (i := 122) (x := v1) (v := .int (Int32.ofInt (v1))) rfl rfl (by decide) rfl (by decide) rfl rfl ((ju_i _ _ (by decide)).trans e1) rfl ?_
    refine jr.iconst rfl ?_
    refine jr.isub rfl ?_
    obtain ⟨v2, e2⟩ : ∃ z, M 679 (v1 - 1) = z := ⟨_, rfl⟩
    have b2 : 0 ≤ v2 ∧ v2 ≤ 15 := by rw [← e2]; exact (by have q := hI_M 679 (v1 - 1) (by decide); rw [xri_row rfl rfl] at q; exact q)
    refine jr.iald (i := (v1 - 1)) (x := v2) rfl (by decide) rfl (by decide) (by omega) (by omega) ((ju_c _ _ (by decide)).trans e2) ?_
    refine jr.putf (i := 147) (x := v2) rfl rfl (by decide) rfl (by decide) rfl rfl rfl rfl rfl ?_
    refine jr.aload_n rfl rfl ?_
    refine jr.iload_n rfl rfl ?_
    refine jr.bipush rfl (by decide) ?_
    refine jr.icmp_ne rfl rfl (by omega) (by omega) (fun h60 => ?_) (fun h60 => ?_)
    · refine jr.lconst (x := 0) rfl (by decide) ?_
      refine jr.putf (i := 142) (x := 0) rfl rfl (by decide) rfl (by decide) rfl rfl rfl rfl rfl ?_
      refine jr.aload_n rfl rfl ?_
      refine jr.iconst rfl ?_
      refine jr.putf (i := 131) (x := 0) rfl rfl (by decide) rfl (by decide) rfl rfl rfl rfl rfl ?_
      refine jr.aload_n rfl rfl ?_
      refine jr.iconst rfl ?_
      refine jr.iload_n rfl rfl ?_
      have y4 : (ju (ju (ju (ju M 598 111 (x + y)) 598 147 v2) 598 142 0) 598 131 0) 598 122 = v1 := ((ju_i _ _ (by decide)).trans ((ju_i _ _ (by decide)).trans ((ju_i _ _ (by decide)).trans ((ju_i _ _ (by decide)).trans e1))))
      refine jr_v rfl rfl (Or.inl rfl) rfl rfl (by decide) rfl ⟨rfl, Nat.le_of_ble_eq_true rfl, Nat.le_of_ble_eq_true rfl⟩ rfl (jc.deep (r_leave (RI.u (RI.u (RI.u (RI.u hI_M (a := 598) (i := 111) (show (0 : Int) ≤ _ ∧ _ ≤ (2000 : Int) from by omega)) (a := 598) (i := 147) (show (0 : Int) ≤ _ ∧ _ ≤ (15 : Int) from by omega)) (a := 598) (i := 142) (show (-9223372036854775808 : Int) ≤ _ ∧ _ ≤ (9223372036854775807 : Int) from by omega)) (a := 598) (i := 131) (show (0 : Int) ≤ _ ∧ _ ≤ (400 : Int) from by omega)) (RH.o (RH.o (RH.o (RH.o hH_M (by decide) (by decide) (by decide)) (by decide) (by decide) (by decide)) (by decide) (by decide) (by decide)) (by decide) (by decide) (by decide)) (RF.o (RF.o (RF.o (RF.o hS_M (by decide) (by decide)) (by decide) (by decide)) (by decide) (by decide)) (by decide) (by decide))  (by omega) (by omega) (MX.o (MX.o (MX.o (MX.o hMX (by decide) (Or.inr (by decide))) (by decide) (Or.inr (by decide))) (by decide) (Or.inr (by decide))) (by decide) (Or.inr (by decide))) (FRS.fr hFR (fun i => ((ju_c _ _ (by decide)).trans ((ju_c _ _ (by decide)).trans ((ju_c _ _ (by decide)).trans ((ju_c _ _ (by decide)).trans (rfl)))))) (fun i => ((ju_c _ _ (by decide)).trans ((ju_c _ _ (by decide)).trans ((ju_c _ _ (by decide)).trans ((ju_c _ _ (by decide)).trans (rfl)))))) (fun i => ((ju_c _ _ (by decide)).trans ((ju_c _ _ (by decide)).trans ((ju_c _ _ (by decide)).trans ((ju_c _ _ (by decide)).trans (rfl)))))) ((ju_i _ _ (by decide)).trans ((ju_i _ _ (by decide)).trans ((ju_i _ _ (by decide)).trans ((ju_i _ _ (by decide)).trans (rfl))))) (by omega)) (by rw [((ju_i _ _ (by decide)).trans ((ju_i _ _ (by decide)).trans ((ju_i _ _ (by decide)).trans ((ju_i _ _ (by decide)).trans e1))))]; omega) (AS.o (AS.o (AS.o (AS.o hAS (by decide) (Or.inr (by decide))) (by decide) (Or.inr (by decide))) (by decide) (Or.inr (by decide))) (by decide) (Or.inr (by decide))) (by omega) (fun M3 hI_M3 hH_M3 hS_M3  w3_0 w3_1 w3_2 w3_3 => ?_)) (by decide))
      have e5 : M3 598 131 = 0 := ((w3_3 131 (by decide) (by decide) (by decide) (by decide) (by decide) (by decide) (by decide)).trans (ju_same _ _ _ _))
      obtain ⟨v7, e7⟩ : ∃ z, M 598 136 = z := ⟨_, rfl⟩
      have b7 : 0 ≤ v7 ∧ v7 ≤ 1 := by rw [← e7]; exact hI_M 598 136 (by decide)
      have y6 : (ju (ju (ju (ju M 598 111 (x + y)) 598 147 v2) 598 142 0) 598 131 0) 598 122 = v1 := ((ju_i _ _ (by decide)).trans ((ju_i _ _ (by decide)).trans ((ju_i _ _ (by decide)).trans ((ju_i _ _ (by decide)).trans e1))))
      have y8 : (ju (ju (ju (ju M 598 111 (x + y)) 598 147 v2) 598 142 0) 598 131 0) 598 136 = v7 := ((ju_i _ _ (by decide)).trans ((ju_i _ _ (by decide)).trans ((ju_i _ _ (by decide)).trans ((ju_i _ _ (by decide)).trans e7))))
      obtain ⟨v9, e9⟩ : ∃ z, M 598 136 = z := ⟨_, rfl⟩
      have b9 : 0 ≤ v9 ∧ v9 ≤ 1 := by rw [← e9]; exact hI_M 598 136 (by decide)
      exact jr.vreturn rfl rfl (q _ hI_M3 hH_M3 hS_M3  w3_0 (by rcases w3_1 with z | ⟨y1, y2, y3, y4, y5, y6⟩; (exact Or.inl z); (have z1 := phi.fr (M := M) (M' := (ju (ju (ju (ju M 598 111 (x + y)) 598 147 v2) 598 142 0) 598 131 0)) ((ju_i _ _ (by decide)).trans ((ju_i _ _ (by decide)).trans ((ju_i _ _ (by decide)).trans ((ju_i _ _ (by decide)).trans (rfl))))) (fun i => ((ju_c _ _ (by decide)).trans ((ju_c _ _ (by decide)).trans ((ju_c _ _ (by decide)).trans ((ju_c _ _ (by decide)).trans (rfl)))))); exact Or.inr ⟨by omega, y2, y3, y4, y5, by omega⟩)) (e5) (fun a i f598 f602 f624 f670 f671 f672 f673 f680 f683 f684 => ((w3_2 a i f598 f602 f624 f670 f671 f672 f673 f680 f683 f684).trans ((ju_c _ _ f598).trans ((ju_c _ _ f598).trans ((ju_c _ _ f598).trans ((ju_c _ _ f598).trans (hF_M a i f598 f602 f624 f670 f671 f672 f673 f680 f683 f684))))))) (fun i g112 g122 g132 g134 g136 g137 g138 g111 g131 g142 g147 => ((w3_3 i g112 g122 g132 g134 g136 g137 g138).trans ((ju_i _ _ g131).trans ((ju_i _ _ g142).trans ((ju_i _ _ g147).trans ((ju_i _ _ g111).trans (hG_M i g112 g122 g132 g134 g136 g137 g138 g111 g131 g142 g147))))))))
    · refine jr.aload_n rfl rfl ?_
      obtain ⟨v10, e10⟩ : ∃ z, M 598 139 = z := ⟨_, rfl⟩
      have b10 : (-9223372036854775808) ≤ v10 ∧ v10 ≤ 9223372036854775807 := by rw [← e10]; exact hI_M 598 139 (by decide)
      refine jr.getf (i := 139) (x := v10) (v := .long (Int64.ofInt (v10))) rfl rfl (by decide) rfl (by decide) rfl rfl ((ju_i _ _ (by decide)).trans ((ju_i _ _ (by decide)).trans e10)) rfl ?_
      refine jr.goto rfl rfl ?_
      refine jr.putf (i := 142) (x := v10) rfl rfl (by decide) rfl (by decide) rfl rfl rfl rfl rfl ?_
      refine jr.aload_n rfl rfl ?_
      refine jr.iconst rfl ?_
      refine jr.putf (i := 131) (x := 0) rfl rfl (by decide) rfl (by decide) rfl rfl rfl rfl rfl ?_
      refine jr.aload_n rfl rfl ?_
      refine jr.iconst rfl ?_
      refine jr.iload_n rfl rfl ?_
      have y12 : (ju (ju (ju (ju M 598 111 (x + y)) 598 147 v2) 598 142 v10) 598 131 0) 598 122 = v1 := ((ju_i _ _ (by decide)).trans ((ju_i _ _ (by decide)).trans ((ju_i _ _ (by decide)).trans ((ju_i _ _ (by decide)).trans e1))))
      refine jr_v rfl rfl (Or.inl rfl) rfl rfl (by decide) rfl ⟨rfl, Nat.le_of_ble_eq_true rfl, Nat.le_of_ble_eq_true rfl⟩ rfl (jc.deep (r_leave (RI.u (RI.u (RI.u (RI.u hI_M (a := 598) (i := 111) (show (0 : Int) ≤ _ ∧ _ ≤ (2000 : Int) from by omega)) (a := 598) (i := 147) (show (0 : Int) ≤ _ ∧ _ ≤ (15 : Int) from by omega)) (a := 598) (i := 142) (show (-9223372036854775808 : Int) ≤ _ ∧ _ ≤ (9223372036854775807 : Int) from by omega)) (a := 598) (i := 131) (show (0 : Int) ≤ _ ∧ _ ≤ (400 : Int) from by omega)) (RH.o (RH.o (RH.o (RH.o hH_M (by decide) (by decide) (by decide)) (by decide) (by decide) (by decide)) (by decide) (by decide) (by decide)) (by decide) (by decide) (by decide)) (RF.o (RF.o (RF.o (RF.o hS_M (by decide) (by decide)) (by decide) (by decide)) (by decide) (by decide)) (by decide) (by decide))  (by omega) (by omega) (MX.o (MX.o (MX.o (MX.o hMX (by decide) (Or.inr (by decide))) (by decide) (Or.inr (by decide))) (by decide) (Or.inr (by decide))) (by decide) (Or.inr (by decide))) (FRS.fr hFR (fun i => ((ju_c _ _ (by decide)).trans ((ju_c _ _ (by decide)).trans ((ju_c _ _ (by decide)).trans ((ju_c _ _ (by decide)).trans (rfl)))))) (fun i => ((ju_c _ _ (by decide)).trans ((ju_c _ _ (by decide)).trans ((ju_c _ _ (by decide)).trans ((ju_c _ _ (by decide)).trans (rfl)))))) (fun i => ((ju_c _ _ (by decide)).trans ((ju_c _ _ (by decide)).trans ((ju_c _ _ (by decide)).trans ((ju_c _ _ (by decide)).trans (rfl)))))) ((ju_i _ _ (by decide)).trans ((ju_i _ _ (by decide)).trans ((ju_i _ _ (by decide)).trans ((ju_i _ _ (by decide)).trans (rfl))))) (by omega)) (by rw [((ju_i _ _ (by decide)).trans ((ju_i _ _ (by decide)).trans ((ju_i _ _ (by decide)).trans ((ju_i _ _ (by decide)).trans e1))))]; omega) (AS.o (AS.o (AS.o (AS.o hAS (by decide) (Or.inr (by decide))) (by decide) (Or.inr (by decide))) (by decide) (Or.inr (by decide))) (by decide) (Or.inr (by decide))) (by omega) (fun M11 hI_M11 hH_M11 hS_M11  w11_0 w11_1 w11_2 w11_3 => ?_)) (by decide))
      have e13 : M11 598 131 = 0 := ((w11_3 131 (by decide) (by decide) (by decide) (by decide) (by decide) (by decide) (by decide)).trans (ju_same _ _ _ _))
      obtain ⟨v15, e15⟩ : ∃ z, M 598 136 = z := ⟨_, rfl⟩
      have b15 : 0 ≤ v15 ∧ v15 ≤ 1 := by rw [← e15]; exact hI_M 598 136 (by decide)
      have y14 : (ju (ju (ju (ju M 598 111 (x + y)) 598 147 v2) 598 142 v10) 598 131 0) 598 122 = v1 := ((ju_i _ _ (by decide)).trans ((ju_i _ _ (by decide)).trans ((ju_i _ _ (by decide)).trans ((ju_i _ _ (by decide)).trans e1))))
      have y16 : (ju (ju (ju (ju M 598 111 (x + y)) 598 147 v2) 598 142 v10) 598 131 0) 598 136 = v15 := ((ju_i _ _ (by decide)).trans ((ju_i _ _ (by decide)).trans ((ju_i _ _ (by decide)).trans ((ju_i _ _ (by decide)).trans e15))))
      obtain ⟨v17, e17⟩ : ∃ z, M 598 136 = z := ⟨_, rfl⟩
      have b17 : 0 ≤ v17 ∧ v17 ≤ 1 := by rw [← e17]; exact hI_M 598 136 (by decide)
      exact jr.vreturn rfl rfl (q _ hI_M11 hH_M11 hS_M11  w11_0 (by rcases w11_1 with z | ⟨y1, y2, y3, y4, y5, y6⟩; (exact Or.inl z); (have z1 := phi.fr (M := M) (M' := (ju (ju (ju (ju M 598 111 (x + y)) 598 147 v2) 598 142 v10) 598 131 0)) ((ju_i _ _ (by decide)).trans ((ju_i _ _ (by decide)).trans ((ju_i _ _ (by decide)).trans ((ju_i _ _ (by decide)).trans (rfl))))) (fun i => ((ju_c _ _ (by decide)).trans ((ju_c _ _ (by decide)).trans ((ju_c _ _ (by decide)).trans ((ju_c _ _ (by decide)).trans (rfl)))))); exact Or.inr ⟨by omega, y2, y3, y4, y5, by omega⟩)) (e13) (fun a i f598 f602 f624 f670 f671 f672 f673 f680 f683 f684 => ((w11_2 a i f598 f602 f624 f670 f671 f672 f673 f680 f683 f684).trans ((ju_c _ _ f598).trans ((ju_c _ _ f598).trans ((ju_c _ _ f598).trans ((ju_c _ _ f598).trans (hF_M a i f598 f602 f624 f670 f671 f672 f673 f680 f683 f684))))))) (fun i g112 g122 g132 g134 g136 g137 g138 g111 g131 g142 g147 => ((w11_3 i g112 g122 g132 g134 g136 g137 g138).trans ((ju_i _ _ g131).trans ((ju_i _ _ g142).trans ((ju_i _ _ g147).trans ((ju_i _ _ g111).trans (hG_M i g112 g122 g132 g134 g136 g137 g138 g111 g131 g142 g147))))))))
theorem r_raise {A : Nat → Option (Nat × (Nat → Int32))} {Q : Option Value → jm → Prop} {L n : Int} {ht : Int → Int} {M : jm} (hI_M : RI M) (hH_M : RH M) (hS_M : RF M) {m : Int} (h_m : 1 ≤ m ∧ m ≤ 8) (p0 : MX M ht n) (p1 : FRS M ht n (M 598 122)) (p2 : 1 ≤ M 598 122 ∧ M 598 122 ≤ 8) (p3 : AS M L) (p4 : L ≤ 2000000000) (q : ∀ (M' : jm), RI M' → RH M' → RF M' → AS M' L → ((M' 598 136 = 1) ∨ (M' 598 136 = M 598 136 ∧ FRS M' ht n (M' 598 122) ∧ 1 ≤ M' 598 122 ∧ M' 598 122 ≤ 8 ∧ REr (M' 654) ht n (M' 598 132) ∧ phi M' < phi M)) → M' 598 131 = 0 → (∀ (a : Nat) (i : Int), a ≠ 598 → a ≠ 602 → a ≠ 624 → a ≠ 670 → a ≠ 671 → a ≠ 672 → a ≠ 673 → a ≠ 680 → a ≠ 683 → a ≠ 684 → M' a i = M a i) → (∀ (i : Int), i ≠ 112 → i ≠ 122 → i ≠ 132 → i ≠ 134 → i ≠ 136 → i ≠ 137 → i ≠ 138 → i ≠ 111 → i ≠ 131 → i ≠ 142 → i ≠ 147 → M' 598 i = M 598 i) → Q none M') : jc A 6 378 [.ref (598), .int (Int32.ofInt (m))] M Q := by
  have hMX := p0
  have hFR := p1
  have hAS := p3
  refine jc_of (m := xm_378) rfl (Nat.le_of_ble_eq_true rfl) rfl ?_
  refine jr.aload_n rfl rfl ?_
  obtain ⟨v1, e1⟩ : ∃ z, M 598 111 = z := ⟨_, rfl⟩
  have b1 : 0 ≤ v1 ∧ v1 ≤ 2000 := by rw [← e1]; exact hI_M 598 111 (by decide)
  refine jr.getf (i := 111) (x := v1) (v := .int (Int32.ofInt (v1))) rfl rfl (by decide) rfl (by decide) rfl rfl e1 rfl ?_
  refine jr.sipush rfl (by decide) ?_
  refine jr.icmp_ne rfl rfl (by omega) (by omega) (fun h7 => ?_) (fun h7 => ?_)
  · refine jr.iload_n rfl rfl ?_
    refine jr.istore_n rfl (by decide) rfl ?_
    refine jr.aload_n rfl rfl ?_
    refine jr.dup rfl rfl ?_
    refine jr.getf (i := 111) (x := v1) (v := .int (Int32.ofInt (v1))) rfl rfl (by decide) rfl (by decide) rfl rfl e1 rfl ?_
    refine jr.aload_n rfl rfl ?_
    refine jr.getf (i := 111) (x := v1) (v := .int (Int32.ofInt (v1))) rfl rfl (by decide) rfl (by decide) rfl rfl e1 rfl ?_
    refine jr.sipush rfl (by decide) ?_
    refine jr.icmp_ne rfl rfl (by omega) (by omega) (fun h29 => ?_) (fun h29 => ?_)
    · refine jr.iconst rfl ?_
      obtain ⟨v2, e2⟩ : ∃ z, M 598 122 = z := ⟨_, rfl⟩
      have b2 : 0 ≤ v2 ∧ v2 ≤ 9 := by rw [← e2]; exact hI_M 598 122 (by decide)
      refine jr.pick [0, 1] rfl rfl ?_
      exact r_raise_L37 q M m v1 1 hI_M hH_M hS_M  (fun a i f598 f602 f624 f670 f671 f672 f673 f680 f683 f684 => rfl) (fun i g112 g122 g132 g134 g136 g137 g138 g111 g131 g142 g147 => rfl) (by omega) (by omega) (by omega) (by omega) hMX hFR (by rw [e2] <;> omega) hAS (by omega) rfl
    · exact absurd (by omega) h29
  · refine jr.bipush rfl (by decide) ?_
    refine jr.goto rfl rfl ?_
    refine jr.istore_n rfl (by decide) rfl ?_
    refine jr.aload_n rfl rfl ?_
    refine jr.dup rfl rfl ?_
    refine jr.getf (i := 111) (x := v1) (v := .int (Int32.ofInt (v1))) rfl rfl (by decide) rfl (by decide) rfl rfl e1 rfl ?_
    refine jr.aload_n rfl rfl ?_
    refine jr.getf (i := 111) (x := v1) (v := .int (Int32.ofInt (v1))) rfl rfl (by decide) rfl (by decide) rfl rfl e1 rfl ?_
    refine jr.sipush rfl (by decide) ?_
    refine jr.icmp_ne rfl rfl (by omega) (by omega) (fun h29 => ?_) (fun h29 => ?_)
    · exact absurd h29 (by omega)
    · refine jr.iconst rfl ?_
      refine jr.goto rfl rfl ?_
      obtain ⟨v3, e3⟩ : ∃ z, M 598 122 = z := ⟨_, rfl⟩
      have b3 : 0 ≤ v3 ∧ v3 ≤ 9 := by rw [← e3]; exact hI_M 598 122 (by decide)
      refine jr.pick [0, 1] rfl rfl ?_
      exact r_raise_L37 q M 8 v1 0 hI_M hH_M hS_M  (fun a i f598 f602 f624 f670 f671 f672 f673 f680 f683 f684 => rfl) (fun i g112 g122 g132 g134 g136 g137 g138 g111 g131 g142 g147 => rfl) (by omega) (by omega) (by omega) (by omega) hMX hFR (by rw [e3] <;> omega) hAS (by omega) rfl
