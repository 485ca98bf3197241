theorem r_gather_x {A : Nat → Option (Nat × (Nat → Int32))} {Q : Option Value → jm → Prop} {M : jm} (hI_M : RI M) (hH_M : RH M) (hS_M : RF M) {x : Int} (h_x : (-2147483648) ≤ x ∧ x ≤ 2147483647) (p0 : RG1 M) (p1 : GQ6 M) (q : ∀ (r : Int) (M' : jm), RI M' → RH M' → RF M' → (-5) ≤ r ∧ r ≤ 23 → RG1 M' → GAR M M' x r → (∀ (a : Nat) (i : Int), a ≠ 598 → a ≠ 600 → a ≠ 601 → a ≠ 602 → a ≠ 603 → a ≠ 604 → a ≠ 605 → a ≠ 606 → a ≠ 607 → a ≠ 608 → a ≠ 609 → a ≠ 610 → a ≠ 611 → a ≠ 612 → a ≠ 613 → a ≠ 614 → a ≠ 615 → a ≠ 616 → a ≠ 617 → a ≠ 618 → a ≠ 619 → a ≠ 620 → a ≠ 621 → a ≠ 622 → M' a i = M a i) → (∀ (i : Int), i ≠ 6 → i ≠ 10 → i ≠ 11 → i ≠ 12 → i ≠ 34 → M' 598 i = M 598 i) → Q (some (.int (Int32.ofInt r))) M') : jc A 6 292 [.ref (598), .int (Int32.ofInt (x))] M Q := by
  have hG1 := p0
  refine jc_of (m := xm_292) rfl (Nat.le_of_ble_eq_true rfl) rfl ?_
  refine jr.aload_n rfl rfl ?_
  refine jr.iload_n rfl rfl ?_
  refine jr_v rfl rfl (Or.inl rfl) rfl rfl (by decide) rfl ⟨rfl, Nat.le_of_ble_eq_true rfl, Nat.le_of_ble_eq_true rfl⟩ rfl (jc.deep (c_isThere hI_M (by omega) (fun l2 u2 t2 => ?_) (fun n2 => ?_)) (by decide))
  · refine jr.if_ne rfl rfl (by omega) (fun _ => ?_) (fun h => absurd (by decide) h)
    refine jr.aload_n rfl rfl ?_
    refine jr.iload_n rfl rfl ?_
    obtain ⟨v2, e2⟩ : ∃ z, M 600 x = z := ⟨_, rfl⟩
    have b2 : (-1) ≤ v2 ∧ v2 ≤ 400 := by rw [← e2]; exact (by have q := hI_M 600 x (by decide); rw [xri_row rfl rfl] at q; exact q)
    refine jr_v rfl rfl (Or.inl rfl) rfl rfl (by decide) rfl ⟨rfl, Nat.le_of_ble_eq_true rfl, Nat.le_of_ble_eq_true rfl⟩ rfl (jc.deep (r_look_x hI_M hH_M hS_M  (by omega) (by rw [e2]; omega) (fun M1 hI_M1 hH_M1 hS_M1  w1_0 w1_1 w1_2 w1_3 => ?_)) (by decide))
    refine jr.aload_n rfl rfl ?_
    obtain ⟨v3, e3⟩ : ∃ z, M1 598 10 = z := ⟨_, rfl⟩
    have b3 : 0 ≤ v3 ∧ v3 ≤ 6 := by rw [← e3]; exact hI_M1 598 10 (by decide)
    refine jr.getf (i := 10) (x := v3) (v := .int (Int32.ofInt (v3))) rfl rfl (by decide) rfl (by decide) rfl rfl e3 rfl ?_
    refine jr.if_eq rfl rfl (by omega) (fun h20 => ?_) (fun h20 => ?_)
    · refine jr.aload_n rfl rfl ?_
      refine jr.iload_n rfl rfl ?_
      refine jr_v rfl rfl (Or.inl rfl) rfl rfl (by decide) rfl ⟨rfl, Nat.le_of_ble_eq_true rfl, Nat.le_of_ble_eq_true rfl⟩ rfl (jc.deep (r_piece_x hI_M1 hH_M1 hS_M1  (by omega) (HQ6.t w1_1 (by have hq := hI_M 600 x (by decide); rw [xri_row rfl rfl] at hq; omega) (fun i h0 h1 => rf_r hI_M x i)) (rf_e (fun i => w1_2 601 i (by decide) (by decide) (by decide) (by decide))) (fun r4 z4 w4_0 w4_1 w4_2 => ?_)) (by decide))
      refine jr.istore_n rfl (by decide) rfl ?_
      refine jr.iload_n rfl rfl ?_
      refine jr.iconst rfl ?_
      refine jr.icmp_ne rfl rfl (by omega) (by omega) (fun h35 => ?_) (fun h35 => ?_)
      · have sx35 : (0 : Int) ≤ r4 := by omega
        refine jr.aload_n rfl rfl ?_
        refine jr.getf (i := 7) (v := .ref 603) rfl rfl (by decide) rfl (by decide) rfl rfl rfl rfl ?_
        refine jr.iload_n rfl rfl ?_
        obtain ⟨v5, e5⟩ : ∃ z, M1 603 r4 = z := ⟨_, rfl⟩
        have b5 : 0 ≤ v5 ∧ v5 ≤ 11 := by rw [← e5]; exact (by have q := hI_M1 603 r4 (by decide); rw [xri_row rfl rfl] at q; exact q)
        refine jr.iald (i := r4) (x := v5) rfl (by decide) rfl (by decide) (by omega) (by omega) e5 ?_
        refine jr.istore_n rfl (by decide) rfl ?_
        refine jr.aload_n rfl rfl ?_
        refine jr.getf (i := 8) (v := .ref 604) rfl rfl (by decide) rfl (by decide) rfl rfl rfl rfl ?_
        refine jr.iload_n rfl rfl ?_
        obtain ⟨v6, e6⟩ : ∃ z, M1 604 r4 = z := ⟨_, rfl⟩
        have b6 : 0 ≤ v6 ∧ v6 ≤ 400 := by rw [← e6]; exact (by have q := hI_M1 604 r4 (by decide); rw [xri_row rfl rfl] at q; exact q)
        refine jr.iald (i := r4) (x := v6) rfl (by decide) rfl (by decide) (by omega) (by omega) e6 ?_
        refine jr.istore rfl (by decide) rfl ?_
        refine jr.aload_n rfl rfl ?_
        refine jr_v rfl rfl (Or.inl rfl) rfl rfl (by decide) rfl ⟨rfl, Nat.le_of_ble_eq_true rfl, Nat.le_of_ble_eq_true rfl⟩ rfl (jc.deep (r_net_x hI_M1 hH_M1 hS_M1   (HQ6.t w1_1 (by have hq := hI_M 600 x (by decide); rw [xri_row rfl rfl] at hq; omega) (fun i h0 h1 => rf_r hI_M x i)) (fun r7 z7 w7_0 w7_1 w7_2 w7_3 => ?_)) (by decide))
        have rn4 : r4 ≠ -1 := by clear w4_1; omega
        have hk := HK.mk' (x := x) hH_M1 w1_0 (h := r4) (by clear w4_1; omega) (by clear w4_1; omega) e5 e6 ((w4_0.resolve_left rn4).2.2) w7_0 w7_2 w7_1 (w4_1 rn4)
        clear w4_1
        have t0 := hk.1
        refine jr.istore rfl (by decide) rfl ?_
        have e8 : M1 600 x = v2 := ((w1_2 600 x (by decide) (by decide) (by decide) (by decide)).trans e2)
        refine jr.pick [0, 1, 2, 3, 5, 4] rfl rfl ?_
        exact r_gather_L62_x q M1 r7 v6 v5 r4 x hI_M1 hH_M1 hS_M1  (fun a i f598 f600 f601 f602 f603 f604 f605 f606 f607 f608 f609 f610 f611 f612 f613 f614 f615 f616 f617 f618 f619 f620 f621 f622 => ((w1_2 a i f598 f603 f604 f605).trans rfl)) (fun i g6 g10 g11 g12 g34 => ((w1_3 i g6 g10 g11 g12).trans rfl)) (by omega) (by omega) (by omega) (by omega) (by omega) (RG1.fr hG1 (fun a i ha => w1_2 a i (fun e => absurd ha (by rw [e]; decide)) (fun e => absurd ha (by rw [e]; decide)) (fun e => absurd ha (by rw [e]; decide)) (fun e => absurd ha (by rw [e]; decide)))) hk.2 (by rw [e8] <;> omega) (by have hpc := pcf_r (f := rf M x) (N := M 600 x) (C := M1 598 6) w1_1.1.1; rw [← w4_2] at hpc; have hcc := (hpc.resolve_left rn4).1; have hh := HT.f (HQ6.t w1_1 (by have hq := hI_M 600 x (by decide); rw [xri_row rfl rfl] at hq; omega) (fun i h0 h1 => rf_r hI_M x i)) hcc; exact ⟨(HQ6.t w1_1 (by have hq := hI_M 600 x (by decide); rw [xri_row rfl rfl] at hq; omega) (fun i h0 h1 => rf_r hI_M x i)), ⟨HQ6.e w1_1, (hx6_z w1_1 (by rw [e3]; omega))⟩, ⟨w4_2, rn4⟩, w7_3, (by omega), (by omega), (rf_e (fun i => w1_2 601 i (by decide) (by decide) (by decide) (by decide))), ⟨by omega, by omega⟩, ⟨w1_2, w1_3⟩⟩) (fun g g0 g1 hg => by have h9 := p1 g g0 g1 (by rw [← w1_2 606 g (by decide) (by decide) (by decide) (by decide)]; exact hg); rw [w1_2 614 g (by decide) (by decide) (by decide) (by decide), w1_2 613 g (by decide) (by decide) (by decide) (by decide)]; exact h9) (by omega)
      · refine jr.bipush rfl (by decide) ?_
        exact jr.ireturn rfl rfl rfl (q _ _ hI_M1 hH_M1 hS_M1  (by omega) (RG1.fr hG1 (fun a i ha => w1_2 a i (fun e => absurd ha (by rw [e]; decide)) (fun e => absurd ha (by rw [e]; decide)) (fun e => absurd ha (by rw [e]; decide)) (fun e => absurd ha (by rw [e]; decide)))) (Or.inr (Or.inl ⟨by omega, M1, ⟨w1_2, w1_3⟩, HQ6.e w1_1, Or.inl ⟨(by first | (exact Or.inl (hx6_n w1_1 (by rw [e3]; omega))) | (exact Or.inr (by rw [← w4_2]; omega))), by omega, rfl⟩⟩)) (fun a i f598 f600 f601 f602 f603 f604 f605 f606 f607 f608 f609 f610 f611 f612 f613 f614 f615 f616 f617 f618 f619 f620 f621 f622 => ((w1_2 a i f598 f603 f604 f605).trans rfl)) (fun i g6 g10 g11 g12 g34 => ((w1_3 i g6 g10 g11 g12).trans rfl)))
    · have sx20 : (1 : Int) ≤ v3 := by omega
      refine jr.iconst rfl ?_
      refine jr.goto rfl rfl ?_
      refine jr.istore_n rfl (by decide) rfl ?_
      refine jr.iload_n rfl rfl ?_
      refine jr.iconst rfl ?_
      refine jr.icmp_ne rfl rfl (by omega) (by omega) (fun h => absurd h (by decide)) (fun _ => ?_)
      refine jr.bipush rfl (by decide) ?_
      exact jr.ireturn rfl rfl rfl (q _ _ hI_M1 hH_M1 hS_M1  (by omega) (RG1.fr hG1 (fun a i ha => w1_2 a i (fun e => absurd ha (by rw [e]; decide)) (fun e => absurd ha (by rw [e]; decide)) (fun e => absurd ha (by rw [e]; decide)) (fun e => absurd ha (by rw [e]; decide)))) (Or.inr (Or.inl ⟨by omega, M1, ⟨w1_2, w1_3⟩, HQ6.e w1_1, Or.inl ⟨(by first | (exact Or.inl (hx6_n w1_1 (by rw [e3]; omega))) | (exact Or.inr (by rw [← w4_2]; omega))), by omega, rfl⟩⟩)) (fun a i f598 f600 f601 f602 f603 f604 f605 f606 f607 f608 f609 f610 f611 f612 f613 f614 f615 f616 f617 f618 f619 f620 f621 f622 => ((w1_2 a i f598 f603 f604 f605).trans rfl)) (fun i g6 g10 g11 g12 g34 => ((w1_3 i g6 g10 g11 g12).trans rfl)))
  · refine jr.if_ne rfl rfl (by omega) (fun h => absurd h (by decide)) (fun _ => ?_)
    refine jr.bipush rfl (by decide) ?_
    exact jr.ireturn rfl rfl rfl (q _ _ hI_M hH_M hS_M  (by omega) hG1 (Or.inl ⟨by omega, by omega, rfl⟩) (fun a i f598 f600 f601 f602 f603 f604 f605 f606 f607 f608 f609 f610 f611 f612 f613 f614 f615 f616 f617 f618 f619 f620 f621 f622 => rfl) (fun i g6 g10 g11 g12 g34 => rfl))

