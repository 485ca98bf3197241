/-! ===== the reference: gather, the walk ===== -/
theorem r_gather_L459_x {A : Nat → Option (Nat × (Nat → Int32))} {Q : Option Value → jm → Prop} {M0 : jm} {x0 : Int} (q : ∀ (r : Int) (M' : jm), RI M' → RH M' → RF M' → (-5) ≤ r ∧ r ≤ 23 → RG1 M' → GAR M0 M' x0 r → (∀ (a : Nat) (i : Int), a ≠ 598 → a ≠ 600 → a ≠ 601 → a ≠ 602 → a ≠ 603 → a ≠ 604 → a ≠ 605 → a ≠ 606 → a ≠ 607 → a ≠ 608 → a ≠ 609 → a ≠ 610 → a ≠ 611 → a ≠ 612 → a ≠ 613 → a ≠ 614 → a ≠ 615 → a ≠ 616 → a ≠ 617 → a ≠ 618 → a ≠ 619 → a ≠ 620 → a ≠ 621 → a ≠ 622 → M' a i = M0 a i) → (∀ (i : Int), i ≠ 6 → i ≠ 10 → i ≠ 11 → i ≠ 12 → i ≠ 34 → M' 598 i = M0 598 i) → Q (some (.int (Int32.ofInt r))) M') : ∀ (M : jm) (g : Int) (o : Int) (c : Int) (f : Int) (t : Int) (k : Int) (h : Int) (x : Int), RI M → RH M → RF M → (∀ (a : Nat) (i : Int), a ≠ 598 → a ≠ 600 → a ≠ 601 → a ≠ 602 → a ≠ 603 → a ≠ 604 → a ≠ 605 → a ≠ 606 → a ≠ 607 → a ≠ 608 → a ≠ 609 → a ≠ 610 → a ≠ 611 → a ≠ 612 → a ≠ 613 → a ≠ 614 → a ≠ 615 → a ≠ 616 → a ≠ 617 → a ≠ 618 → a ≠ 619 → a ≠ 620 → a ≠ 621 → a ≠ 622 → M a i = M0 a i) → (∀ (i : Int), i ≠ 6 → i ≠ 10 → i ≠ 11 → i ≠ 12 → i ≠ 34 → M 598 i = M0 598 i) → 0 ≤ g ∧ g ≤ 7 → 0 ≤ o ∧ o ≤ 65528 → 1 ≤ c ∧ c ≤ 400 → 0 ≤ f ∧ f ≤ 400 → 0 ≤ t ∧ t ≤ 11 → 0 ≤ k ∧ k ≤ 11 → 0 ≤ h ∧ h ≤ 11 → 0 ≤ x ∧ x ≤ 23 → RG1 M → KT M o c f t k h x → (M 606 g ≠ 0 ∧ M 607 g = k) → PX3 M0 M x h t k g o c f → (M 614 g = -1 ∨ (0 ≤ M 614 g ∧ M 614 g ≤ 360)) → x = x0 → jr A 5 xm_292 459 [(18, .int (Int32.ofInt (g))), (9, .int (Int32.ofInt (o))), (8, .int (Int32.ofInt (c))), (7, .int (Int32.ofInt (f))), (5, .int (Int32.ofInt (t))), (3, .int (Int32.ofInt (k))), (2, .int (Int32.ofInt (h))), (1, .int (Int32.ofInt (x))), (0, .ref (598))] [] M Q := by
    intro M g o c f t k h x hI_M hH_M hS_M hF_M hG_M h_g h_o h_c h_f h_t h_k h_h h_x hy0 hy1 hy2 hy3 hy4 hy5
    subst hy5
    have hG1 := hy0
    have kt := hy1
    obtain ⟨t1, t2, t3, t4, t5, t6⟩ := hy1
    have gs := hG1 g (by omega) hy2.1
    refine jr.aload_n rfl rfl ?_
    refine jr.iload rfl rfl ?_
    refine jr.iload_n rfl rfl ?_
    refine jr.iload rfl rfl ?_
    refine jr.iload rfl rfl ?_
    refine jr.iload rfl rfl ?_
    refine jr_v rfl rfl (Or.inl rfl) rfl rfl (by decide) rfl ⟨rfl, Nat.le_of_ble_eq_true rfl, Nat.le_of_ble_eq_true rfl⟩ rfl (jc.deep (r_layData_x hI_M hH_M hS_M  (by omega) (by omega) (by omega) (by omega) (by omega) (by omega) hy4 (fun M1 hI_M1 hH_M1 hS_M1  w1_0 w1_1 w1_2 => ?_)) (by decide))
    refine jr.iload rfl rfl ?_
    refine jr.if_ne rfl rfl (by omega) (fun h474 => ?_) (fun h474 => ?_)
    · have sx474 : (1 : Int) ≤ o := by omega
      refine jr.aload_n rfl rfl ?_
      refine jr.iload rfl rfl ?_
      obtain ⟨v3, e3⟩ : ∃ z, M 606 g = z := ⟨_, rfl⟩
      have b3 : 0 ≤ v3 ∧ v3 ≤ 1 := by rw [← e3]; exact (by have q := hI_M 606 g (by decide); rw [xri_row rfl rfl] at q; exact q)
      have e4 : M1 606 g = v3 := ((w1_1 606 g (by decide) (by decide) (by decide) (by decide)).trans e3)
      refine jr_v rfl rfl (Or.inl rfl) rfl rfl (by decide) rfl ⟨rfl, Nat.le_of_ble_eq_true rfl, Nat.le_of_ble_eq_true rfl⟩ rfl (jc.deep (r_finish_x hI_M1 hH_M1 hS_M1  (by omega) (RG1.fr hG1 (fun a i ha => w1_1 a i (fun e => absurd ha (by rw [e]; decide)) (fun e => absurd ha (by rw [e]; decide)) (fun e => absurd ha (by rw [e]; decide)) (fun e => absurd ha (by rw [e]; decide)))) (by rw [e4]; omega) (fun r2 M2 hI_M2 hH_M2 hS_M2  z2 w2_0 w2_1 w2_2 => ?_)) (by decide))
      obtain ⟨v5, e5⟩ : ∃ z, M 617 g = z := ⟨_, rfl⟩
      have b5 : (-1) ≤ v5 ∧ v5 ≤ 400 := by rw [← e5]; exact (by have q := hI_M 617 g (by decide); rw [xri_row rfl rfl] at q; exact q)
      have e6 : M1 617 g = v5 := ((w1_1 617 g (by decide) (by decide) (by decide) (by decide)).trans e5)
      exact jr.ireturn rfl rfl rfl (q _ _ hI_M2 hH_M2 hS_M2  (by omega) w2_0 (Or.inr (Or.inr ⟨h, t, k, g, o, c, f, M, M1, M1, hy3, ⟨w1_0, fun b i a1 a2 a3 a4 => w1_1 b i a1 a2 a3 a4, fun i a1 => w1_2 i a1⟩, Or.inr ⟨(by first | (intro u; omega) | (rw [e6]; omega)), rfl⟩, w2_1, fun b i a1 a2 a3 a4 => w2_2 b i a1 a2 a3 a4⟩)) (fun a i f598 f600 f601 f602 f603 f604 f605 f606 f607 f608 f609 f610 f611 f612 f613 f614 f615 f616 f617 f618 f619 f620 f621 f622 => ((w2_2 a i f600 f601 f602 f606).trans ((w1_1 a i f598 f615 f616 f622).trans (hF_M a i f598 f600 f601 f602 f603 f604 f605 f606 f607 f608 f609 f610 f611 f612 f613 f614 f615 f616 f617 f618 f619 f620 f621 f622)))) (fun i g6 g10 g11 g12 g34 => ((w2_2 598 i (by decide) (by decide) (by decide) (by decide)).trans ((w1_2 i g34).trans (hG_M i g6 g10 g11 g12 g34)))))
    · refine jr.aload_n rfl rfl ?_
      refine jr.getf (i := 28) (v := .ref 617) rfl rfl (by decide) rfl (by decide) rfl rfl rfl rfl ?_
      refine jr.iload rfl rfl ?_
      obtain ⟨v7, e7⟩ : ∃ z, M 617 g = z := ⟨_, rfl⟩
      have b7 : (-1) ≤ v7 ∧ v7 ≤ 400 := by rw [← e7]; exact (by have q := hI_M 617 g (by decide); rw [xri_row rfl rfl] at q; exact q)
      have e8 : M1 617 g = v7 := ((w1_1 617 g (by decide) (by decide) (by decide) (by decide)).trans e7)
      refine jr.iald (i := g) (x := v7) rfl (by decide) rfl (by decide) (by omega) (by omega) e8 ?_
      refine jr.iconst rfl ?_
      refine jr.icmp_ne rfl rfl (by omega) (by omega) (fun h485 => ?_) (fun h485 => ?_)
      · have sx485 : (0 : Int) ≤ v7 := by omega
        refine jr.aload_n rfl rfl ?_
        refine jr.iload rfl rfl ?_
        obtain ⟨v10, e10⟩ : ∃ z, M 606 g = z := ⟨_, rfl⟩
        have b10 : 0 ≤ v10 ∧ v10 ≤ 1 := by rw [← e10]; exact (by have q := hI_M 606 g (by decide); rw [xri_row rfl rfl] at q; exact q)
        have e11 : M1 606 g = v10 := ((w1_1 606 g (by decide) (by decide) (by decide) (by decide)).trans e10)
        refine jr_v rfl rfl (Or.inl rfl) rfl rfl (by decide) rfl ⟨rfl, Nat.le_of_ble_eq_true rfl, Nat.le_of_ble_eq_true rfl⟩ rfl (jc.deep (r_finish_x hI_M1 hH_M1 hS_M1  (by omega) (RG1.fr hG1 (fun a i ha => w1_1 a i (fun e => absurd ha (by rw [e]; decide)) (fun e => absurd ha (by rw [e]; decide)) (fun e => absurd ha (by rw [e]; decide)) (fun e => absurd ha (by rw [e]; decide)))) (by rw [e11]; omega) (fun r9 M9 hI_M9 hH_M9 hS_M9  z9 w9_0 w9_1 w9_2 => ?_)) (by decide))
        exact jr.ireturn rfl rfl rfl (q _ _ hI_M9 hH_M9 hS_M9  (by omega) w9_0 (Or.inr (Or.inr ⟨h, t, k, g, o, c, f, M, M1, M1, hy3, ⟨w1_0, fun b i a1 a2 a3 a4 => w1_1 b i a1 a2 a3 a4, fun i a1 => w1_2 i a1⟩, Or.inr ⟨(by first | (intro u; omega) | (rw [e8]; omega)), rfl⟩, w9_1, fun b i a1 a2 a3 a4 => w9_2 b i a1 a2 a3 a4⟩)) (fun a i f598 f600 f601 f602 f603 f604 f605 f606 f607 f608 f609 f610 f611 f612 f613 f614 f615 f616 f617 f618 f619 f620 f621 f622 => ((w9_2 a i f600 f601 f602 f606).trans ((w1_1 a i f598 f615 f616 f622).trans (hF_M a i f598 f600 f601 f602 f603 f604 f605 f606 f607 f608 f609 f610 f611 f612 f613 f614 f615 f616 f617 f618 f619 f620 f621 f622)))) (fun i g6 g10 g11 g12 g34 => ((w9_2 598 i (by decide) (by decide) (by decide) (by decide)).trans ((w1_2 i g34).trans (hG_M i g6 g10 g11 g12 g34)))))
      · refine jr.aload_n rfl rfl ?_
        refine jr.iload rfl rfl ?_
        refine jr.iload_n rfl rfl ?_
        refine jr.iload_n rfl rfl ?_
        refine jr.iload rfl rfl ?_
        obtain ⟨v13, e13⟩ : ∃ z, M 604 h = z := ⟨_, rfl⟩
        have b13 : 0 ≤ v13 ∧ v13 ≤ 400 := by rw [← e13]; exact (by have q := hI_M 604 h (by decide); rw [xri_row rfl rfl] at q; exact q)
        have e14 : M1 604 h = v13 := ((w1_1 604 h (by decide) (by decide) (by decide) (by decide)).trans e13)
        obtain ⟨v15, e15⟩ : ∃ z, M 605 h = z := ⟨_, rfl⟩
        have b15 : 0 ≤ v15 ∧ v15 ≤ 400 := by rw [← e15]; exact (by have q := hI_M 605 h (by decide); rw [xri_row rfl rfl] at q; exact q)
        have e16 : M1 605 h = v15 := ((w1_1 605 h (by decide) (by decide) (by decide) (by decide)).trans e15)
        obtain ⟨v17, e17⟩ : ∃ z, M 604 t = z := ⟨_, rfl⟩
        have b17 : 0 ≤ v17 ∧ v17 ≤ 400 := by rw [← e17]; exact (by have q := hI_M 604 t (by decide); rw [xri_row rfl rfl] at q; exact q)
        have e18 : M1 604 t = v17 := ((w1_1 604 t (by decide) (by decide) (by decide) (by decide)).trans e17)
        obtain ⟨v19, e19⟩ : ∃ z, M 607 g = z := ⟨_, rfl⟩
        have b19 : 0 ≤ v19 ∧ v19 ≤ 11 := by rw [← e19]; exact (by have q := hI_M 607 g (by decide); rw [xri_row rfl rfl] at q; exact q)
        have e20 : M1 607 g = v19 := ((w1_1 607 g (by decide) (by decide) (by decide) (by decide)).trans e19)
        obtain ⟨v21, e21⟩ : ∃ z, M 613 g = z := ⟨_, rfl⟩
        have b21 : 0 ≤ v21 ∧ v21 ≤ 720 := by rw [← e21]; exact (by have q := hI_M 613 g (by decide); rw [xri_row rfl rfl] at q; exact q)
        have e22 : M1 613 g = v21 := ((w1_1 613 g (by decide) (by decide) (by decide) (by decide)).trans e21)
        refine jr_v rfl rfl (Or.inl rfl) rfl rfl (by decide) rfl ⟨rfl, Nat.le_of_ble_eq_true rfl, Nat.le_of_ble_eq_true rfl⟩ rfl (jc.deep (r_keepHeaders_x hI_M1 hH_M1 hS_M1  (by omega) (by omega) (by omega) (by omega) (by rw [e14, e16]; omega) (by rw [e18]; omega) (by rw [e14]; omega) (fun q => (KT.fr kt (fun i => (w1_1 601 i (by decide) (by decide) (by decide) (by decide)).trans ((fun i => rfl) i)) (fun i => (w1_1 604 i (by decide) (by decide) (by decide) (by decide)).trans ((fun i => rfl) i)) (fun i => (w1_1 605 i (by decide) (by decide) (by decide) (by decide)).trans ((fun i => rfl) i))).2.2.2.2.2 (by rw [e20] at q; omega)) (by rw [e22]; omega) (RG1.fr hG1 (fun a i ha => w1_1 a i (fun e => absurd ha (by rw [e]; decide)) (fun e => absurd ha (by rw [e]; decide)) (fun e => absurd ha (by rw [e]; decide)) (fun e => absurd ha (by rw [e]; decide)))) (fun M12 hI_M12 hH_M12 hS_M12  w12_0 w12_1 w12_2 => ?_)) (by decide))
        refine jr.aload_n rfl rfl ?_
        refine jr.iload rfl rfl ?_
        obtain ⟨v24, e24⟩ : ∃ z, M 606 g = z := ⟨_, rfl⟩
        have b24 : 0 ≤ v24 ∧ v24 ≤ 1 := by rw [← e24]; exact (by have q := hI_M 606 g (by decide); rw [xri_row rfl rfl] at q; exact q)
        have e25 : M1 606 g = v24 := ((w1_1 606 g (by decide) (by decide) (by decide) (by decide)).trans e24)
        have e26 : M12 606 g = v24 := ((w12_2 606 g (by decide) (by decide) (by decide) (by decide) (by decide)).trans e25)
        refine jr_v rfl rfl (Or.inl rfl) rfl rfl (by decide) rfl ⟨rfl, Nat.le_of_ble_eq_true rfl, Nat.le_of_ble_eq_true rfl⟩ rfl (jc.deep (r_finish_x hI_M12 hH_M12 hS_M12  (by omega) w12_0 (by rw [e26]; omega) (fun r23 M23 hI_M23 hH_M23 hS_M23  z23 w23_0 w23_1 w23_2 => ?_)) (by decide))
        exact jr.ireturn rfl rfl rfl (q _ _ hI_M23 hH_M23 hS_M23  (by omega) w23_0 (Or.inr (Or.inr ⟨h, t, k, g, o, c, f, M, M1, M12, hy3, ⟨w1_0, fun b i a1 a2 a3 a4 => w1_1 b i a1 a2 a3 a4, fun i a1 => w1_2 i a1⟩, Or.inl ⟨by omega, by rw [e8]; omega, w12_1, fun b i a1 a2 a3 a4 a5 => w12_2 b i a1 a2 a3 a4 a5⟩, w23_1, fun b i a1 a2 a3 a4 => w23_2 b i a1 a2 a3 a4⟩)) (fun a i f598 f600 f601 f602 f603 f604 f605 f606 f607 f608 f609 f610 f611 f612 f613 f614 f615 f616 f617 f618 f619 f620 f621 f622 => ((w23_2 a i f600 f601 f602 f606).trans ((w12_2 a i f617 f618 f619 f620 f621).trans ((w1_1 a i f598 f615 f616 f622).trans (hF_M a i f598 f600 f601 f602 f603 f604 f605 f606 f607 f608 f609 f610 f611 f612 f613 f614 f615 f616 f617 f618 f619 f620 f621 f622))))) (fun i g6 g10 g11 g12 g34 => ((w23_2 598 i (by decide) (by decide) (by decide) (by decide)).trans ((w12_2 598 i (by decide) (by decide) (by decide) (by decide) (by decide)).trans ((w1_2 i g34).trans (hG_M i g6 g10 g11 g12 g34))))))
theorem r_gather_L418_x {A : Nat → Option (Nat × (Nat → Int32))} {Q : Option Value → jm → Prop} {M0 : jm} {x0 : Int} (q : ∀ (r : Int) (M' : jm), RI M' → RH M' → RF M' → (-5) ≤ r ∧ r ≤ 23 → RG1 M' → GAR M0 M' x0 r → (∀ (a : Nat) (i : Int), a ≠ 598 → a ≠ 600 → a ≠ 601 → a ≠ 602 → a ≠ 603 → a ≠ 604 → a ≠ 605 → a ≠ 606 → a ≠ 607 → a ≠ 608 → a ≠ 609 → a ≠ 610 → a ≠ 611 → a ≠ 612 → a ≠ 613 → a ≠ 614 → a ≠ 615 → a ≠ 616 → a ≠ 617 → a ≠ 618 → a ≠ 619 → a ≠ 620 → a ≠ 621 → a ≠ 622 → M' a i = M0 a i) → (∀ (i : Int), i ≠ 6 → i ≠ 10 → i ≠ 11 → i ≠ 12 → i ≠ 34 → M' 598 i = M0 598 i) → Q (some (.int (Int32.ofInt r))) M') : ∀ (M : jm) (i : Int) (g : Int) (o : Int) (c : Int) (f : Int) (t : Int) (k : Int) (h : Int) (x : Int), RI M → RH M → RF M → (∀ (a : Nat) (i : Int), a ≠ 598 → a ≠ 600 → a ≠ 601 → a ≠ 602 → a ≠ 603 → a ≠ 604 → a ≠ 605 → a ≠ 606 → a ≠ 607 → a ≠ 608 → a ≠ 609 → a ≠ 610 → a ≠ 611 → a ≠ 612 → a ≠ 613 → a ≠ 614 → a ≠ 615 → a ≠ 616 → a ≠ 617 → a ≠ 618 → a ≠ 619 → a ≠ 620 → a ≠ 621 → a ≠ 622 → M a i = M0 a i) → (∀ (i : Int), i ≠ 6 → i ≠ 10 → i ≠ 11 → i ≠ 12 → i ≠ 34 → M 598 i = M0 598 i) → 0 ≤ i ∧ i ≤ 1 → 0 ≤ g ∧ g ≤ 7 → 0 ≤ o ∧ o ≤ 65528 → 1 ≤ c ∧ c ≤ 400 → 0 ≤ f ∧ f ≤ 400 → 0 ≤ t ∧ t ≤ 11 → 0 ≤ k ∧ k ≤ 11 → 0 ≤ h ∧ h ≤ 11 → 0 ≤ x ∧ x ≤ 23 → RG1 M → KT M o c f t k h x → (M 606 g ≠ 0 ∧ M 607 g = k) → (i = 1 → o + c ≤ 360) → PX2 M0 M x h t k g i o c f → ((M 614 g = -1 ∧ (M 613 g = 64 ∨ M 613 g = 128 ∨ M 613 g = 256 ∨ M 613 g = 360)) ∨ (0 ≤ M 614 g ∧ M 614 g ≤ 360)) → x = x0 → jr A 5 xm_292 418 [(19, .int (Int32.ofInt (i))), (18, .int (Int32.ofInt (g))), (9, .int (Int32.ofInt (o))), (8, .int (Int32.ofInt (c))), (7, .int (Int32.ofInt (f))), (5, .int (Int32.ofInt (t))), (3, .int (Int32.ofInt (k))), (2, .int (Int32.ofInt (h))), (1, .int (Int32.ofInt (x))), (0, .ref (598))] [] M Q := by
    intro M i g o c f t k h x hI_M hH_M hS_M hF_M hG_M h_i h_g h_o h_c h_f h_t h_k h_h h_x hy0 hy1 hy2 hy3 hy4 hy5 hy6
    subst hy6
    have hG1 := hy0
    have kt := hy1
    obtain ⟨t1, t2, t3, t4, t5, t6⟩ := hy1
    have gs := hG1 g (by omega) hy2.1
    refine jr.iload rfl rfl ?_
    refine jr.if_eq rfl rfl (by omega) (fun h420 => ?_) (fun h420 => ?_)
    · refine jr.aload_n rfl rfl ?_
      refine jr.getf (i := 25) (v := .ref 614) rfl rfl (by decide) rfl (by decide) rfl rfl rfl rfl ?_
      refine jr.iload rfl rfl ?_
      obtain ⟨v1, e1⟩ : ∃ z, M 614 g = z := ⟨_, rfl⟩
      have b1 : (-1) ≤ v1 ∧ v1 ≤ 360 := by rw [← e1]; exact (by have q := hI_M 614 g (by decide); rw [xri_row rfl rfl] at q; exact q)
      refine jr.iald (i := g) (x := v1) rfl (by decide) rfl (by decide) (by omega) (by omega) e1 ?_
      refine jr.iconst rfl ?_
      refine jr.icmp_ne rfl rfl (by omega) (by omega) (fun h445 => ?_) (fun h445 => ?_)
      · have sx445 : (0 : Int) ≤ v1 := by omega
        obtain ⟨v2, e2⟩ : ∃ z, M 606 g = z := ⟨_, rfl⟩
        have b2 : 0 ≤ v2 ∧ v2 ≤ 1 := by rw [← e2]; exact (by have q := hI_M 606 g (by decide); rw [xri_row rfl rfl] at q; exact q)
        obtain ⟨v3, e3⟩ : ∃ z, M 607 g = z := ⟨_, rfl⟩
        have b3 : 0 ≤ v3 ∧ v3 ≤ 11 := by rw [← e3]; exact (by have q := hI_M 607 g (by decide); rw [xri_row rfl rfl] at q; exact q)
        refine jr.pick [1, 2, 3, 4, 5, 6, 7, 8, 9] rfl rfl ?_
        exact r_gather_L459_x q M g o c f t k h x hI_M hH_M hS_M  (fun a i f598 f600 f601 f602 f603 f604 f605 f606 f607 f608 f609 f610 f611 f612 f613 f614 f615 f616 f617 f618 f619 f620 f621 f622 => (hF_M a i f598 f600 f601 f602 f603 f604 f605 f606 f607 f608 f609 f610 f611 f612 f613 f614 f615 f616 f617 f618 f619 f620 f621 f622)) (fun i g6 g10 g11 g12 g34 => (hG_M i g6 g10 g11 g12 g34)) (by omega) (by omega) (by omega) (by omega) (by omega) (by omega) (by omega) (by omega) hG1 (KT.fr kt (fun i => rfl) (fun i => rfl) (fun i => rfl)) (by rw [e2, e3] <;> omega) ⟨M, i, hy4, Or.inr (Or.inr ⟨by omega, by omega, rfl⟩)⟩ (by have h9 := hy5; omega) (by omega)
      · refine jr.aload_n rfl rfl ?_
        refine jr.iload rfl rfl ?_
        refine jr.iload rfl rfl ?_
        refine jr.iload rfl rfl ?_
        refine jr.iadd rfl ?_
        refine jr_v rfl rfl (Or.inl rfl) rfl rfl (by decide) rfl ⟨rfl, Nat.le_of_ble_eq_true rfl, Nat.le_of_ble_eq_true rfl⟩ rfl (jc.deep (r_growRow_x hI_M hH_M hS_M  (by omega) (by omega) (by have h9 := hy5; omega) hG1 (fun M4 hI_M4 hH_M4 hS_M4  w4_0 w4_1 w4_2 w4_3 => ?_)) (by decide))
        obtain ⟨v5, e5⟩ : ∃ z, M 606 g = z := ⟨_, rfl⟩
        have b5 : 0 ≤ v5 ∧ v5 ≤ 1 := by rw [← e5]; exact (by have q := hI_M 606 g (by decide); rw [xri_row rfl rfl] at q; exact q)
        have e6 : M4 606 g = v5 := ((w4_3 606 g (by decide)).trans e5)
        obtain ⟨v7, e7⟩ : ∃ z, M 607 g = z := ⟨_, rfl⟩
        have b7 : 0 ≤ v7 ∧ v7 ≤ 11 := by rw [← e7]; exact (by have q := hI_M 607 g (by decide); rw [xri_row rfl rfl] at q; exact q)
        have e8 : M4 607 g = v7 := ((w4_3 607 g (by decide)).trans e7)
        refine jr.pick [1, 2, 3, 4, 5, 6, 7, 8, 9] rfl rfl ?_
        exact r_gather_L459_x q M4 g o c f t k h x hI_M4 hH_M4 hS_M4  (fun a i f598 f600 f601 f602 f603 f604 f605 f606 f607 f608 f609 f610 f611 f612 f613 f614 f615 f616 f617 f618 f619 f620 f621 f622 => ((w4_3 a i f613).trans (hF_M a i f598 f600 f601 f602 f603 f604 f605 f606 f607 f608 f609 f610 f611 f612 f613 f614 f615 f616 f617 f618 f619 f620 f621 f622))) (fun i g6 g10 g11 g12 g34 => ((w4_3 598 i (by decide)).trans (hG_M i g6 g10 g11 g12 g34))) (by omega) (by omega) (by omega) (by omega) (by omega) (by omega) (by omega) (by omega) w4_0 (KT.fr kt (fun i => (w4_3 601 i (by decide)).trans ((fun i => rfl) i)) (fun i => (w4_3 604 i (by decide)).trans ((fun i => rfl) i)) (fun i => (w4_3 605 i (by decide)).trans ((fun i => rfl) i))) (by rw [e6, e8] <;> omega) ⟨M, i, hy4, Or.inr (Or.inl ⟨by omega, by omega, w4_1, w4_2, fun b j a1 => w4_3 b j a1⟩)⟩ (by rw [w4_3 614 g (by decide)]; have h9 := hy5; omega) (by omega)
    · have sx420 : (1 : Int) ≤ i := by omega
      refine jr.aload_n rfl rfl ?_
      refine jr.iload rfl rfl ?_
      refine jr.iload rfl rfl ?_
      refine jr.iload rfl rfl ?_
      refine jr.iadd rfl ?_
      refine jr_v rfl rfl (Or.inl rfl) rfl rfl (by decide) rfl ⟨rfl, Nat.le_of_ble_eq_true rfl, Nat.le_of_ble_eq_true rfl⟩ rfl (jc.deep (r_tellWhole_x hI_M hH_M hS_M  (by omega) (by omega) hG1 (fun M9 hI_M9 hH_M9 hS_M9  w9_0 w9_1 w9_2 w9_3 w9_4 => ?_)) (by decide))
      refine jr.goto rfl rfl ?_
      obtain ⟨v10, e10⟩ : ∃ z, M 606 g = z := ⟨_, rfl⟩
      have b10 : 0 ≤ v10 ∧ v10 ≤ 1 := by rw [← e10]; exact (by have q := hI_M 606 g (by decide); rw [xri_row rfl rfl] at q; exact q)
      have e11 : M9 606 g = v10 := ((w9_4 606 g (by decide) (by decide) (by decide)).trans e10)
      obtain ⟨v12, e12⟩ : ∃ z, M 607 g = z := ⟨_, rfl⟩
      have b12 : 0 ≤ v12 ∧ v12 ≤ 11 := by rw [← e12]; exact (by have q := hI_M 607 g (by decide); rw [xri_row rfl rfl] at q; exact q)
      have e13 : M9 607 g = v12 := ((w9_4 607 g (by decide) (by decide) (by decide)).trans e12)
      refine jr.pick [1, 2, 3, 4, 5, 6, 7, 8, 9] rfl rfl ?_
      exact r_gather_L459_x q M9 g o c f t k h x hI_M9 hH_M9 hS_M9  (fun a i f598 f600 f601 f602 f603 f604 f605 f606 f607 f608 f609 f610 f611 f612 f613 f614 f615 f616 f617 f618 f619 f620 f621 f622 => ((w9_4 a i f613 f614 f616).trans (hF_M a i f598 f600 f601 f602 f603 f604 f605 f606 f607 f608 f609 f610 f611 f612 f613 f614 f615 f616 f617 f618 f619 f620 f621 f622))) (fun i g6 g10 g11 g12 g34 => ((w9_4 598 i (by decide) (by decide) (by decide)).trans (hG_M i g6 g10 g11 g12 g34))) (by omega) (by omega) (by omega) (by omega) (by omega) (by omega) (by omega) (by omega) w9_0 (KT.fr kt (fun i => (w9_4 601 i (by decide) (by decide) (by decide)).trans ((fun i => rfl) i)) (fun i => (w9_4 604 i (by decide) (by decide) (by decide)).trans ((fun i => rfl) i)) (fun i => (w9_4 605 i (by decide) (by decide) (by decide)).trans ((fun i => rfl) i))) (by rw [e11, e13] <;> omega) ⟨M, i, hy4, Or.inl ⟨by omega, w9_1, w9_2, w9_3, fun b j a1 a2 a3 => w9_4 b j a1 a2 a3⟩⟩ (by have h9 := w9_1.1; omega) (by omega)
