/-! ===== the reference: gather, the walk ===== -/
theorem r_gather_L459_x {A : Nat → Option (Nat × (Nat → Int32))} {Q : Option Value → jm → Prop} {M0 : jm} {x0 : Int} (q : ∀ (r : Int) (M' : jm), RI M' → RH M' → RF M' → (-5) ≤ r ∧ r ≤ 23 → RG1 M' → GAR M0 M' x0 r → (∀ (a : Nat) (i : Int), a ≠ 598 → a ≠ 600 → a ≠ 601 → a ≠ 602 → a ≠ 603 → a ≠ 604 → a ≠ 605 → a ≠ 606 → a ≠ 607 → a ≠ 608 → a ≠ 609 → a ≠ 610 → a ≠ 611 → a ≠ 612 → a ≠ 613 → a ≠ 614 → a ≠ 615 → a ≠ 616 → a ≠ 617 → a ≠ 618 → a ≠ 619 → a ≠ 620 → a ≠ 621 → a ≠ 622 → M' a i = M0 a i) → (∀ (i : Int), i ≠ 6 → i ≠ 10 → i ≠ 11 → i ≠ 12 → i ≠ 34 → M' 598 i = M0 598 i) → Q (some (.int (Int32.ofInt r))) M') : ∀ (M : jm) (g : Int) (o : Int) (c : Int) (f : Int) (t : Int) (k : Int) (h : Int) (x : Int), RI M → RH M → RF M → (∀ (a : Nat) (i : Int), a ≠ 598 → a ≠ 600 → a ≠ 601 → a ≠ 602 → a ≠ 603 → a ≠ 604 → a ≠ 605 → a ≠ 606 → a ≠ 607 → a ≠ 608 → a ≠ 609 → a ≠ 610 → a ≠ 611 → a ≠ 612 → a ≠ 613 → a ≠ 614 → a ≠ 615 → a ≠ 616 → a ≠ 617 → a ≠ 618 → a ≠ 619 → a ≠ 620 → a ≠ 621 → a ≠ 622 → M a i = M0 a i) → (∀ (i : Int), i ≠ 6 → i ≠ 10 → i ≠ 11 → i ≠ 12 → i ≠ 34 → M 598 i = M0 598 i) → 0 ≤ g ∧ g ≤ 7 → 0 ≤ o ∧ o ≤ 65528 → 1 ≤ c ∧ c ≤ 400 → 0 ≤ f ∧ f ≤ 400 → 0 ≤ t ∧ t ≤ 11 → 0 ≤ k ∧ k ≤ 11 → 0 ≤ h ∧ h ≤ 11 → 0 ≤ x ∧ x ≤ 23 → RG1 M → KT M o c f t k h x → (M 606 g ≠ 0 ∧ M 607 g = k) → PX3 M0 M x h t k g o c f → (M 614 g = -1 ∨ (0 ≤ M 614 g ∧ M 614 g ≤ 360)) → x = x0 → jr A 5 xm_292 459 [(18, .int (Int32.ofInt (g))), (9, .int (Int32.ofInt (o))), (8, .int (Int32.ofInt (c))), (7, .int (Int32.ofInt (f))), (5, .int (Int32.ofInt (t))), (3, .int (Int32.ofInt (k))), (2, .int (Int32.ofInt (h))), (1, .int (Int32.ofInt (x))), (0, .ref (598))] [] M Q := by
    intro M g o c f t k h x hI_M hH_M hS_M hF_M hG_M h_g h_o h_c h_f h_t h_k h_h h_x hy0 hy1 hy2 hy3 hy4 hy5
    subst hy5
    have hG1 := hy0
    have kt := hy1
    obtain ⟨t1, t2, t3, t4, t5, t6⟩ := hy1
    have gs := hG1 g (by omega) hy2.1
    refine jr.aload_n rfl rfl ?_
    refine jr.iload rfl rfl ?_
    refine jr.iload_n rfl rfl ?_
    refine jr.iload rfl rfl ?_
    refine jr.iload rfl rfl ?_
    refine jr.iload rfl rfl ?_
    refine jr_v rfl rfl (Or.inl rfl) rfl rfl (nlt rfl) rfl ⟨rfl, Nat.le_of_ble_eq_true rfl, Nat.le_of_ble_eq_true rfl⟩ rfl (jc.deep (r_layData_x hI_M hH_M hS_M  (by omega) (by omega) (by omega) (by omega) (by omega) (by omega) hy4 (fun M1 hI_M1 hH_M1 hS_M1  w1_0 w1_1 w1_2 => ?_)) (Nat.le_of_ble_eq_true rfl))
    refine jr.iload rfl rfl ?_
    refine jr.if_ne rfl rfl (by first | (refine rgb (by assumption) ?_; exact rfl) | omega) (fun h474 => ?_) (fun h474 => ?_)
    · have sx474 : (1 : Int) ≤ o := by omega
      clear h474
      refine jr.aload_n rfl rfl ?_
      refine jr.iload rfl rfl ?_
      obtain ⟨v3, e3⟩ : ∃ z, M 606 g = z := ⟨_, rfl⟩
      have b3 : 0 ≤ v3 ∧ v3 ≤ 1 := by rw [← e3]; exact (by have q := hI_M 606 g (Nat.le_of_ble_eq_true rfl); rw [xri_row rfl rfl] at q; exact q)
      have e4 : M1 606 g = v3 := ((w1_1 606 g (nne rfl) (nne rfl) (nne rfl) (nne rfl)).trans e3)
      refine jr_v rfl rfl (Or.inl rfl) rfl rfl (nlt rfl) rfl ⟨rfl, Nat.le_of_ble_eq_true rfl, Nat.le_of_ble_eq_true rfl⟩ rfl (jc.deep (r_finish_x hI_M1 hH_M1 hS_M1  (by omega) (RG1.fr hG1 (fun a i ha => w1_1 a i (fun e => absurd ha (by rw [e]; decide)) (fun e => absurd ha (by rw [e]; decide)) (fun e => absurd ha (by rw [e]; decide)) (fun e => absurd ha (by rw [e]; decide)))) (by rw [e4]; omega) (fun r2 M2 hI_M2 hH_M2 hS_M2  z2 w2_0 w2_1 w2_2 => ?_)) (Nat.le_of_ble_eq_true rfl))
      obtain ⟨v5, e5⟩ : ∃ z, M 617 g = z := ⟨_, rfl⟩
      have b5 : (-1) ≤ v5 ∧ v5 ≤ 400 := by rw [← e5]; exact (by have q := hI_M 617 g (Nat.le_of_ble_eq_true rfl); rw [xri_row rfl rfl] at q; exact q)
      have e6 : M1 617 g = v5 := ((w1_1 617 g (nne rfl) (nne rfl) (nne rfl) (nne rfl)).trans e5)
      exact jr.ireturn rfl rfl rfl (q _ _ hI_M2 hH_M2 hS_M2  (by omega) w2_0 (Or.inr (Or.inr ⟨h, t, k, g, o, c, f, M, M1, M1, hy3, ⟨w1_0, fun b i a1 a2 a3 a4 => w1_1 b i a1 a2 a3 a4, fun i a1 => w1_2 i a1⟩, Or.inr ⟨(by first | (intro u; omega) | (rw [e6]; omega)), rfl⟩, w2_1, fun b i a1 a2 a3 a4 => w2_2 b i a1 a2 a3 a4⟩)) (fun a i f598 f600 f601 f602 f603 f604 f605 f606 f607 f608 f609 f610 f611 f612 f613 f614 f615 f616 f617 f618 f619 f620 f621 f622 => ((w2_2 a i f600 f601 f602 f606).trans ((w1_1 a i f598 f615 f616 f622).trans (hF_M a i f598 f600 f601 f602 f603 f604 f605 f606 f607 f608 f609 f610 f611 f612 f613 f614 f615 f616 f617 f618 f619 f620 f621 f622)))) (fun i g6 g10 g11 g12 g34 => ((w2_2 598 i (nne rfl) (nne rfl) (nne rfl) (nne rfl)).trans ((w1_2 i g34).trans (hG_M i g6 g10 g11 g12 g34)))))
    · refine jr.aload_n rfl rfl ?_
      refine jr.getf (i := 28) (v := .ref 617) rfl rfl (nlt rfl) rfl (nlt rfl) rfl rfl rfl rfl ?_
      refine jr.iload rfl rfl ?_
      obtain ⟨v7, e7⟩ : ∃ z, M 617 g = z := ⟨_, rfl⟩
      have b7 : (-1) ≤ v7 ∧ v7 ≤ 400 := by rw [← e7]; exact (by have q := hI_M 617 g (Nat.le_of_ble_eq_true rfl); rw [xri_row rfl rfl] at q; exact q)
      have e8 : M1 617 g = v7 := ((w1_1 617 g (nne rfl) (nne rfl) (nne rfl) (nne rfl)).trans e7)
      refine jr.iald (i := g) (x := v7) rfl (nlt rfl) rfl (Nat.le_of_ble_eq_true rfl) (by omega) (by omega) e8 ?_
      refine jr.iconst rfl ?_
      refine jr.icmp_ne rfl rfl (by first | (refine rgb (by assumption) ?_; exact rfl) | omega) (rgl rfl) (fun h485 => ?_) (fun h485 => ?_)
      · have sx485 : (0 : Int) ≤ v7 := by omega
        clear h485
        refine jr.aload_n rfl rfl ?_
        refine jr.iload rfl rfl ?_
        obtain ⟨v10, e10⟩ : ∃ z, M 606 g = z := ⟨_, rfl⟩
        have b10 : 0 ≤ v10 ∧ v10 ≤ 1 := by rw [← e10]; exact (by have q := hI_M 606 g (Nat.le_of_ble_eq_true rfl); rw [xri_row rfl rfl] at q; exact q)
        have e11 : M1 606 g = v10 := ((w1_1 606 g (nne rfl) (nne rfl) (nne rfl) (nne rfl)).trans e10)
        refine jr_v rfl rfl (Or.inl rfl) rfl rfl (nlt rfl) rfl ⟨rfl, Nat.le_of_ble_eq_true rfl, Nat.le_of_ble_eq_true rfl⟩ rfl (jc.deep (r_finish_x hI_M1 hH_M1 hS_M1  (by omega) (RG1.fr hG1 (fun a i ha => w1_1 a i (fun e => absurd ha (by rw [e]; decide)) (fun e => absurd ha (by rw [e]; decide)) (fun e => absurd ha (by rw [e]; decide)) (fun e => absurd ha (by rw [e]; decide)))) (by rw [e11]; omega) (fun r9 M9 hI_M9 hH_M9 hS_M9  z9 w9_0 w9_1 w9_2 => ?_)) (Nat.le_of_ble_eq_true rfl))
        exact jr.ireturn rfl rfl rfl (q _ _ hI_M9 hH_M9 hS_M9  (by omega) w9_0 (Or.inr (Or.inr ⟨h, t, k, g, o, c, f, M, M1, M1, hy3, ⟨w1_0, fun b i a1 a2 a3 a4 => w1_1 b i a1 a2 a3 a4, fun i a1 => w1_2 i a1⟩, Or.inr ⟨(by first | (intro u; omega) | (rw [e8]; omega)), rfl⟩, w9_1, fun b i a1 a2 a3 a4 => w9_2 b i a1 a2 a3 a4⟩)) (fun a i f598 f600 f601 f602 f603 f604 f605 f606 f607 f608 f609 f610 f611 f612 f613 f614 f615 f616 f617 f618 f619 f620 f621 f622 => ((w9_2 a i f600 f601 f602 f606).trans ((w1_1 a i f598 f615 f616 f622).trans (hF_M a i f598 f600 f601 f602 f603 f604 f605 f606 f607 f608 f609 f610 f611 f612 f613 f614 f615 f616 f617 f618 f619 f620 f621 f622)))) (fun i g6 g10 g11 g12 g34 => ((w9_2 598 i (nne rfl) (nne rfl) (nne rfl) (nne rfl)).trans ((w1_2 i g34).trans (hG_M i g6 g10 g11 g12 g34)))))
      · refine jr.aload_n rfl rfl ?_
        refine jr.iload rfl rfl ?_
        refine jr.iload_n rfl rfl ?_
        refine jr.iload_n rfl rfl ?_
        refine jr.iload rfl rfl ?_
        obtain ⟨v13, e13⟩ : ∃ z, M 604 h = z := ⟨_, rfl⟩
        have b13 : 0 ≤ v13 ∧ v13 ≤ 400 := by rw [← e13]; exact (by have q := hI_M 604 h (Nat.le_of_ble_eq_true rfl); rw [xri_row rfl rfl] at q; exact q)
        have e14 : M1 604 h = v13 := ((w1_1 604 h (nne rfl) (nne rfl) (nne rfl) (nne rfl)).trans e13)
        obtain ⟨v15, e15⟩ : ∃ z, M 605 h = z := ⟨_, rfl⟩
        have b15 : 0 ≤ v15 ∧ v15 ≤ 400 := by rw [← e15]; exact (by have q := hI_M 605 h (Nat.le_of_ble_eq_true rfl); rw [xri_row rfl rfl] at q; exact q)
        have e16 : M1 605 h = v15 := ((w1_1 605 h (nne rfl) (nne rfl) (nne rfl) (nne rfl)).trans e15)
        obtain ⟨v17, e17⟩ : ∃ z, M 604 t = z := ⟨_, rfl⟩
        have b17 : 0 ≤ v17 ∧ v17 ≤ 400 := by rw [← e17]; exact (by have q := hI_M 604 t (Nat.le_of_ble_eq_true rfl); rw [xri_row rfl rfl] at q; exact q)
        have e18 : M1 604 t = v17 := ((w1_1 604 t (nne rfl) (nne rfl) (nne rfl) (nne rfl)).trans e17)
        obtain ⟨v19, e19⟩ : ∃ z, M 607 g = z := ⟨_, rfl⟩
        have b19 : 0 ≤ v19 ∧ v19 ≤ 11 := by rw [← e19]; exact (by have q := hI_M 607 g (Nat.le_of_ble_eq_true rfl); rw [xri_row rfl rfl] at q; exact q)
        have e20 : M1 607 g = v19 := ((w1_1 607 g (nne rfl) (nne rfl) (nne rfl) (nne rfl)).trans e19)
        obtain ⟨v21, e21⟩ : ∃ z, M 613 g = z := ⟨_, rfl⟩
        have b21 : 0 ≤ v21 ∧ v21 ≤ 720 := by rw [← e21]; exact (by have q := hI_M 613 g (Nat.le_of_ble_eq_true rfl); rw [xri_row rfl rfl] at q; exact q)
        have e22 : M1 613 g = v21 := ((w1_1 613 g (nne rfl) (nne rfl) (nne rfl) (nne rfl)).trans e21)
        refine jr_v rfl rfl (Or.inl rfl) rfl rfl (nlt rfl) rfl ⟨rfl, Nat.le_of_ble_eq_true rfl, Nat.le_of_ble_eq_true rfl⟩ rfl (jc.deep (r_keepHeaders_x hI_M1 hH_M1 hS_M1  (by omega) (by omega) (by omega) (by omega) (by rw [e14, e16]; omega) (by rw [e18]; omega) (by rw [e14]; omega) (fun q => (KT.fr kt (fun i => (w1_1 601 i (nne rfl) (nne rfl) (nne rfl) (nne rfl)).trans ((fun i => rfl) i)) (fun i => (w1_1 604 i (nne rfl) (nne rfl) (nne rfl) (nne rfl)).trans ((fun i => rfl) i)) (fun i => (w1_1 605 i (nne rfl) (nne rfl) (nne rfl) (nne rfl)).trans ((fun i => rfl) i))).2.2.2.2.2 (by rw [e20] at q; omega)) (by rw [e22]; omega) (RG1.fr hG1 (fun a i ha => w1_1 a i (fun e => absurd ha (by rw [e]; decide)) (fun e => absurd ha (by rw [e]; decide)) (fun e => absurd ha (by rw [e]; decide)) (fun e => absurd ha (by rw [e]; decide)))) (fun M12 hI_M12 hH_M12 hS_M12  w12_0 w12_1 w12_2 => ?_)) (Nat.le_of_ble_eq_true rfl))
        refine jr.aload_n rfl rfl ?_
        refine jr.iload rfl rfl ?_
        obtain ⟨v24, e24⟩ : ∃ z, M 606 g = z := ⟨_, rfl⟩
        have b24 : 0 ≤ v24 ∧ v24 ≤ 1 := by rw [← e24]; exact (by have q := hI_M 606 g (Nat.le_of_ble_eq_true rfl); rw [xri_row rfl rfl] at q; exact q)
        have e25 : M1 606 g = v24 := ((w1_1 606 g (nne rfl) (nne rfl) (nne rfl) (nne rfl)).trans e24)
        have e26 : M12 606 g = v24 := ((w12_2 606 g (nne rfl) (nne rfl) (nne rfl) (nne rfl) (nne rfl)).trans e25)
        refine jr_v rfl rfl (Or.inl rfl) rfl rfl (nlt rfl) rfl ⟨rfl, Nat.le_of_ble_eq_true rfl, Nat.le_of_ble_eq_true rfl⟩ rfl (jc.deep (r_finish_x hI_M12 hH_M12 hS_M12  (by omega) w12_0 (by rw [e26]; omega) (fun r23 M23 hI_M23 hH_M23 hS_M23  z23 w23_0 w23_1 w23_2 => ?_)) (Nat.le_of_ble_eq_true rfl))
        exact jr.ireturn rfl rfl rfl (q _ _ hI_M23 hH_M23 hS_M23  (by omega) w23_0 (Or.inr (Or.inr ⟨h, t, k, g, o, c, f, M, M1, M12, hy3, ⟨w1_0, fun b i a1 a2 a3 a4 => w1_1 b i a1 a2 a3 a4, fun i a1 => w1_2 i a1⟩, Or.inl ⟨by omega, by rw [e8]; omega, w12_1, fun b i a1 a2 a3 a4 a5 => w12_2 b i a1 a2 a3 a4 a5⟩, w23_1, fun b i a1 a2 a3 a4 => w23_2 b i a1 a2 a3 a4⟩)) (fun a i f598 f600 f601 f602 f603 f604 f605 f606 f607 f608 f609 f610 f611 f612 f613 f614 f615 f616 f617 f618 f619 f620 f621 f622 => ((w23_2 a i f600 f601 f602 f606).trans ((w12_2 a i f617 f618 f619 f620 f621).trans ((w1_1 a i f598 f615 f616 f622).trans (hF_M a i f598 f600 f601 f602 f603 f604 f605 f606 f607 f608 f609 f610 f611 f612 f613 f614 f615 f616 f617 f618 f619 f620 f621 f622))))) (fun i g6 g10 g11 g12 g34 => ((w23_2 598 i (nne rfl) (nne rfl) (nne rfl) (nne rfl)).trans ((w12_2 598 i (nne rfl) (nne rfl) (nne rfl) (nne rfl) (nne rfl)).trans ((w1_2 i g34).trans (hG_M i g6 g10 g11 g12 g34))))))
theorem r_gather_L418_x {A : Nat → Option (Nat × (Nat → Int32))} {Q : Option Value → jm → Prop} {M0 : jm} {x0 : Int} (q : ∀ (r : Int) (M' : jm), RI M' → RH M' → RF M' → (-5) ≤ r ∧ r ≤ 23 → RG1 M' → GAR M0 M' x0 r → (∀ (a : Nat) (i : Int), a ≠ 598 → a ≠ 600 → a ≠ 601 → a ≠ 602 → a ≠ 603 → a ≠ 604 → a ≠ 605 → a ≠ 606 → a ≠ 607 → a ≠ 608 → a ≠ 609 → a ≠ 610 → a ≠ 611 → a ≠ 612 → a ≠ 613 → a ≠ 614 → a ≠ 615 → a ≠ 616 → a ≠ 617 → a ≠ 618 → a ≠ 619 → a ≠ 620 → a ≠ 621 → a ≠ 622 → M' a i = M0 a i) → (∀ (i : Int), i ≠ 6 → i ≠ 10 → i ≠ 11 → i ≠ 12 → i ≠ 34 → M' 598 i = M0 598 i) → Q (some (.int (Int32.ofInt r))) M') : ∀ (M : jm) (i : Int) (g : Int) (o : Int) (c : Int) (f : Int) (t : Int) (k : Int) (h : Int) (x : Int), RI M → RH M → RF M → (∀ (a : Nat) (i : Int), a ≠ 598 → a ≠ 600 → a ≠ 601 → a ≠ 602 → a ≠ 603 → a ≠ 604 → a ≠ 605 → a ≠ 606 → a ≠ 607 → a ≠ 608 → a ≠ 609 → a ≠ 610 → a ≠ 611 → a ≠ 612 → a ≠ 613 → a ≠ 614 → a ≠ 615 → a ≠ 616 → a ≠ 617 → a ≠ 618 → a ≠ 619 → a ≠ 620 → a ≠ 621 → a ≠ 622 → M a i = M0 a i) → (∀ (i : Int), i ≠ 6 → i ≠ 10 → i ≠ 11 → i ≠ 12 → i ≠ 34 → M 598 i = M0 598 i) → 0 ≤ i ∧ i ≤ 1 → 0 ≤ g ∧ g ≤ 7 → 0 ≤ o ∧ o ≤ 65528 → 1 ≤ c ∧ c ≤ 400 → 0 ≤ f ∧ f ≤ 400 → 0 ≤ t ∧ t ≤ 11 → 0 ≤ k ∧ k ≤ 11 → 0 ≤ h ∧ h ≤ 11 → 0 ≤ x ∧ x ≤ 23 → RG1 M → KT M o c f t k h x → (M 606 g ≠ 0 ∧ M 607 g = k) → (i = 1 → o + c ≤ 360) → PX2 M0 M x h t k g i o c f → ((M 614 g = -1 ∧ (M 613 g = 64 ∨ M 613 g = 128 ∨ M 613 g = 256 ∨ M 613 g = 360)) ∨ (0 ≤ M 614 g ∧ M 614 g ≤ 360)) → x = x0 → jr A 5 xm_292 418 [(19, .int (Int32.ofInt (i))), (18, .int (Int32.ofInt (g))), (9, .int (Int32.ofInt (o))), (8, .int (Int32.ofInt (c))), (7, .int (Int32.ofInt (f))), (5, .int (Int32.ofInt (t))), (3, .int (Int32.ofInt (k))), (2, .int (Int32.ofInt (h))), (1, .int (Int32.ofInt (x))), (0, .ref (598))] [] M Q := by
    intro M i g o c f t k h x hI_M hH_M hS_M hF_M hG_M h_i h_g h_o h_c h_f h_t h_k h_h h_x hy0 hy1 hy2 hy3 hy4 hy5 hy6
    subst hy6
    have hG1 := hy0
    have kt := hy1
    obtain ⟨t1, t2, t3, t4, t5, t6⟩ := hy1
    have gs := hG1 g (by omega) hy2.1
    refine jr.iload rfl rfl ?_
    refine jr.if_eq rfl rfl (by first | (refine rgb (by assumption) ?_; exact rfl) | omega) (fun h420 => ?_) (fun h420 => ?_)
    · refine jr.aload_n rfl rfl ?_
      refine jr.getf (i := 25) (v := .ref 614) rfl rfl (nlt rfl) rfl (nlt rfl) rfl rfl rfl rfl ?_
      refine jr.iload rfl rfl ?_
      obtain ⟨v1, e1⟩ : ∃ z, M 614 g = z := ⟨_, rfl⟩
      have b1 : (-1) ≤ v1 ∧ v1 ≤ 360 := by rw [← e1]; exact (by have q := hI_M 614 g (Nat.le_of_ble_eq_true rfl); rw [xri_row rfl rfl] at q; exact q)
      refine jr.iald (i := g) (x := v1) rfl (nlt rfl) rfl (Nat.le_of_ble_eq_true rfl) (by omega) (by omega) e1 ?_
      refine jr.iconst rfl ?_
      refine jr.icmp_ne rfl rfl (by first | (refine rgb (by assumption) ?_; exact rfl) | omega) (rgl rfl) (fun h445 => ?_) (fun h445 => ?_)
      · have sx445 : (0 : Int) ≤ v1 := by omega
        clear h445
        obtain ⟨v2, e2⟩ : ∃ z, M 606 g = z := ⟨_, rfl⟩
        have b2 : 0 ≤ v2 ∧ v2 ≤ 1 := by rw [← e2]; exact (by have q := hI_M 606 g (Nat.le_of_ble_eq_true rfl); rw [xri_row rfl rfl] at q; exact q)
        obtain ⟨v3, e3⟩ : ∃ z, M 607 g = z := ⟨_, rfl⟩
        have b3 : 0 ≤ v3 ∧ v3 ≤ 11 := by rw [← e3]; exact (by have q := hI_M 607 g (Nat.le_of_ble_eq_true rfl); rw [xri_row rfl rfl] at q; exact q)
        refine jr.pick (ls := [_, _, _, _, _, _, _, _, _]) [1, 2, 3, 4, 5, 6, 7, 8, 9] rfl rfl ?_
        exact r_gather_L459_x q M g o c f t k h x hI_M hH_M hS_M  (fun a i f598 f600 f601 f602 f603 f604 f605 f606 f607 f608 f609 f610 f611 f612 f613 f614 f615 f616 f617 f618 f619 f620 f621 f622 => (hF_M a i f598 f600 f601 f602 f603 f604 f605 f606 f607 f608 f609 f610 f611 f612 f613 f614 f615 f616 f617 f618 f619 f620 f621 f622)) (fun i g6 g10 g11 g12 g34 => (hG_M i g6 g10 g11 g12 g34)) (by omega) (by omega) (by omega) (by omega) (by omega) (by omega) (by omega) (by omega) hG1 (KT.fr kt (fun i => rfl) (fun i => rfl) (fun i => rfl)) (by rw [e2, e3] <;> omega) ⟨M, i, hy4, Or.inr (Or.inr ⟨by omega, by omega, rfl⟩)⟩ (by have h9 := hy5; omega) (by omega)
      · refine jr.aload_n rfl rfl ?_
        refine jr.iload rfl rfl ?_
        refine jr.iload rfl rfl ?_
        refine jr.iload rfl rfl ?_
        refine jr.iadd rfl ?_
        refine jr_v rfl rfl (Or.inl rfl) rfl rfl (nlt rfl) rfl ⟨rfl, Nat.le_of_ble_eq_true rfl, Nat.le_of_ble_eq_true rfl⟩ rfl (jc.deep (r_growRow_x hI_M hH_M hS_M  (by omega) (by omega) (by have h9 := hy5; omega) hG1 (fun M4 hI_M4 hH_M4 hS_M4  w4_0 w4_1 w4_2 w4_3 => ?_)) (Nat.le_of_ble_eq_true rfl))
        obtain ⟨v5, e5⟩ : ∃ z, M 606 g = z := ⟨_, rfl⟩
        have b5 : 0 ≤ v5 ∧ v5 ≤ 1 := by rw [← e5]; exact (by have q := hI_M 606 g (Nat.le_of_ble_eq_true rfl); rw [xri_row rfl rfl] at q; exact q)
        have e6 : M4 606 g = v5 := ((w4_3 606 g (nne rfl)).trans e5)
        obtain ⟨v7, e7⟩ : ∃ z, M 607 g = z := ⟨_, rfl⟩
        have b7 : 0 ≤ v7 ∧ v7 ≤ 11 := by rw [← e7]; exact (by have q := hI_M 607 g (Nat.le_of_ble_eq_true rfl); rw [xri_row rfl rfl] at q; exact q)
        have e8 : M4 607 g = v7 := ((w4_3 607 g (nne rfl)).trans e7)
        refine jr.pick (ls := [_, _, _, _, _, _, _, _, _]) [1, 2, 3, 4, 5, 6, 7, 8, 9] rfl rfl ?_
        exact r_gather_L459_x q M4 g o c f t k h x hI_M4 hH_M4 hS_M4  (fun a i f598 f600 f601 f602 f603 f604 f605 f606 f607 f608 f609 f610 f611 f612 f613 f614 f615 f616 f617 f618 f619 f620 f621 f622 => ((w4_3 a i f613).trans (hF_M a i f598 f600 f601 f602 f603 f604 f605 f606 f607 f608 f609 f610 f611 f612 f613 f614 f615 f616 f617 f618 f619 f620 f621 f622))) (fun i g6 g10 g11 g12 g34 => ((w4_3 598 i (nne rfl)).trans (hG_M i g6 g10 g11 g12 g34))) (by omega) (by omega) (by omega) (by omega) (by omega) (by omega) (by omega) (by omega) w4_0 (KT.fr kt (fun i => (w4_3 601 i (nne rfl)).trans ((fun i => rfl) i)) (fun i => (w4_3 604 i (nne rfl)).trans ((fun i => rfl) i)) (fun i => (w4_3 605 i (nne rfl)).trans ((fun i => rfl) i))) (by rw [e6, e8] <;> omega) ⟨M, i, hy4, Or.inr (Or.inl ⟨by omega, by omega, w4_1, w4_2, fun b j a1 => w4_3 b j a1⟩)⟩ (by rw [w4_3 614 g (nne rfl)]; have h9 := hy5; omega) (by omega)
    · have sx420 : (1 : Int) ≤ i := by omega
      clear h420
      refine jr.aload_n rfl rfl ?_
      refine jr.iload rfl rfl ?_
      refine jr.iload rfl rfl ?_
      refine jr.iload rfl rfl ?_
      refine jr.iadd rfl ?_
      refine jr_v rfl rfl (Or.inl rfl) rfl rfl (nlt rfl) rfl ⟨rfl, Nat.le_of_ble_eq_true rfl, Nat.le_of_ble_eq_true rfl⟩ rfl (jc.deep (r_tellWhole_x hI_M hH_M hS_M  (by omega) (by omega) hG1 (fun M9 hI_M9 hH_M9 hS_M9  w9_0 w9_1 w9_2 w9_3 w9_4 => ?_)) (Nat.le_of_ble_eq_true rfl))
      refine jr.goto rfl rfl ?_
      obtain ⟨v10, e10⟩ : ∃ z, M 606 g = z := ⟨_, rfl⟩
      have b10 : 0 ≤ v10 ∧ v10 ≤ 1 := by rw [← e10]; exact (by have q := hI_M 606 g (Nat.le_of_ble_eq_true rfl); rw [xri_row rfl rfl] at q; exact q)
      have e11 : M9 606 g = v10 := ((w9_4 606 g (nne rfl) (nne rfl) (nne rfl)).trans e10)
      obtain ⟨v12, e12⟩ : ∃ z, M 607 g = z := ⟨_, rfl⟩
      have b12 : 0 ≤ v12 ∧ v12 ≤ 11 := by rw [← e12]; exact (by have q := hI_M 607 g (Nat.le_of_ble_eq_true rfl); rw [xri_row rfl rfl] at q; exact q)
      have e13 : M9 607 g = v12 := ((w9_4 607 g (nne rfl) (nne rfl) (nne rfl)).trans e12)
      refine jr.pick (ls := [_, _, _, _, _, _, _, _, _]) [1, 2, 3, 4, 5, 6, 7, 8, 9] rfl rfl ?_
      exact r_gather_L459_x q M9 g o c f t k h x hI_M9 hH_M9 hS_M9  (fun a i f598 f600 f601 f602 f603 f604 f605 f606 f607 f608 f609 f610 f611 f612 f613 f614 f615 f616 f617 f618 f619 f620 f621 f622 => ((w9_4 a i f613 f614 f616).trans (hF_M a i f598 f600 f601 f602 f603 f604 f605 f606 f607 f608 f609 f610 f611 f612 f613 f614 f615 f616 f617 f618 f619 f620 f621 f622))) (fun i g6 g10 g11 g12 g34 => ((w9_4 598 i (nne rfl) (nne rfl) (nne rfl)).trans (hG_M i g6 g10 g11 g12 g34))) (by omega) (by omega) (by omega) (by omega) (by omega) (by omega) (by omega) (by omega) w9_0 (KT.fr kt (fun i => (w9_4 601 i (nne rfl) (nne rfl) (nne rfl)).trans ((fun i => rfl) i)) (fun i => (w9_4 604 i (nne rfl) (nne rfl) (nne rfl)).trans ((fun i => rfl) i)) (fun i => (w9_4 605 i (nne rfl) (nne rfl) (nne rfl)).trans ((fun i => rfl) i))) (by rw [e11, e13] <;> omega) ⟨M, i, hy4, Or.inl ⟨by omega, w9_1, w9_2, w9_3, fun b j a1 a2 a3 => w9_4 b j a1 a2 a3⟩⟩ (by have h9 := w9_1.1; omega) (by omega)
theorem r_gather_L345_x {A : Nat → Option (Nat × (Nat → Int32))} {Q : Option Value → jm → Prop} {M0 : jm} {x0 : Int} (q : ∀ (r : Int) (M' : jm), RI M' → RH M' → RF M' → (-5) ≤ r ∧ r ≤ 23 → RG1 M' → GAR M0 M' x0 r → (∀ (a : Nat) (i : Int), a ≠ 598 → a ≠ 600 → a ≠ 601 → a ≠ 602 → a ≠ 603 → a ≠ 604 → a ≠ 605 → a ≠ 606 → a ≠ 607 → a ≠ 608 → a ≠ 609 → a ≠ 610 → a ≠ 611 → a ≠ 612 → a ≠ 613 → a ≠ 614 → a ≠ 615 → a ≠ 616 → a ≠ 617 → a ≠ 618 → a ≠ 619 → a ≠ 620 → a ≠ 621 → a ≠ 622 → M' a i = M0 a i) → (∀ (i : Int), i ≠ 6 → i ≠ 10 → i ≠ 11 → i ≠ 12 → i ≠ 34 → M' 598 i = M0 598 i) → Q (some (.int (Int32.ofInt r))) M') : ∀ (M : jm) (i : Int) (g : Int) (a : Int) (b : Int) (d : Int) (e : Int) (m : Int) (o : Int) (c : Int) (f : Int) (t : Int) (k : Int) (h : Int) (x : Int), RI M → RH M → RF M → (∀ (a : Nat) (i : Int), a ≠ 598 → a ≠ 600 → a ≠ 601 → a ≠ 602 → a ≠ 603 → a ≠ 604 → a ≠ 605 → a ≠ 606 → a ≠ 607 → a ≠ 608 → a ≠ 609 → a ≠ 610 → a ≠ 611 → a ≠ 612 → a ≠ 613 → a ≠ 614 → a ≠ 615 → a ≠ 616 → a ≠ 617 → a ≠ 618 → a ≠ 619 → a ≠ 620 → a ≠ 621 → a ≠ 622 → M a i = M0 a i) → (∀ (i : Int), i ≠ 6 → i ≠ 10 → i ≠ 11 → i ≠ 12 → i ≠ 34 → M 598 i = M0 598 i) → 0 ≤ i ∧ i ≤ 1 → (-1) ≤ g ∧ g ≤ 7 → (-9223372036854775808) ≤ a ∧ a ≤ 9223372036854775807 → (-9223372036854775808) ≤ b ∧ b ≤ 9223372036854775807 → (-9223372036854775808) ≤ d ∧ d ≤ 9223372036854775807 → 0 ≤ e ∧ e ≤ 255 → 0 ≤ m ∧ m ≤ 1 → 0 ≤ o ∧ o ≤ 65528 → 0 ≤ c ∧ c ≤ 400 → 0 ≤ f ∧ f ≤ 400 → 0 ≤ t ∧ t ≤ 11 → 0 ≤ k ∧ k ≤ 11 → 0 ≤ h ∧ h ≤ 11 → 0 ≤ x ∧ x ≤ 23 → RG1 M → KT M o c f t k h x → (g = -1 ∨ (0 ≤ g ∧ M 606 g ≠ 0 ∧ M 607 g = k)) → PX1 M0 M x h t k (hY (rf M0 x) (M0 600 x) h) → (o = ofs (rf M0 x) (M0 600 x) (M 598 6) h ∧ c = M0 600 x - enf (rf M0 x) (M0 600 x) (M 598 6) h ∧ f = enf (rf M0 x) (M0 600 x) (M 598 6) h) → GQ6 M → (m = mrf (rf M0 x) (M0 600 x) (M 598 6) h ∧ e = vA (rf M0 x) (M0 600 x) (M 598 6) h (if kA (rf M0 x) (M0 600 x) (M 598 6) h = 2 then 7 else 0)) → (b = adf (rf M0 x) (M0 600 x) (M 598 6) t 0 ∧ d = vA (rf M0 x) (M0 600 x) (M 598 6) h 3 ∧ a = adf (rf M0 x) (M0 600 x) (M 598 6) t 1) → g = g6 M (rf M0 x) (M0 600 x) (M 598 6) h → ((i = 1 ∧ m ≠ 1 ∧ fst6 M (rf M0 x) (M0 600 x) (M 598 6) h = 1) ∨ (i = 0 ∧ ¬ (m ≠ 1 ∧ fst6 M (rf M0 x) (M0 600 x) (M 598 6) h = 1))) → x = x0 → jr A 5 xm_292 345 [(19, .int (Int32.ofInt (i))), (18, .int (Int32.ofInt (g))), (16, .long (Int64.ofInt (a))), (14, .long (Int64.ofInt (b))), (12, .long (Int64.ofInt (d))), (11, .int (Int32.ofInt (e))), (10, .int (Int32.ofInt (m))), (9, .int (Int32.ofInt (o))), (8, .int (Int32.ofInt (c))), (7, .int (Int32.ofInt (f))), (5, .int (Int32.ofInt (t))), (3, .int (Int32.ofInt (k))), (2, .int (Int32.ofInt (h))), (1, .int (Int32.ofInt (x))), (0, .ref (598))] [] M Q := by
    intro M i g a b d e m o c f t k h x hI_M hH_M hS_M hF_M hG_M h_i h_g h_a h_b h_d h_e h_m h_o h_c h_f h_t h_k h_h h_x hy0 hy1 hy2 hy3 hy4 hy5 hy6 hy7 hy8 hy9 hy10
    subst hy10
    have hG1 := hy0
    have kt := hy1
    obtain ⟨t1, t2, t3, t4, t5, t6⟩ := hy1
    refine jr.iload rfl rfl ?_
    refine jr.if_eq rfl rfl (by first | (refine rgb (by assumption) ?_; exact rfl) | omega) (fun h347 => ?_) (fun h347 => ?_)
    · refine jr.bipush rfl (by decide) ?_
      exact jr.ireturn rfl rfl rfl (q _ _ hI_M hH_M hS_M  (by first | exact rgq rfl | omega) hG1 (hy3.r (by have h9 := hy9; have h41 := hy4.1; have h42 := hy4.2.1; have h61 := hy6.1; unfold rfq; rw [← h42, ← h61, ← h41]; omega) (by omega)) (fun a i f598 f600 f601 f602 f603 f604 f605 f606 f607 f608 f609 f610 f611 f612 f613 f614 f615 f616 f617 f618 f619 f620 f621 f622 => (hF_M a i f598 f600 f601 f602 f603 f604 f605 f606 f607 f608 f609 f610 f611 f612 f613 f614 f615 f616 f617 f618 f619 f620 f621 f622)) (fun i g6 g10 g11 g12 g34 => (hG_M i g6 g10 g11 g12 g34)))
    · have sx347 : (1 : Int) ≤ c := by omega
      clear h347
      refine jr.iload rfl rfl ?_
      refine jr.if_eq rfl rfl (by first | (refine rgb (by assumption) ?_; exact rfl) | omega) (fun h352 => ?_) (fun h352 => ?_)
      · refine jr.iload rfl rfl ?_
        refine jr.if_eq rfl rfl (by first | (refine rgb (by assumption) ?_; exact rfl) | omega) (fun h365 => ?_) (fun h365 => ?_)
        · refine jr.iload rfl rfl ?_
          refine jr.iconst rfl ?_
          refine jr.icmp_ne rfl rfl (by first | (refine rgb (by assumption) ?_; exact rfl) | omega) (rgl rfl) (fun h385 => ?_) (fun h385 => ?_)
          · have sx385 : (0 : Int) ≤ g := by omega
            clear h385
            obtain ⟨v1, e1⟩ : ∃ z, M 606 g = z := ⟨_, rfl⟩
            have b1 : 0 ≤ v1 ∧ v1 ≤ 1 := by rw [← e1]; exact (by have q := hI_M 606 g (Nat.le_of_ble_eq_true rfl); rw [xri_row rfl rfl] at q; exact q)
            obtain ⟨v2, e2⟩ : ∃ z, M 607 g = z := ⟨_, rfl⟩
            have b2 : 0 ≤ v2 ∧ v2 ≤ 11 := by rw [← e2]; exact (by have q := hI_M 607 g (Nat.le_of_ble_eq_true rfl); rw [xri_row rfl rfl] at q; exact q)
            refine jr.pick (ls := [_, _, _, _, _, _, _, _, _, _]) [0, 1, 7, 8, 9, 10, 11, 12, 13, 14] rfl rfl ?_
            exact r_gather_L418_x q M i g o c f t k h x hI_M hH_M hS_M  (fun a i f598 f600 f601 f602 f603 f604 f605 f606 f607 f608 f609 f610 f611 f612 f613 f614 f615 f616 f617 f618 f619 f620 f621 f622 => (hF_M a i f598 f600 f601 f602 f603 f604 f605 f606 f607 f608 f609 f610 f611 f612 f613 f614 f615 f616 f617 f618 f619 f620 f621 f622)) (fun i g6 g10 g11 g12 g34 => (hG_M i g6 g10 g11 g12 g34)) (by omega) (by omega) (by omega) (by omega) (by omega) (by omega) (by omega) (by omega) (by omega) hG1 (KT.fr kt (fun i => rfl) (fun i => rfl) (fun i => rfl)) (by rw [e1, e2] <;> omega) (by omega) ⟨M, hy3, hy4, (show ¬ rfq (rf M0 x) (M0 600 x) (M 598 6) h (fst6 M (rf M0 x) (M0 600 x) (M 598 6) h) from by have h9 := hy9; have h41 := hy4.1; have h42 := hy4.2.1; have h61 := hy6.1; unfold rfq; rw [← h42, ← h61, ← h41]; omega), (by rw [← hy6.1]; exact hy9), Or.inl ⟨by rw [← hy8]; omega, hy8, rfl⟩⟩ (hy5 g (by omega) (by omega) ((hy2.resolve_left (by omega)).2.1)) (by omega)
          · refine jr.aload_n rfl rfl ?_
            refine jr_v rfl rfl (Or.inl rfl) rfl rfl (nlt rfl) rfl ⟨rfl, Nat.le_of_ble_eq_true rfl, Nat.le_of_ble_eq_true rfl⟩ rfl (jc.deep (r_freeGathering_x hI_M hH_M hS_M    (fun r3 z3 w3_0 => ?_)) (Nat.le_of_ble_eq_true rfl))
            refine jr.istore (ls' := [_, _, _, _, _, _, _, _, _, _, _, _, _, _, _]) rfl (nlt rfl) rfl ?_
            refine jr.iload rfl rfl ?_
            refine jr.iconst rfl ?_
            refine jr.icmp_ne rfl rfl (by first | (refine rgb (by assumption) ?_; exact rfl) | omega) (rgl rfl) (fun h397 => ?_) (fun h397 => ?_)
            · have sx397 : (0 : Int) ≤ r3 := by omega
              clear h397
              refine jr.aload_n rfl rfl ?_
              refine jr.iload rfl rfl ?_
              refine jr.iload_n rfl rfl ?_
              refine jr.lload rfl rfl ?_
              refine jr.lload rfl rfl ?_
              refine jr.lload rfl rfl ?_
              refine jr.iload rfl rfl ?_
              refine jr_v rfl rfl (Or.inl rfl) rfl rfl (nlt rfl) rfl ⟨rfl, Nat.le_of_ble_eq_true rfl, Nat.le_of_ble_eq_true rfl⟩ rfl (jc.deep (r_beginGathering_x hI_M hH_M hS_M  (by omega) (by omega) (by omega) (by omega) (by omega) (by omega) hG1 (fun M4 hI_M4 hH_M4 hS_M4  w4_0 w4_1 w4_2 w4_3 w4_4 w4_5 w4_6 w4_7 w4_8 w4_9 w4_10 w4_11 w4_12 w4_13 w4_14 => ?_)) (Nat.le_of_ble_eq_true rfl))
              obtain ⟨v5, e5⟩ : ∃ z, M4 606 r3 = z := ⟨_, rfl⟩
              have b5 : 0 ≤ v5 ∧ v5 ≤ 1 := by rw [← e5]; exact (by have q := hI_M4 606 r3 (Nat.le_of_ble_eq_true rfl); rw [xri_row rfl rfl] at q; exact q)
              obtain ⟨v6, e6⟩ : ∃ z, M4 607 r3 = z := ⟨_, rfl⟩
              have b6 : 0 ≤ v6 ∧ v6 ≤ 11 := by rw [← e6]; exact (by have q := hI_M4 607 r3 (Nat.le_of_ble_eq_true rfl); rw [xri_row rfl rfl] at q; exact q)
              refine jr.pick (ls := [_, _, _, _, _, _, _, _, _, _]) [1, 0, 7, 8, 9, 10, 11, 12, 13, 14] rfl rfl ?_
              exact r_gather_L418_x q M4 i r3 o c f t k h x hI_M4 hH_M4 hS_M4  (fun a i f598 f600 f601 f602 f603 f604 f605 f606 f607 f608 f609 f610 f611 f612 f613 f614 f615 f616 f617 f618 f619 f620 f621 f622 => ((w4_14 a i f606 f607 f608 f609 f610 f611 f612 f613 f614 f616 f617).trans (hF_M a i f598 f600 f601 f602 f603 f604 f605 f606 f607 f608 f609 f610 f611 f612 f613 f614 f615 f616 f617 f618 f619 f620 f621 f622))) (fun i g6 g10 g11 g12 g34 => ((w4_14 598 i (nne rfl) (nne rfl) (nne rfl) (nne rfl) (nne rfl) (nne rfl) (nne rfl) (nne rfl) (nne rfl) (nne rfl) (nne rfl)).trans (hG_M i g6 g10 g11 g12 g34))) (by omega) (by omega) (by omega) (by omega) (by omega) (by omega) (by omega) (by omega) (by omega) w4_0 (KT.fr kt (fun i => (w4_14 601 i (nne rfl) (nne rfl) (nne rfl) (nne rfl) (nne rfl) (nne rfl) (nne rfl) (nne rfl) (nne rfl) (nne rfl) (nne rfl)).trans ((fun i => rfl) i)) (fun i => (w4_14 604 i (nne rfl) (nne rfl) (nne rfl) (nne rfl) (nne rfl) (nne rfl) (nne rfl) (nne rfl) (nne rfl) (nne rfl) (nne rfl)).trans ((fun i => rfl) i)) (fun i => (w4_14 605 i (nne rfl) (nne rfl) (nne rfl) (nne rfl) (nne rfl) (nne rfl) (nne rfl) (nne rfl) (nne rfl) (nne rfl) (nne rfl)).trans ((fun i => rfl) i))) (by rw [e5, e6] <;> omega) (by omega) ⟨M, hy3, hy4, (show ¬ rfq (rf M0 x) (M0 600 x) (M 598 6) h (fst6 M (rf M0 x) (M0 600 x) (M 598 6) h) from by have h9 := hy9; have h41 := hy4.1; have h42 := hy4.2.1; have h61 := hy6.1; unfold rfq; rw [← h42, ← h61, ← h41]; omega), (by rw [← hy6.1]; exact hy9), Or.inr ⟨by rw [← hy8]; omega, w3_0, by omega, (by rw [← hy3.2.2.2.1, ← hy3.2.2.2.2.1, ← hy7.1, ← hy7.2.2, ← hy7.2.1, ← hy6.2]; exact ⟨⟨w4_1, w4_2, w4_3, w4_4, w4_5, w4_6, w4_7, w4_8, w4_9⟩, w4_10, w4_11, w4_12, w4_13, fun b0 j hb => w4_14 b0 j (by omega) (by omega) (by omega) (by omega) (by omega) (by omega) (by omega) (by omega) (by omega) (by omega) (by omega)⟩)⟩⟩ (Or.inl ⟨w4_3, Or.inl w4_5⟩) (by omega)
            · refine jr.bipush rfl (by decide) ?_
              exact jr.ireturn rfl rfl rfl (q _ _ hI_M hH_M hS_M  (by first | exact rgq rfl | omega) hG1 (hy3.f (show ¬ rfq (rf M0 x) (M0 600 x) (M 598 6) h (fst6 M (rf M0 x) (M0 600 x) (M 598 6) h) from by have h9 := hy9; have h41 := hy4.1; have h42 := hy4.2.1; have h61 := hy6.1; unfold rfq; rw [← h42, ← h61, ← h41]; omega) (by rw [← hy8]; omega) (by rw [← w3_0]; omega) (by omega)) (fun a i f598 f600 f601 f602 f603 f604 f605 f606 f607 f608 f609 f610 f611 f612 f613 f614 f615 f616 f617 f618 f619 f620 f621 f622 => (hF_M a i f598 f600 f601 f602 f603 f604 f605 f606 f607 f608 f609 f610 f611 f612 f613 f614 f615 f616 f617 f618 f619 f620 f621 f622)) (fun i g6 g10 g11 g12 g34 => (hG_M i g6 g10 g11 g12 g34)))
        · have sx365 : (1 : Int) ≤ i := by omega
          clear h365
          refine jr.iload rfl rfl ?_
          refine jr.iload rfl rfl ?_
          refine jr.iadd rfl ?_
          refine jr.sipush rfl (by decide) ?_
          refine jr.icmp_le rfl rfl (by first | (refine rgb (by assumption) ?_; exact rfl) | omega) (rgl rfl) (fun h376 => ?_) (fun h376 => ?_)
          · refine jr.iload rfl rfl ?_
            refine jr.iconst rfl ?_
            refine jr.icmp_ne rfl rfl (by first | (refine rgb (by assumption) ?_; exact rfl) | omega) (rgl rfl) (fun h385 => ?_) (fun h385 => ?_)
            · have sx385 : (0 : Int) ≤ g := by omega
              clear h385
              obtain ⟨v7, e7⟩ : ∃ z, M 606 g = z := ⟨_, rfl⟩
              have b7 : 0 ≤ v7 ∧ v7 ≤ 1 := by rw [← e7]; exact (by have q := hI_M 606 g (Nat.le_of_ble_eq_true rfl); rw [xri_row rfl rfl] at q; exact q)
              obtain ⟨v8, e8⟩ : ∃ z, M 607 g = z := ⟨_, rfl⟩
              have b8 : 0 ≤ v8 ∧ v8 ≤ 11 := by rw [← e8]; exact (by have q := hI_M 607 g (Nat.le_of_ble_eq_true rfl); rw [xri_row rfl rfl] at q; exact q)
              refine jr.pick (ls := [_, _, _, _, _, _, _, _, _, _]) [0, 1, 7, 8, 9, 10, 11, 12, 13, 14] rfl rfl ?_
              exact r_gather_L418_x q M i g o c f t k h x hI_M hH_M hS_M  (fun a i f598 f600 f601 f602 f603 f604 f605 f606 f607 f608 f609 f610 f611 f612 f613 f614 f615 f616 f617 f618 f619 f620 f621 f622 => (hF_M a i f598 f600 f601 f602 f603 f604 f605 f606 f607 f608 f609 f610 f611 f612 f613 f614 f615 f616 f617 f618 f619 f620 f621 f622)) (fun i g6 g10 g11 g12 g34 => (hG_M i g6 g10 g11 g12 g34)) (by omega) (by omega) (by omega) (by omega) (by omega) (by omega) (by omega) (by omega) (by omega) hG1 (KT.fr kt (fun i => rfl) (fun i => rfl) (fun i => rfl)) (by rw [e7, e8] <;> omega) (by omega) ⟨M, hy3, hy4, (show ¬ rfq (rf M0 x) (M0 600 x) (M 598 6) h (fst6 M (rf M0 x) (M0 600 x) (M 598 6) h) from by have h9 := hy9; have h41 := hy4.1; have h42 := hy4.2.1; have h61 := hy6.1; unfold rfq; rw [← h42, ← h61, ← h41]; omega), (by rw [← hy6.1]; exact hy9), Or.inl ⟨by rw [← hy8]; omega, hy8, rfl⟩⟩ (hy5 g (by omega) (by omega) ((hy2.resolve_left (by omega)).2.1)) (by omega)
            · refine jr.aload_n rfl rfl ?_
              refine jr_v rfl rfl (Or.inl rfl) rfl rfl (nlt rfl) rfl ⟨rfl, Nat.le_of_ble_eq_true rfl, Nat.le_of_ble_eq_true rfl⟩ rfl (jc.deep (r_freeGathering_x hI_M hH_M hS_M    (fun r9 z9 w9_0 => ?_)) (Nat.le_of_ble_eq_true rfl))
              refine jr.istore (ls' := [_, _, _, _, _, _, _, _, _, _, _, _, _, _, _]) rfl (nlt rfl) rfl ?_
              refine jr.iload rfl rfl ?_
              refine jr.iconst rfl ?_
              refine jr.icmp_ne rfl rfl (by first | (refine rgb (by assumption) ?_; exact rfl) | omega) (rgl rfl) (fun h397 => ?_) (fun h397 => ?_)
              · have sx397 : (0 : Int) ≤ r9 := by omega
                clear h397
                refine jr.aload_n rfl rfl ?_
                refine jr.iload rfl rfl ?_
                refine jr.iload_n rfl rfl ?_
                refine jr.lload rfl rfl ?_
                refine jr.lload rfl rfl ?_
                refine jr.lload rfl rfl ?_
                refine jr.iload rfl rfl ?_
                refine jr_v rfl rfl (Or.inl rfl) rfl rfl (nlt rfl) rfl ⟨rfl, Nat.le_of_ble_eq_true rfl, Nat.le_of_ble_eq_true rfl⟩ rfl (jc.deep (r_beginGathering_x hI_M hH_M hS_M  (by omega) (by omega) (by omega) (by omega) (by omega) (by omega) hG1 (fun M10 hI_M10 hH_M10 hS_M10  w10_0 w10_1 w10_2 w10_3 w10_4 w10_5 w10_6 w10_7 w10_8 w10_9 w10_10 w10_11 w10_12 w10_13 w10_14 => ?_)) (Nat.le_of_ble_eq_true rfl))
                obtain ⟨v11, e11⟩ : ∃ z, M10 606 r9 = z := ⟨_, rfl⟩
                have b11 : 0 ≤ v11 ∧ v11 ≤ 1 := by rw [← e11]; exact (by have q := hI_M10 606 r9 (Nat.le_of_ble_eq_true rfl); rw [xri_row rfl rfl] at q; exact q)
                obtain ⟨v12, e12⟩ : ∃ z, M10 607 r9 = z := ⟨_, rfl⟩
                have b12 : 0 ≤ v12 ∧ v12 ≤ 11 := by rw [← e12]; exact (by have q := hI_M10 607 r9 (Nat.le_of_ble_eq_true rfl); rw [xri_row rfl rfl] at q; exact q)
                refine jr.pick (ls := [_, _, _, _, _, _, _, _, _, _]) [1, 0, 7, 8, 9, 10, 11, 12, 13, 14] rfl rfl ?_
                exact r_gather_L418_x q M10 i r9 o c f t k h x hI_M10 hH_M10 hS_M10  (fun a i f598 f600 f601 f602 f603 f604 f605 f606 f607 f608 f609 f610 f611 f612 f613 f614 f615 f616 f617 f618 f619 f620 f621 f622 => ((w10_14 a i f606 f607 f608 f609 f610 f611 f612 f613 f614 f616 f617).trans (hF_M a i f598 f600 f601 f602 f603 f604 f605 f606 f607 f608 f609 f610 f611 f612 f613 f614 f615 f616 f617 f618 f619 f620 f621 f622))) (fun i g6 g10 g11 g12 g34 => ((w10_14 598 i (nne rfl) (nne rfl) (nne rfl) (nne rfl) (nne rfl) (nne rfl) (nne rfl) (nne rfl) (nne rfl) (nne rfl) (nne rfl)).trans (hG_M i g6 g10 g11 g12 g34))) (by omega) (by omega) (by omega) (by omega) (by omega) (by omega) (by omega) (by omega) (by omega) w10_0 (KT.fr kt (fun i => (w10_14 601 i (nne rfl) (nne rfl) (nne rfl) (nne rfl) (nne rfl) (nne rfl) (nne rfl) (nne rfl) (nne rfl) (nne rfl) (nne rfl)).trans ((fun i => rfl) i)) (fun i => (w10_14 604 i (nne rfl) (nne rfl) (nne rfl) (nne rfl) (nne rfl) (nne rfl) (nne rfl) (nne rfl) (nne rfl) (nne rfl) (nne rfl)).trans ((fun i => rfl) i)) (fun i => (w10_14 605 i (nne rfl) (nne rfl) (nne rfl) (nne rfl) (nne rfl) (nne rfl) (nne rfl) (nne rfl) (nne rfl) (nne rfl) (nne rfl)).trans ((fun i => rfl) i))) (by rw [e11, e12] <;> omega) (by omega) ⟨M, hy3, hy4, (show ¬ rfq (rf M0 x) (M0 600 x) (M 598 6) h (fst6 M (rf M0 x) (M0 600 x) (M 598 6) h) from by have h9 := hy9; have h41 := hy4.1; have h42 := hy4.2.1; have h61 := hy6.1; unfold rfq; rw [← h42, ← h61, ← h41]; omega), (by rw [← hy6.1]; exact hy9), Or.inr ⟨by rw [← hy8]; omega, w9_0, by omega, (by rw [← hy3.2.2.2.1, ← hy3.2.2.2.2.1, ← hy7.1, ← hy7.2.2, ← hy7.2.1, ← hy6.2]; exact ⟨⟨w10_1, w10_2, w10_3, w10_4, w10_5, w10_6, w10_7, w10_8, w10_9⟩, w10_10, w10_11, w10_12, w10_13, fun b0 j hb => w10_14 b0 j (by omega) (by omega) (by omega) (by omega) (by omega) (by omega) (by omega) (by omega) (by omega) (by omega) (by omega)⟩)⟩⟩ (Or.inl ⟨w10_3, Or.inl w10_5⟩) (by omega)
              · refine jr.bipush rfl (by decide) ?_
                exact jr.ireturn rfl rfl rfl (q _ _ hI_M hH_M hS_M  (by first | exact rgq rfl | omega) hG1 (hy3.f (show ¬ rfq (rf M0 x) (M0 600 x) (M 598 6) h (fst6 M (rf M0 x) (M0 600 x) (M 598 6) h) from by have h9 := hy9; have h41 := hy4.1; have h42 := hy4.2.1; have h61 := hy6.1; unfold rfq; rw [← h42, ← h61, ← h41]; omega) (by rw [← hy8]; omega) (by rw [← w9_0]; omega) (by omega)) (fun a i f598 f600 f601 f602 f603 f604 f605 f606 f607 f608 f609 f610 f611 f612 f613 f614 f615 f616 f617 f618 f619 f620 f621 f622 => (hF_M a i f598 f600 f601 f602 f603 f604 f605 f606 f607 f608 f609 f610 f611 f612 f613 f614 f615 f616 f617 f618 f619 f620 f621 f622)) (fun i g6 g10 g11 g12 g34 => (hG_M i g6 g10 g11 g12 g34)))
          · refine jr.bipush rfl (by decide) ?_
            exact jr.ireturn rfl rfl rfl (q _ _ hI_M hH_M hS_M  (by first | exact rgq rfl | omega) hG1 (hy3.r (by have h9 := hy9; have h41 := hy4.1; have h42 := hy4.2.1; have h61 := hy6.1; unfold rfq; rw [← h42, ← h61, ← h41]; omega) (by omega)) (fun a i f598 f600 f601 f602 f603 f604 f605 f606 f607 f608 f609 f610 f611 f612 f613 f614 f615 f616 f617 f618 f619 f620 f621 f622 => (hF_M a i f598 f600 f601 f602 f603 f604 f605 f606 f607 f608 f609 f610 f611 f612 f613 f614 f615 f616 f617 f618 f619 f620 f621 f622)) (fun i g6 g10 g11 g12 g34 => (hG_M i g6 g10 g11 g12 g34)))
      · have sx352 : (1 : Int) ≤ m := by omega
        clear h352
        refine jr.iload rfl rfl ?_
        refine jr.bipush rfl (jbp _ (nlt rfl)) ?_
        refine jr.irem rfl (by decide) ?_
        have b13 : j_rem c 8 = c % 8 := j_rem_ex (by omega) (by omega)
        generalize j_rem c 8 = v13 at b13 ⊢
        refine jr.if_ne rfl rfl (by first | (refine rgb (by assumption) ?_; exact rfl) | omega) (fun h360 => ?_) (fun h360 => ?_)
        · have sx360 : (1 : Int) ≤ v13 := by omega
          clear h360
          refine jr.bipush rfl (by decide) ?_
          exact jr.ireturn rfl rfl rfl (q _ _ hI_M hH_M hS_M  (by first | exact rgq rfl | omega) hG1 (hy3.r (by have h9 := hy9; have h41 := hy4.1; have h42 := hy4.2.1; have h61 := hy6.1; unfold rfq; rw [← h42, ← h61, ← h41]; omega) (by omega)) (fun a i f598 f600 f601 f602 f603 f604 f605 f606 f607 f608 f609 f610 f611 f612 f613 f614 f615 f616 f617 f618 f619 f620 f621 f622 => (hF_M a i f598 f600 f601 f602 f603 f604 f605 f606 f607 f608 f609 f610 f611 f612 f613 f614 f615 f616 f617 f618 f619 f620 f621 f622)) (fun i g6 g10 g11 g12 g34 => (hG_M i g6 g10 g11 g12 g34)))
        · refine jr.iload rfl rfl ?_
          refine jr.if_eq rfl rfl (by first | (refine rgb (by assumption) ?_; exact rfl) | omega) (fun h365 => ?_) (fun h365 => ?_)
          · refine jr.iload rfl rfl ?_
            refine jr.iconst rfl ?_
            refine jr.icmp_ne rfl rfl (by first | (refine rgb (by assumption) ?_; exact rfl) | omega) (rgl rfl) (fun h385 => ?_) (fun h385 => ?_)
            · have sx385 : (0 : Int) ≤ g := by omega
              clear h385
              obtain ⟨v14, e14⟩ : ∃ z, M 606 g = z := ⟨_, rfl⟩
              have b14 : 0 ≤ v14 ∧ v14 ≤ 1 := by rw [← e14]; exact (by have q := hI_M 606 g (Nat.le_of_ble_eq_true rfl); rw [xri_row rfl rfl] at q; exact q)
              obtain ⟨v15, e15⟩ : ∃ z, M 607 g = z := ⟨_, rfl⟩
              have b15 : 0 ≤ v15 ∧ v15 ≤ 11 := by rw [← e15]; exact (by have q := hI_M 607 g (Nat.le_of_ble_eq_true rfl); rw [xri_row rfl rfl] at q; exact q)
              refine jr.pick (ls := [_, _, _, _, _, _, _, _, _, _]) [0, 1, 7, 8, 9, 10, 11, 12, 13, 14] rfl rfl ?_
              exact r_gather_L418_x q M i g o c f t k h x hI_M hH_M hS_M  (fun a i f598 f600 f601 f602 f603 f604 f605 f606 f607 f608 f609 f610 f611 f612 f613 f614 f615 f616 f617 f618 f619 f620 f621 f622 => (hF_M a i f598 f600 f601 f602 f603 f604 f605 f606 f607 f608 f609 f610 f611 f612 f613 f614 f615 f616 f617 f618 f619 f620 f621 f622)) (fun i g6 g10 g11 g12 g34 => (hG_M i g6 g10 g11 g12 g34)) (by omega) (by omega) (by omega) (by omega) (by omega) (by omega) (by omega) (by omega) (by omega) hG1 (KT.fr kt (fun i => rfl) (fun i => rfl) (fun i => rfl)) (by rw [e14, e15] <;> omega) (by omega) ⟨M, hy3, hy4, (show ¬ rfq (rf M0 x) (M0 600 x) (M 598 6) h (fst6 M (rf M0 x) (M0 600 x) (M 598 6) h) from by have h9 := hy9; have h41 := hy4.1; have h42 := hy4.2.1; have h61 := hy6.1; unfold rfq; rw [← h42, ← h61, ← h41]; omega), (by rw [← hy6.1]; exact hy9), Or.inl ⟨by rw [← hy8]; omega, hy8, rfl⟩⟩ (hy5 g (by omega) (by omega) ((hy2.resolve_left (by omega)).2.1)) (by omega)
            · refine jr.aload_n rfl rfl ?_
              refine jr_v rfl rfl (Or.inl rfl) rfl rfl (nlt rfl) rfl ⟨rfl, Nat.le_of_ble_eq_true rfl, Nat.le_of_ble_eq_true rfl⟩ rfl (jc.deep (r_freeGathering_x hI_M hH_M hS_M    (fun r16 z16 w16_0 => ?_)) (Nat.le_of_ble_eq_true rfl))
              refine jr.istore (ls' := [_, _, _, _, _, _, _, _, _, _, _, _, _, _, _]) rfl (nlt rfl) rfl ?_
              refine jr.iload rfl rfl ?_
              refine jr.iconst rfl ?_
              refine jr.icmp_ne rfl rfl (by first | (refine rgb (by assumption) ?_; exact rfl) | omega) (rgl rfl) (fun h397 => ?_) (fun h397 => ?_)
              · have sx397 : (0 : Int) ≤ r16 := by omega
                clear h397
                refine jr.aload_n rfl rfl ?_
                refine jr.iload rfl rfl ?_
                refine jr.iload_n rfl rfl ?_
                refine jr.lload rfl rfl ?_
                refine jr.lload rfl rfl ?_
                refine jr.lload rfl rfl ?_
                refine jr.iload rfl rfl ?_
                refine jr_v rfl rfl (Or.inl rfl) rfl rfl (nlt rfl) rfl ⟨rfl, Nat.le_of_ble_eq_true rfl, Nat.le_of_ble_eq_true rfl⟩ rfl (jc.deep (r_beginGathering_x hI_M hH_M hS_M  (by omega) (by omega) (by omega) (by omega) (by omega) (by omega) hG1 (fun M17 hI_M17 hH_M17 hS_M17  w17_0 w17_1 w17_2 w17_3 w17_4 w17_5 w17_6 w17_7 w17_8 w17_9 w17_10 w17_11 w17_12 w17_13 w17_14 => ?_)) (Nat.le_of_ble_eq_true rfl))
                obtain ⟨v18, e18⟩ : ∃ z, M17 606 r16 = z := ⟨_, rfl⟩
                have b18 : 0 ≤ v18 ∧ v18 ≤ 1 := by rw [← e18]; exact (by have q := hI_M17 606 r16 (Nat.le_of_ble_eq_true rfl); rw [xri_row rfl rfl] at q; exact q)
                obtain ⟨v19, e19⟩ : ∃ z, M17 607 r16 = z := ⟨_, rfl⟩
                have b19 : 0 ≤ v19 ∧ v19 ≤ 11 := by rw [← e19]; exact (by have q := hI_M17 607 r16 (Nat.le_of_ble_eq_true rfl); rw [xri_row rfl rfl] at q; exact q)
                refine jr.pick (ls := [_, _, _, _, _, _, _, _, _, _]) [1, 0, 7, 8, 9, 10, 11, 12, 13, 14] rfl rfl ?_
                exact r_gather_L418_x q M17 i r16 o c f t k h x hI_M17 hH_M17 hS_M17  (fun a i f598 f600 f601 f602 f603 f604 f605 f606 f607 f608 f609 f610 f611 f612 f613 f614 f615 f616 f617 f618 f619 f620 f621 f622 => ((w17_14 a i f606 f607 f608 f609 f610 f611 f612 f613 f614 f616 f617).trans (hF_M a i f598 f600 f601 f602 f603 f604 f605 f606 f607 f608 f609 f610 f611 f612 f613 f614 f615 f616 f617 f618 f619 f620 f621 f622))) (fun i g6 g10 g11 g12 g34 => ((w17_14 598 i (nne rfl) (nne rfl) (nne rfl) (nne rfl) (nne rfl) (nne rfl) (nne rfl) (nne rfl) (nne rfl) (nne rfl) (nne rfl)).trans (hG_M i g6 g10 g11 g12 g34))) (by omega) (by omega) (by omega) (by omega) (by omega) (by omega) (by omega) (by omega) (by omega) w17_0 (KT.fr kt (fun i => (w17_14 601 i (nne rfl) (nne rfl) (nne rfl) (nne rfl) (nne rfl) (nne rfl) (nne rfl) (nne rfl) (nne rfl) (nne rfl) (nne rfl)).trans ((fun i => rfl) i)) (fun i => (w17_14 604 i (nne rfl) (nne rfl) (nne rfl) (nne rfl) (nne rfl) (nne rfl) (nne rfl) (nne rfl) (nne rfl) (nne rfl) (nne rfl)).trans ((fun i => rfl) i)) (fun i => (w17_14 605 i (nne rfl) (nne rfl) (nne rfl) (nne rfl) (nne rfl) (nne rfl) (nne rfl) (nne rfl) (nne rfl) (nne rfl) (nne rfl)).trans ((fun i => rfl) i))) (by rw [e18, e19] <;> omega) (by omega) ⟨M, hy3, hy4, (show ¬ rfq (rf M0 x) (M0 600 x) (M 598 6) h (fst6 M (rf M0 x) (M0 600 x) (M 598 6) h) from by have h9 := hy9; have h41 := hy4.1; have h42 := hy4.2.1; have h61 := hy6.1; unfold rfq; rw [← h42, ← h61, ← h41]; omega), (by rw [← hy6.1]; exact hy9), Or.inr ⟨by rw [← hy8]; omega, w16_0, by omega, (by rw [← hy3.2.2.2.1, ← hy3.2.2.2.2.1, ← hy7.1, ← hy7.2.2, ← hy7.2.1, ← hy6.2]; exact ⟨⟨w17_1, w17_2, w17_3, w17_4, w17_5, w17_6, w17_7, w17_8, w17_9⟩, w17_10, w17_11, w17_12, w17_13, fun b0 j hb => w17_14 b0 j (by omega) (by omega) (by omega) (by omega) (by omega) (by omega) (by omega) (by omega) (by omega) (by omega) (by omega)⟩)⟩⟩ (Or.inl ⟨w17_3, Or.inl w17_5⟩) (by omega)
              · refine jr.bipush rfl (by decide) ?_
                exact jr.ireturn rfl rfl rfl (q _ _ hI_M hH_M hS_M  (by first | exact rgq rfl | omega) hG1 (hy3.f (show ¬ rfq (rf M0 x) (M0 600 x) (M 598 6) h (fst6 M (rf M0 x) (M0 600 x) (M 598 6) h) from by have h9 := hy9; have h41 := hy4.1; have h42 := hy4.2.1; have h61 := hy6.1; unfold rfq; rw [← h42, ← h61, ← h41]; omega) (by rw [← hy8]; omega) (by rw [← w16_0]; omega) (by omega)) (fun a i f598 f600 f601 f602 f603 f604 f605 f606 f607 f608 f609 f610 f611 f612 f613 f614 f615 f616 f617 f618 f619 f620 f621 f622 => (hF_M a i f598 f600 f601 f602 f603 f604 f605 f606 f607 f608 f609 f610 f611 f612 f613 f614 f615 f616 f617 f618 f619 f620 f621 f622)) (fun i g6 g10 g11 g12 g34 => (hG_M i g6 g10 g11 g12 g34)))
          · have sx365 : (1 : Int) ≤ i := by omega
            clear h365
            refine jr.iload rfl rfl ?_
            refine jr.iload rfl rfl ?_
            refine jr.iadd rfl ?_
            refine jr.sipush rfl (by decide) ?_
            refine jr.icmp_le rfl rfl (by first | (refine rgb (by assumption) ?_; exact rfl) | omega) (rgl rfl) (fun h376 => ?_) (fun h376 => ?_)
            · refine jr.iload rfl rfl ?_
              refine jr.iconst rfl ?_
              refine jr.icmp_ne rfl rfl (by first | (refine rgb (by assumption) ?_; exact rfl) | omega) (rgl rfl) (fun h385 => ?_) (fun h385 => ?_)
              · have sx385 : (0 : Int) ≤ g := by omega
                clear h385
                obtain ⟨v20, e20⟩ : ∃ z, M 606 g = z := ⟨_, rfl⟩
                have b20 : 0 ≤ v20 ∧ v20 ≤ 1 := by rw [← e20]; exact (by have q := hI_M 606 g (Nat.le_of_ble_eq_true rfl); rw [xri_row rfl rfl] at q; exact q)
                obtain ⟨v21, e21⟩ : ∃ z, M 607 g = z := ⟨_, rfl⟩
                have b21 : 0 ≤ v21 ∧ v21 ≤ 11 := by rw [← e21]; exact (by have q := hI_M 607 g (Nat.le_of_ble_eq_true rfl); rw [xri_row rfl rfl] at q; exact q)
                refine jr.pick (ls := [_, _, _, _, _, _, _, _, _, _]) [0, 1, 7, 8, 9, 10, 11, 12, 13, 14] rfl rfl ?_
                exact r_gather_L418_x q M i g o c f t k h x hI_M hH_M hS_M  (fun a i f598 f600 f601 f602 f603 f604 f605 f606 f607 f608 f609 f610 f611 f612 f613 f614 f615 f616 f617 f618 f619 f620 f621 f622 => (hF_M a i f598 f600 f601 f602 f603 f604 f605 f606 f607 f608 f609 f610 f611 f612 f613 f614 f615 f616 f617 f618 f619 f620 f621 f622)) (fun i g6 g10 g11 g12 g34 => (hG_M i g6 g10 g11 g12 g34)) (by omega) (by omega) (by omega) (by omega) (by omega) (by omega) (by omega) (by omega) (by omega) hG1 (KT.fr kt (fun i => rfl) (fun i => rfl) (fun i => rfl)) (by rw [e20, e21] <;> omega) (by omega) ⟨M, hy3, hy4, (show ¬ rfq (rf M0 x) (M0 600 x) (M 598 6) h (fst6 M (rf M0 x) (M0 600 x) (M 598 6) h) from by have h9 := hy9; have h41 := hy4.1; have h42 := hy4.2.1; have h61 := hy6.1; unfold rfq; rw [← h42, ← h61, ← h41]; omega), (by rw [← hy6.1]; exact hy9), Or.inl ⟨by rw [← hy8]; omega, hy8, rfl⟩⟩ (hy5 g (by omega) (by omega) ((hy2.resolve_left (by omega)).2.1)) (by omega)
              · refine jr.aload_n rfl rfl ?_
                refine jr_v rfl rfl (Or.inl rfl) rfl rfl (nlt rfl) rfl ⟨rfl, Nat.le_of_ble_eq_true rfl, Nat.le_of_ble_eq_true rfl⟩ rfl (jc.deep (r_freeGathering_x hI_M hH_M hS_M    (fun r22 z22 w22_0 => ?_)) (Nat.le_of_ble_eq_true rfl))
                refine jr.istore (ls' := [_, _, _, _, _, _, _, _, _, _, _, _, _, _, _]) rfl (nlt rfl) rfl ?_
                refine jr.iload rfl rfl ?_
                refine jr.iconst rfl ?_
                refine jr.icmp_ne rfl rfl (by first | (refine rgb (by assumption) ?_; exact rfl) | omega) (rgl rfl) (fun h397 => ?_) (fun h397 => ?_)
                · have sx397 : (0 : Int) ≤ r22 := by omega
                  clear h397
                  refine jr.aload_n rfl rfl ?_
                  refine jr.iload rfl rfl ?_
                  refine jr.iload_n rfl rfl ?_
                  refine jr.lload rfl rfl ?_
                  refine jr.lload rfl rfl ?_
                  refine jr.lload rfl rfl ?_
                  refine jr.iload rfl rfl ?_
                  refine jr_v rfl rfl (Or.inl rfl) rfl rfl (nlt rfl) rfl ⟨rfl, Nat.le_of_ble_eq_true rfl, Nat.le_of_ble_eq_true rfl⟩ rfl (jc.deep (r_beginGathering_x hI_M hH_M hS_M  (by omega) (by omega) (by omega) (by omega) (by omega) (by omega) hG1 (fun M23 hI_M23 hH_M23 hS_M23  w23_0 w23_1 w23_2 w23_3 w23_4 w23_5 w23_6 w23_7 w23_8 w23_9 w23_10 w23_11 w23_12 w23_13 w23_14 => ?_)) (Nat.le_of_ble_eq_true rfl))
                  obtain ⟨v24, e24⟩ : ∃ z, M23 606 r22 = z := ⟨_, rfl⟩
                  have b24 : 0 ≤ v24 ∧ v24 ≤ 1 := by rw [← e24]; exact (by have q := hI_M23 606 r22 (Nat.le_of_ble_eq_true rfl); rw [xri_row rfl rfl] at q; exact q)
                  obtain ⟨v25, e25⟩ : ∃ z, M23 607 r22 = z := ⟨_, rfl⟩
                  have b25 : 0 ≤ v25 ∧ v25 ≤ 11 := by rw [← e25]; exact (by have q := hI_M23 607 r22 (Nat.le_of_ble_eq_true rfl); rw [xri_row rfl rfl] at q; exact q)
                  refine jr.pick (ls := [_, _, _, _, _, _, _, _, _, _]) [1, 0, 7, 8, 9, 10, 11, 12, 13, 14] rfl rfl ?_
                  exact r_gather_L418_x q M23 i r22 o c f t k h x hI_M23 hH_M23 hS_M23  (fun a i f598 f600 f601 f602 f603 f604 f605 f606 f607 f608 f609 f610 f611 f612 f613 f614 f615 f616 f617 f618 f619 f620 f621 f622 => ((w23_14 a i f606 f607 f608 f609 f610 f611 f612 f613 f614 f616 f617).trans (hF_M a i f598 f600 f601 f602 f603 f604 f605 f606 f607 f608 f609 f610 f611 f612 f613 f614 f615 f616 f617 f618 f619 f620 f621 f622))) (fun i g6 g10 g11 g12 g34 => ((w23_14 598 i (nne rfl) (nne rfl) (nne rfl) (nne rfl) (nne rfl) (nne rfl) (nne rfl) (nne rfl) (nne rfl) (nne rfl) (nne rfl)).trans (hG_M i g6 g10 g11 g12 g34))) (by omega) (by omega) (by omega) (by omega) (by omega) (by omega) (by omega) (by omega) (by omega) w23_0 (KT.fr kt (fun i => (w23_14 601 i (nne rfl) (nne rfl) (nne rfl) (nne rfl) (nne rfl) (nne rfl) (nne rfl) (nne rfl) (nne rfl) (nne rfl) (nne rfl)).trans ((fun i => rfl) i)) (fun i => (w23_14 604 i (nne rfl) (nne rfl) (nne rfl) (nne rfl) (nne rfl) (nne rfl) (nne rfl) (nne rfl) (nne rfl) (nne rfl) (nne rfl)).trans ((fun i => rfl) i)) (fun i => (w23_14 605 i (nne rfl) (nne rfl) (nne rfl) (nne rfl) (nne rfl) (nne rfl) (nne rfl) (nne rfl) (nne rfl) (nne rfl) (nne rfl)).trans ((fun i => rfl) i))) (by rw [e24, e25] <;> omega) (by omega) ⟨M, hy3, hy4, (show ¬ rfq (rf M0 x) (M0 600 x) (M 598 6) h (fst6 M (rf M0 x) (M0 600 x) (M 598 6) h) from by have h9 := hy9; have h41 := hy4.1; have h42 := hy4.2.1; have h61 := hy6.1; unfold rfq; rw [← h42, ← h61, ← h41]; omega), (by rw [← hy6.1]; exact hy9), Or.inr ⟨by rw [← hy8]; omega, w22_0, by omega, (by rw [← hy3.2.2.2.1, ← hy3.2.2.2.2.1, ← hy7.1, ← hy7.2.2, ← hy7.2.1, ← hy6.2]; exact ⟨⟨w23_1, w23_2, w23_3, w23_4, w23_5, w23_6, w23_7, w23_8, w23_9⟩, w23_10, w23_11, w23_12, w23_13, fun b0 j hb => w23_14 b0 j (by omega) (by omega) (by omega) (by omega) (by omega) (by omega) (by omega) (by omega) (by omega) (by omega) (by omega)⟩)⟩⟩ (Or.inl ⟨w23_3, Or.inl w23_5⟩) (by omega)
                · refine jr.bipush rfl (by decide) ?_
                  exact jr.ireturn rfl rfl rfl (q _ _ hI_M hH_M hS_M  (by first | exact rgq rfl | omega) hG1 (hy3.f (show ¬ rfq (rf M0 x) (M0 600 x) (M 598 6) h (fst6 M (rf M0 x) (M0 600 x) (M 598 6) h) from by have h9 := hy9; have h41 := hy4.1; have h42 := hy4.2.1; have h61 := hy6.1; unfold rfq; rw [← h42, ← h61, ← h41]; omega) (by rw [← hy8]; omega) (by rw [← w22_0]; omega) (by omega)) (fun a i f598 f600 f601 f602 f603 f604 f605 f606 f607 f608 f609 f610 f611 f612 f613 f614 f615 f616 f617 f618 f619 f620 f621 f622 => (hF_M a i f598 f600 f601 f602 f603 f604 f605 f606 f607 f608 f609 f610 f611 f612 f613 f614 f615 f616 f617 f618 f619 f620 f621 f622)) (fun i g6 g10 g11 g12 g34 => (hG_M i g6 g10 g11 g12 g34)))
            · refine jr.bipush rfl (by decide) ?_
              exact jr.ireturn rfl rfl rfl (q _ _ hI_M hH_M hS_M  (by first | exact rgq rfl | omega) hG1 (hy3.r (by have h9 := hy9; have h41 := hy4.1; have h42 := hy4.2.1; have h61 := hy6.1; unfold rfq; rw [← h42, ← h61, ← h41]; omega) (by omega)) (fun a i f598 f600 f601 f602 f603 f604 f605 f606 f607 f608 f609 f610 f611 f612 f613 f614 f615 f616 f617 f618 f619 f620 f621 f622 => (hF_M a i f598 f600 f601 f602 f603 f604 f605 f606 f607 f608 f609 f610 f611 f612 f613 f614 f615 f616 f617 f618 f619 f620 f621 f622)) (fun i g6 g10 g11 g12 g34 => (hG_M i g6 g10 g11 g12 g34)))
theorem r_gather_L301_x {A : Nat → Option (Nat × (Nat → Int32))} {Q : Option Value → jm → Prop} {M0 : jm} {x0 : Int} (q : ∀ (r : Int) (M' : jm), RI M' → RH M' → RF M' → (-5) ≤ r ∧ r ≤ 23 → RG1 M' → GAR M0 M' x0 r → (∀ (a : Nat) (i : Int), a ≠ 598 → a ≠ 600 → a ≠ 601 → a ≠ 602 → a ≠ 603 → a ≠ 604 → a ≠ 605 → a ≠ 606 → a ≠ 607 → a ≠ 608 → a ≠ 609 → a ≠ 610 → a ≠ 611 → a ≠ 612 → a ≠ 613 → a ≠ 614 → a ≠ 615 → a ≠ 616 → a ≠ 617 → a ≠ 618 → a ≠ 619 → a ≠ 620 → a ≠ 621 → a ≠ 622 → M' a i = M0 a i) → (∀ (i : Int), i ≠ 6 → i ≠ 10 → i ≠ 11 → i ≠ 12 → i ≠ 34 → M' 598 i = M0 598 i) → Q (some (.int (Int32.ofInt r))) M') : ∀ (M : jm) (u : Int) (b : Int) (d : Int) (e : Int) (m : Int) (o : Int) (c : Int) (f : Int) (t : Int) (a : Int) (k : Int) (h : Int) (x : Int), RI M → RH M → RF M → (∀ (a : Nat) (i : Int), a ≠ 598 → a ≠ 600 → a ≠ 601 → a ≠ 602 → a ≠ 603 → a ≠ 604 → a ≠ 605 → a ≠ 606 → a ≠ 607 → a ≠ 608 → a ≠ 609 → a ≠ 610 → a ≠ 611 → a ≠ 612 → a ≠ 613 → a ≠ 614 → a ≠ 615 → a ≠ 616 → a ≠ 617 → a ≠ 618 → a ≠ 619 → a ≠ 620 → a ≠ 621 → a ≠ 622 → M a i = M0 a i) → (∀ (i : Int), i ≠ 6 → i ≠ 10 → i ≠ 11 → i ≠ 12 → i ≠ 34 → M 598 i = M0 598 i) → (-9223372036854775808) ≤ u ∧ u ≤ 9223372036854775807 → (-9223372036854775808) ≤ b ∧ b ≤ 9223372036854775807 → (-9223372036854775808) ≤ d ∧ d ≤ 9223372036854775807 → 0 ≤ e ∧ e ≤ 255 → 0 ≤ m ∧ m ≤ 1 → 0 ≤ o ∧ o ≤ 65528 → 0 ≤ c ∧ c ≤ 400 → 0 ≤ f ∧ f ≤ 400 → 0 ≤ t ∧ t ≤ 11 → 0 ≤ a ∧ a ≤ 400 → 0 ≤ k ∧ k ≤ 11 → 0 ≤ h ∧ h ≤ 11 → 0 ≤ x ∧ x ≤ 23 → RG1 M → HK M x h t k a → f + c ≤ 400 → PX1 M0 M x h t k a → (o = ofs (rf M0 x) (M0 600 x) (M 598 6) h ∧ c = M0 600 x - enf (rf M0 x) (M0 600 x) (M 598 6) h ∧ f = enf (rf M0 x) (M0 600 x) (M 598 6) h) → GQ6 M → (m = mrf (rf M0 x) (M0 600 x) (M 598 6) h ∧ e = vA (rf M0 x) (M0 600 x) (M 598 6) h (if kA (rf M0 x) (M0 600 x) (M 598 6) h = 2 then 7 else 0)) → (b = adf (rf M0 x) (M0 600 x) (M 598 6) t 0 ∧ d = vA (rf M0 x) (M0 600 x) (M 598 6) h 3) → u = adf (rf M0 x) (M0 600 x) (M 598 6) t 1 → x = x0 → jr A 5 xm_292 301 [(16, .long (Int64.ofInt (u))), (14, .long (Int64.ofInt (b))), (12, .long (Int64.ofInt (d))), (11, .int (Int32.ofInt (e))), (10, .int (Int32.ofInt (m))), (9, .int (Int32.ofInt (o))), (8, .int (Int32.ofInt (c))), (7, .int (Int32.ofInt (f))), (5, .int (Int32.ofInt (t))), (4, .int (Int32.ofInt (a))), (3, .int (Int32.ofInt (k))), (2, .int (Int32.ofInt (h))), (1, .int (Int32.ofInt (x))), (0, .ref (598))] [] M Q := by
    intro M u b d e m o c f t a k h x hI_M hH_M hS_M hF_M hG_M h_u h_b h_d h_e h_m h_o h_c h_f h_t h_a h_k h_h h_x hy0 hy1 hy2 hy3 hy4 hy5 hy6 hy7 hy8 hy9
    subst hy9
    have hG1 := hy0
    have hk := hy1
    obtain ⟨k1, k2, k3, k4, k5⟩ := hy1
    refine jr.aload_n rfl rfl ?_
    refine jr.iload_n rfl rfl ?_
    refine jr.lload rfl rfl ?_
    refine jr.lload rfl rfl ?_
    refine jr.lload rfl rfl ?_
    refine jr.iload rfl rfl ?_
    refine jr_v rfl rfl (Or.inl rfl) rfl rfl (nlt rfl) rfl ⟨rfl, Nat.le_of_ble_eq_true rfl, Nat.le_of_ble_eq_true rfl⟩ rfl (jc.deep (r_gathering_x hI_M hH_M hS_M  (by omega) (by omega) (by omega) (by omega) (by omega)  (fun r1 z1 w1_0 w1_1 => ?_)) (Nat.le_of_ble_eq_true rfl))
    refine jr.istore (ls' := [_, _, _, _, _, _, _, _, _, _, _, _, _, _, _]) rfl (nlt rfl) rfl ?_
    refine jr.iload rfl rfl ?_
    refine jr.if_ne rfl rfl (by first | (refine rgb (by assumption) ?_; exact rfl) | omega) (fun h318 => ?_) (fun h318 => ?_)
    · have sx318 : (1 : Int) ≤ m := by omega
      clear h318
      refine jr.iconst rfl ?_
      refine jr.istore (ls' := [_, _, _, _, _, _, _, _, _, _, _, _, _, _, _, _]) rfl (nlt rfl) rfl ?_
      refine jr.pick (ls := [_, _, _, _, _, _, _, _, _, _, _, _, _, _, _]) [0, 1, 2, 3, 4, 5, 6, 7, 8, 9, 10, 12, 13, 14, 15] rfl rfl ?_
      exact r_gather_L345_x q M 0 r1 u b d e m o c f t k h x hI_M hH_M hS_M  (fun a i f598 f600 f601 f602 f603 f604 f605 f606 f607 f608 f609 f610 f611 f612 f613 f614 f615 f616 f617 f618 f619 f620 f621 f622 => (hF_M a i f598 f600 f601 f602 f603 f604 f605 f606 f607 f608 f609 f610 f611 f612 f613 f614 f615 f616 f617 f618 f619 f620 f621 f622)) (fun i g6 g10 g11 g12 g34 => (hG_M i g6 g10 g11 g12 g34)) (by omega) (by omega) (by omega) (by omega) (by omega) (by omega) (by omega) (by omega) (by omega) (by omega) (by omega) (by omega) (by omega) (by omega) hG1 ⟨by omega, by omega, by omega, by omega, by omega, fun q => by rcases k5 with z | z; (exact ⟨z.2.2.1, z.2.2.2.1, z.2.2.2.2⟩); (exact absurd q (by omega))⟩ (by omega) (by have h9 := hy3; rw [hy3.2.2.2.2.2.1] at h9; exact h9) hy4 hy5 hy6 ⟨hy7.1, hy7.2, hy8⟩ (by unfold g6; rw [← hy3.2.2.2.1, ← hy3.2.2.2.2.1, ← hy7.1, ← hy8, ← hy7.2, ← hy6.2]; exact w1_1) (by have hg : r1 = g6 M (rf M0 x) (M0 600 x) (M 598 6) h := (by unfold g6; rw [← hy3.2.2.2.1, ← hy3.2.2.2.2.1, ← hy7.1, ← hy8, ← hy7.2, ← hy6.2]; exact w1_1); have hf : fst6 M (rf M0 x) (M0 600 x) (M 598 6) h = (if r1 = -1 ∨ M 614 r1 = -1 then 1 else 0) := (by unfold fst6; rw [← hg]); first | exact Or.inr ⟨rfl, fun u => by omega⟩ | exact Or.inl ⟨rfl, by omega, by rw [hf]; exact if_pos (by omega)⟩ | exact Or.inr ⟨rfl, fun u => by rw [hf, if_neg (by omega)] at u; omega⟩) (by omega)
    · refine jr.iload rfl rfl ?_
      refine jr.iconst rfl ?_
      refine jr.icmp_eq rfl rfl (by first | (refine rgb (by assumption) ?_; exact rfl) | omega) (rgl rfl) (fun h324 => ?_) (fun h324 => ?_)
      · refine jr.iconst rfl ?_
        refine jr.goto rfl rfl ?_
        refine jr.istore (ls' := [_, _, _, _, _, _, _, _, _, _, _, _, _, _, _, _]) rfl (nlt rfl) rfl ?_
        refine jr.pick (ls := [_, _, _, _, _, _, _, _, _, _, _, _, _, _, _]) [0, 1, 2, 3, 4, 5, 6, 7, 8, 9, 10, 12, 13, 14, 15] rfl rfl ?_
        exact r_gather_L345_x q M 1 r1 u b d e m o c f t k h x hI_M hH_M hS_M  (fun a i f598 f600 f601 f602 f603 f604 f605 f606 f607 f608 f609 f610 f611 f612 f613 f614 f615 f616 f617 f618 f619 f620 f621 f622 => (hF_M a i f598 f600 f601 f602 f603 f604 f605 f606 f607 f608 f609 f610 f611 f612 f613 f614 f615 f616 f617 f618 f619 f620 f621 f622)) (fun i g6 g10 g11 g12 g34 => (hG_M i g6 g10 g11 g12 g34)) (by omega) (by omega) (by omega) (by omega) (by omega) (by omega) (by omega) (by omega) (by omega) (by omega) (by omega) (by omega) (by omega) (by omega) hG1 ⟨by omega, by omega, by omega, by omega, by omega, fun q => by rcases k5 with z | z; (exact ⟨z.2.2.1, z.2.2.2.1, z.2.2.2.2⟩); (exact absurd q (by omega))⟩ (by omega) (by have h9 := hy3; rw [hy3.2.2.2.2.2.1] at h9; exact h9) hy4 hy5 hy6 ⟨hy7.1, hy7.2, hy8⟩ (by unfold g6; rw [← hy3.2.2.2.1, ← hy3.2.2.2.2.1, ← hy7.1, ← hy8, ← hy7.2, ← hy6.2]; exact w1_1) (by have hg : r1 = g6 M (rf M0 x) (M0 600 x) (M 598 6) h := (by unfold g6; rw [← hy3.2.2.2.1, ← hy3.2.2.2.2.1, ← hy7.1, ← hy8, ← hy7.2, ← hy6.2]; exact w1_1); have hf : fst6 M (rf M0 x) (M0 600 x) (M 598 6) h = (if r1 = -1 ∨ M 614 r1 = -1 then 1 else 0) := (by unfold fst6; rw [← hg]); first | exact Or.inr ⟨rfl, fun u => by omega⟩ | exact Or.inl ⟨rfl, by omega, by rw [hf]; exact if_pos (by omega)⟩ | exact Or.inr ⟨rfl, fun u => by rw [hf, if_neg (by omega)] at u; omega⟩) (by omega)
      · have sx324 : (0 : Int) ≤ r1 := by omega
        clear h324
        refine jr.aload_n rfl rfl ?_
        refine jr.getf (i := 25) (v := .ref 614) rfl rfl (nlt rfl) rfl (nlt rfl) rfl rfl rfl rfl ?_
        refine jr.iload rfl rfl ?_
        obtain ⟨v2, e2⟩ : ∃ z, M 614 r1 = z := ⟨_, rfl⟩
        have b2 : (-1) ≤ v2 ∧ v2 ≤ 360 := by rw [← e2]; exact (by have q := hI_M 614 r1 (Nat.le_of_ble_eq_true rfl); rw [xri_row rfl rfl] at q; exact q)
        refine jr.iald (i := r1) (x := v2) rfl (nlt rfl) rfl (Nat.le_of_ble_eq_true rfl) (by omega) (by omega) e2 ?_
        refine jr.iconst rfl ?_
        refine jr.icmp_ne rfl rfl (by first | (refine rgb (by assumption) ?_; exact rfl) | omega) (rgl rfl) (fun h335 => ?_) (fun h335 => ?_)
        · have sx335 : (0 : Int) ≤ v2 := by omega
          clear h335
          refine jr.iconst rfl ?_
          refine jr.istore (ls' := [_, _, _, _, _, _, _, _, _, _, _, _, _, _, _, _]) rfl (nlt rfl) rfl ?_
          refine jr.pick (ls := [_, _, _, _, _, _, _, _, _, _, _, _, _, _, _]) [0, 1, 2, 3, 4, 5, 6, 7, 8, 9, 10, 12, 13, 14, 15] rfl rfl ?_
          exact r_gather_L345_x q M 0 r1 u b d e m o c f t k h x hI_M hH_M hS_M  (fun a i f598 f600 f601 f602 f603 f604 f605 f606 f607 f608 f609 f610 f611 f612 f613 f614 f615 f616 f617 f618 f619 f620 f621 f622 => (hF_M a i f598 f600 f601 f602 f603 f604 f605 f606 f607 f608 f609 f610 f611 f612 f613 f614 f615 f616 f617 f618 f619 f620 f621 f622)) (fun i g6 g10 g11 g12 g34 => (hG_M i g6 g10 g11 g12 g34)) (by omega) (by omega) (by omega) (by omega) (by omega) (by omega) (by omega) (by omega) (by omega) (by omega) (by omega) (by omega) (by omega) (by omega) hG1 ⟨by omega, by omega, by omega, by omega, by omega, fun q => by rcases k5 with z | z; (exact ⟨z.2.2.1, z.2.2.2.1, z.2.2.2.2⟩); (exact absurd q (by omega))⟩ (by omega) (by have h9 := hy3; rw [hy3.2.2.2.2.2.1] at h9; exact h9) hy4 hy5 hy6 ⟨hy7.1, hy7.2, hy8⟩ (by unfold g6; rw [← hy3.2.2.2.1, ← hy3.2.2.2.2.1, ← hy7.1, ← hy8, ← hy7.2, ← hy6.2]; exact w1_1) (by have hg : r1 = g6 M (rf M0 x) (M0 600 x) (M 598 6) h := (by unfold g6; rw [← hy3.2.2.2.1, ← hy3.2.2.2.2.1, ← hy7.1, ← hy8, ← hy7.2, ← hy6.2]; exact w1_1); have hf : fst6 M (rf M0 x) (M0 600 x) (M 598 6) h = (if r1 = -1 ∨ M 614 r1 = -1 then 1 else 0) := (by unfold fst6; rw [← hg]); first | exact Or.inr ⟨rfl, fun u => by omega⟩ | exact Or.inl ⟨rfl, by omega, by rw [hf]; exact if_pos (by omega)⟩ | exact Or.inr ⟨rfl, fun u => by rw [hf, if_neg (by omega)] at u; omega⟩) (by omega)
        · refine jr.iconst rfl ?_
          refine jr.goto rfl rfl ?_
          refine jr.istore (ls' := [_, _, _, _, _, _, _, _, _, _, _, _, _, _, _, _]) rfl (nlt rfl) rfl ?_
          refine jr.pick (ls := [_, _, _, _, _, _, _, _, _, _, _, _, _, _, _]) [0, 1, 2, 3, 4, 5, 6, 7, 8, 9, 10, 12, 13, 14, 15] rfl rfl ?_
          exact r_gather_L345_x q M 1 r1 u b d e m o c f t k h x hI_M hH_M hS_M  (fun a i f598 f600 f601 f602 f603 f604 f605 f606 f607 f608 f609 f610 f611 f612 f613 f614 f615 f616 f617 f618 f619 f620 f621 f622 => (hF_M a i f598 f600 f601 f602 f603 f604 f605 f606 f607 f608 f609 f610 f611 f612 f613 f614 f615 f616 f617 f618 f619 f620 f621 f622)) (fun i g6 g10 g11 g12 g34 => (hG_M i g6 g10 g11 g12 g34)) (by omega) (by omega) (by omega) (by omega) (by omega) (by omega) (by omega) (by omega) (by omega) (by omega) (by omega) (by omega) (by omega) (by omega) hG1 ⟨by omega, by omega, by omega, by omega, by omega, fun q => by rcases k5 with z | z; (exact ⟨z.2.2.1, z.2.2.2.1, z.2.2.2.2⟩); (exact absurd q (by omega))⟩ (by omega) (by have h9 := hy3; rw [hy3.2.2.2.2.2.1] at h9; exact h9) hy4 hy5 hy6 ⟨hy7.1, hy7.2, hy8⟩ (by unfold g6; rw [← hy3.2.2.2.1, ← hy3.2.2.2.2.1, ← hy7.1, ← hy8, ← hy7.2, ← hy6.2]; exact w1_1) (by have hg : r1 = g6 M (rf M0 x) (M0 600 x) (M 598 6) h := (by unfold g6; rw [← hy3.2.2.2.1, ← hy3.2.2.2.2.1, ← hy7.1, ← hy8, ← hy7.2, ← hy6.2]; exact w1_1); have hf : fst6 M (rf M0 x) (M0 600 x) (M 598 6) h = (if r1 = -1 ∨ M 614 r1 = -1 then 1 else 0) := (by unfold fst6; rw [← hg]); first | exact Or.inr ⟨rfl, fun u => by omega⟩ | exact Or.inl ⟨rfl, by omega, by rw [hf]; exact if_pos (by omega)⟩ | exact Or.inr ⟨rfl, fun u => by rw [hf, if_neg (by omega)] at u; omega⟩) (by omega)
theorem r_gather_L268_x {A : Nat → Option (Nat × (Nat → Int32))} {Q : Option Value → jm → Prop} {M0 : jm} {x0 : Int} (q : ∀ (r : Int) (M' : jm), RI M' → RH M' → RF M' → (-5) ≤ r ∧ r ≤ 23 → RG1 M' → GAR M0 M' x0 r → (∀ (a : Nat) (i : Int), a ≠ 598 → a ≠ 600 → a ≠ 601 → a ≠ 602 → a ≠ 603 → a ≠ 604 → a ≠ 605 → a ≠ 606 → a ≠ 607 → a ≠ 608 → a ≠ 609 → a ≠ 610 → a ≠ 611 → a ≠ 612 → a ≠ 613 → a ≠ 614 → a ≠ 615 → a ≠ 616 → a ≠ 617 → a ≠ 618 → a ≠ 619 → a ≠ 620 → a ≠ 621 → a ≠ 622 → M' a i = M0 a i) → (∀ (i : Int), i ≠ 6 → i ≠ 10 → i ≠ 11 → i ≠ 12 → i ≠ 34 → M' 598 i = M0 598 i) → Q (some (.int (Int32.ofInt r))) M') : ∀ (M : jm) (b : Int) (d : Int) (e : Int) (m : Int) (o : Int) (c : Int) (f : Int) (z : Int) (t : Int) (a : Int) (k : Int) (h : Int) (x : Int), RI M → RH M → RF M → (∀ (a : Nat) (i : Int), a ≠ 598 → a ≠ 600 → a ≠ 601 → a ≠ 602 → a ≠ 603 → a ≠ 604 → a ≠ 605 → a ≠ 606 → a ≠ 607 → a ≠ 608 → a ≠ 609 → a ≠ 610 → a ≠ 611 → a ≠ 612 → a ≠ 613 → a ≠ 614 → a ≠ 615 → a ≠ 616 → a ≠ 617 → a ≠ 618 → a ≠ 619 → a ≠ 620 → a ≠ 621 → a ≠ 622 → M a i = M0 a i) → (∀ (i : Int), i ≠ 6 → i ≠ 10 → i ≠ 11 → i ≠ 12 → i ≠ 34 → M 598 i = M0 598 i) → (-9223372036854775808) ≤ b ∧ b ≤ 9223372036854775807 → (-9223372036854775808) ≤ d ∧ d ≤ 9223372036854775807 → 0 ≤ e ∧ e ≤ 255 → 0 ≤ m ∧ m ≤ 1 → 0 ≤ o ∧ o ≤ 65528 → 0 ≤ c ∧ c ≤ 400 → 0 ≤ f ∧ f ≤ 400 → 0 ≤ z ∧ z ≤ 1 → 0 ≤ t ∧ t ≤ 11 → 0 ≤ a ∧ a ≤ 400 → 0 ≤ k ∧ k ≤ 11 → 0 ≤ h ∧ h ≤ 11 → 0 ≤ x ∧ x ≤ 23 → RG1 M → HK M x h t k a → ((z = 1 ∧ k = 2) ∨ (z = 0 ∧ k ≠ 2)) → f + c ≤ 400 → PX1 M0 M x h t k a → (o = ofs (rf M0 x) (M0 600 x) (M 598 6) h ∧ c = M0 600 x - enf (rf M0 x) (M0 600 x) (M 598 6) h ∧ f = enf (rf M0 x) (M0 600 x) (M 598 6) h) → GQ6 M → (m = mrf (rf M0 x) (M0 600 x) (M 598 6) h ∧ e = vA (rf M0 x) (M0 600 x) (M 598 6) h (if kA (rf M0 x) (M0 600 x) (M 598 6) h = 2 then 7 else 0)) → (b = adf (rf M0 x) (M0 600 x) (M 598 6) t 0 ∧ d = vA (rf M0 x) (M0 600 x) (M 598 6) h 3) → x = x0 → jr A 5 xm_292 268 [(14, .long (Int64.ofInt (b))), (12, .long (Int64.ofInt (d))), (11, .int (Int32.ofInt (e))), (10, .int (Int32.ofInt (m))), (9, .int (Int32.ofInt (o))), (8, .int (Int32.ofInt (c))), (7, .int (Int32.ofInt (f))), (6, .int (Int32.ofInt (z))), (5, .int (Int32.ofInt (t))), (4, .int (Int32.ofInt (a))), (3, .int (Int32.ofInt (k))), (2, .int (Int32.ofInt (h))), (1, .int (Int32.ofInt (x))), (0, .ref (598))] [] M Q := by
    intro M b d e m o c f z t a k h x hI_M hH_M hS_M hF_M hG_M h_b h_d h_e h_m h_o h_c h_f h_z h_t h_a h_k h_h h_x hy0 hy1 hy2 hy3 hy4 hy5 hy6 hy7 hy8 hy9
    subst hy9
    have hG1 := hy0
    have hk := hy1
    obtain ⟨k1, k2, k3, k4, k5⟩ := hy1
    refine jr.iload rfl rfl ?_
    refine jr.if_eq rfl rfl (by first | (refine rgb (by assumption) ?_; exact rfl) | omega) (fun h270 => ?_) (fun h270 => ?_)
    · refine jr.aload_n rfl rfl ?_
      refine jr.iload_n rfl rfl ?_
      refine jr.aload_n rfl rfl ?_
      refine jr.getf (i := 8) (v := .ref 604) rfl rfl (nlt rfl) rfl (nlt rfl) rfl rfl rfl rfl ?_
      refine jr.iload rfl rfl ?_
      obtain ⟨v1, e1⟩ : ∃ z, M 604 t = z := ⟨_, rfl⟩
      have b1 : 0 ≤ v1 ∧ v1 ≤ 400 := by rw [← e1]; exact (by have q := hI_M 604 t (Nat.le_of_ble_eq_true rfl); rw [xri_row rfl rfl] at q; exact q)
      refine jr.iald (i := t) (x := v1) rfl (nlt rfl) rfl (Nat.le_of_ble_eq_true rfl) (by omega) (by omega) e1 ?_
      refine jr.bipush rfl (jbp _ (nlt rfl)) ?_
      refine jr_v rfl rfl (Or.inl rfl) rfl rfl (nlt rfl) rfl ⟨rfl, Nat.le_of_ble_eq_true rfl, Nat.le_of_ble_eq_true rfl⟩ rfl (jc.deep (r_ofSix_x hI_M hH_M hS_M  (by omega) (by omega) (by omega)  (fun r2 z2 w2_0 => ?_)) (Nat.le_of_ble_eq_true rfl))
      refine jr.lstore (ls' := [_, _, _, _, _, _, _, _, _, _, _, _, _, _, _]) rfl (nlt rfl) rfl ?_
      refine jr.pick (ls := [_, _, _, _, _, _, _, _, _, _, _, _, _, _]) [0, 1, 2, 3, 4, 5, 6, 7, 9, 10, 11, 12, 13, 14] rfl rfl ?_
      exact r_gather_L301_x q M r2 b d e m o c f t a k h x hI_M hH_M hS_M  (fun a i f598 f600 f601 f602 f603 f604 f605 f606 f607 f608 f609 f610 f611 f612 f613 f614 f615 f616 f617 f618 f619 f620 f621 f622 => (hF_M a i f598 f600 f601 f602 f603 f604 f605 f606 f607 f608 f609 f610 f611 f612 f613 f614 f615 f616 f617 f618 f619 f620 f621 f622)) (fun i g6 g10 g11 g12 g34 => (hG_M i g6 g10 g11 g12 g34)) (by omega) (by omega) (by omega) (by omega) (by omega) (by omega) (by omega) (by omega) (by omega) (by omega) (by omega) (by omega) (by omega) hG1 hk (by omega) hy4 hy5 hy6 hy7 hy8 (hy4.a6 (s := 1) (by omega) rfl (by omega) (have hh := HT.f hy4.1 (hy4.c.2.resolve_left (fun u => by omega)).2.2; by omega) w2_0) (by omega)
    · have sx270 : (1 : Int) ≤ z := by omega
      clear h270
      refine jr.aload_n rfl rfl ?_
      refine jr.iload_n rfl rfl ?_
      refine jr.iload rfl rfl ?_
      refine jr.bipush rfl (jbp _ (nlt rfl)) ?_
      refine jr_v rfl rfl (Or.inl rfl) rfl rfl (nlt rfl) rfl ⟨rfl, Nat.le_of_ble_eq_true rfl, Nat.le_of_ble_eq_true rfl⟩ rfl (jc.deep (r_ofFour_x hI_M hH_M hS_M  (by omega) (by omega) (by omega)  (fun r3 z3 w3_0 => ?_)) (Nat.le_of_ble_eq_true rfl))
      refine jr.goto rfl rfl ?_
      refine jr.lstore (ls' := [_, _, _, _, _, _, _, _, _, _, _, _, _, _, _]) rfl (nlt rfl) rfl ?_
      refine jr.pick (ls := [_, _, _, _, _, _, _, _, _, _, _, _, _, _]) [0, 1, 2, 3, 4, 5, 6, 7, 9, 10, 11, 12, 13, 14] rfl rfl ?_
      exact r_gather_L301_x q M r3 b d e m o c f t a k h x hI_M hH_M hS_M  (fun a i f598 f600 f601 f602 f603 f604 f605 f606 f607 f608 f609 f610 f611 f612 f613 f614 f615 f616 f617 f618 f619 f620 f621 f622 => (hF_M a i f598 f600 f601 f602 f603 f604 f605 f606 f607 f608 f609 f610 f611 f612 f613 f614 f615 f616 f617 f618 f619 f620 f621 f622)) (fun i g6 g10 g11 g12 g34 => (hG_M i g6 g10 g11 g12 g34)) (by omega) (by omega) (by omega) (by omega) (by omega) (by omega) (by omega) (by omega) (by omega) (by omega) (by omega) (by omega) (by omega) hG1 hk (by omega) hy4 hy5 hy6 hy7 hy8 (hy4.a2 (s := 1) (by omega) rfl (by omega) w3_0) (by omega)
theorem r_gather_L207_x {A : Nat → Option (Nat × (Nat → Int32))} {Q : Option Value → jm → Prop} {M0 : jm} {x0 : Int} (q : ∀ (r : Int) (M' : jm), RI M' → RH M' → RF M' → (-5) ≤ r ∧ r ≤ 23 → RG1 M' → GAR M0 M' x0 r → (∀ (a : Nat) (i : Int), a ≠ 598 → a ≠ 600 → a ≠ 601 → a ≠ 602 → a ≠ 603 → a ≠ 604 → a ≠ 605 → a ≠ 606 → a ≠ 607 → a ≠ 608 → a ≠ 609 → a ≠ 610 → a ≠ 611 → a ≠ 612 → a ≠ 613 → a ≠ 614 → a ≠ 615 → a ≠ 616 → a ≠ 617 → a ≠ 618 → a ≠ 619 → a ≠ 620 → a ≠ 621 → a ≠ 622 → M' a i = M0 a i) → (∀ (i : Int), i ≠ 6 → i ≠ 10 → i ≠ 11 → i ≠ 12 → i ≠ 34 → M' 598 i = M0 598 i) → Q (some (.int (Int32.ofInt r))) M') : ∀ (M : jm) (e : Int) (m : Int) (o : Int) (c : Int) (f : Int) (z : Int) (t : Int) (a : Int) (k : Int) (h : Int) (x : Int), RI M → RH M → RF M → (∀ (a : Nat) (i : Int), a ≠ 598 → a ≠ 600 → a ≠ 601 → a ≠ 602 → a ≠ 603 → a ≠ 604 → a ≠ 605 → a ≠ 606 → a ≠ 607 → a ≠ 608 → a ≠ 609 → a ≠ 610 → a ≠ 611 → a ≠ 612 → a ≠ 613 → a ≠ 614 → a ≠ 615 → a ≠ 616 → a ≠ 617 → a ≠ 618 → a ≠ 619 → a ≠ 620 → a ≠ 621 → a ≠ 622 → M a i = M0 a i) → (∀ (i : Int), i ≠ 6 → i ≠ 10 → i ≠ 11 → i ≠ 12 → i ≠ 34 → M 598 i = M0 598 i) → 0 ≤ e ∧ e ≤ 255 → 0 ≤ m ∧ m ≤ 1 → 0 ≤ o ∧ o ≤ 65528 → 0 ≤ c ∧ c ≤ 400 → 0 ≤ f ∧ f ≤ 400 → 0 ≤ z ∧ z ≤ 1 → 0 ≤ t ∧ t ≤ 11 → 0 ≤ a ∧ a ≤ 400 → 0 ≤ k ∧ k ≤ 11 → 0 ≤ h ∧ h ≤ 11 → 0 ≤ x ∧ x ≤ 23 → RG1 M → HK M x h t k a → ((z = 1 ∧ k = 2) ∨ (z = 0 ∧ k ≠ 2)) → f + c ≤ 400 → PX1 M0 M x h t k a → (o = ofs (rf M0 x) (M0 600 x) (M 598 6) h ∧ c = M0 600 x - enf (rf M0 x) (M0 600 x) (M 598 6) h ∧ f = enf (rf M0 x) (M0 600 x) (M 598 6) h) → GQ6 M → (m = mrf (rf M0 x) (M0 600 x) (M 598 6) h ∧ e = vA (rf M0 x) (M0 600 x) (M 598 6) h (if kA (rf M0 x) (M0 600 x) (M 598 6) h = 2 then 7 else 0)) → x = x0 → jr A 5 xm_292 207 [(11, .int (Int32.ofInt (e))), (10, .int (Int32.ofInt (m))), (9, .int (Int32.ofInt (o))), (8, .int (Int32.ofInt (c))), (7, .int (Int32.ofInt (f))), (6, .int (Int32.ofInt (z))), (5, .int (Int32.ofInt (t))), (4, .int (Int32.ofInt (a))), (3, .int (Int32.ofInt (k))), (2, .int (Int32.ofInt (h))), (1, .int (Int32.ofInt (x))), (0, .ref (598))] [] M Q := by
    intro M e m o c f z t a k h x hI_M hH_M hS_M hF_M hG_M h_e h_m h_o h_c h_f h_z h_t h_a h_k h_h h_x hy0 hy1 hy2 hy3 hy4 hy5 hy6 hy7 hy8
    subst hy8
    have hG1 := hy0
    have hk := hy1
    obtain ⟨k1, k2, k3, k4, k5⟩ := hy1
    refine jr.iload rfl rfl ?_
    refine jr.if_eq rfl rfl (by first | (refine rgb (by assumption) ?_; exact rfl) | omega) (fun h209 => ?_) (fun h209 => ?_)
    · refine jr.aload_n rfl rfl ?_
      refine jr.iload_n rfl rfl ?_
      refine jr.iload rfl rfl ?_
      refine jr.iconst rfl ?_
      refine jr.iadd rfl ?_
      refine jr_v rfl rfl (Or.inl rfl) rfl rfl (nlt rfl) rfl ⟨rfl, Nat.le_of_ble_eq_true rfl, Nat.le_of_ble_eq_true rfl⟩ rfl (jc.deep (r_four_x hI_M hH_M hS_M  (by omega) (by omega)  (fun r1 z1 w1_0 => ?_)) (Nat.le_of_ble_eq_true rfl))
      refine jr.lstore (ls' := [_, _, _, _, _, _, _, _, _, _, _, _, _]) rfl (nlt rfl) rfl ?_
      refine jr.iload rfl rfl ?_
      refine jr.if_eq rfl rfl (by first | (refine rgb (by assumption) ?_; exact rfl) | omega) (fun h238 => ?_) (fun h238 => ?_)
      · refine jr.aload_n rfl rfl ?_
        refine jr.iload_n rfl rfl ?_
        refine jr.aload_n rfl rfl ?_
        refine jr.getf (i := 8) (v := .ref 604) rfl rfl (nlt rfl) rfl (nlt rfl) rfl rfl rfl rfl ?_
        refine jr.iload rfl rfl ?_
        obtain ⟨v2, e2⟩ : ∃ z, M 604 t = z := ⟨_, rfl⟩
        have b2 : 0 ≤ v2 ∧ v2 ≤ 400 := by rw [← e2]; exact (by have q := hI_M 604 t (Nat.le_of_ble_eq_true rfl); rw [xri_row rfl rfl] at q; exact q)
        refine jr.iald (i := t) (x := v2) rfl (nlt rfl) rfl (Nat.le_of_ble_eq_true rfl) (by omega) (by omega) e2 ?_
        refine jr.iconst rfl ?_
        refine jr_v rfl rfl (Or.inl rfl) rfl rfl (nlt rfl) rfl ⟨rfl, Nat.le_of_ble_eq_true rfl, Nat.le_of_ble_eq_true rfl⟩ rfl (jc.deep (r_ofSix_x hI_M hH_M hS_M  (by omega) (by omega) (by omega)  (fun r3 z3 w3_0 => ?_)) (Nat.le_of_ble_eq_true rfl))
        refine jr.lstore (ls' := [_, _, _, _, _, _, _, _, _, _, _, _, _, _]) rfl (nlt rfl) rfl ?_
        refine jr.pick (ls := [_, _, _, _, _, _, _, _, _, _, _, _, _, _]) [0, 1, 2, 3, 4, 5, 6, 7, 8, 9, 10, 11, 12, 13] rfl rfl ?_
        exact r_gather_L268_x q M r3 r1 e m o c f z t a k h x hI_M hH_M hS_M  (fun a i f598 f600 f601 f602 f603 f604 f605 f606 f607 f608 f609 f610 f611 f612 f613 f614 f615 f616 f617 f618 f619 f620 f621 f622 => (hF_M a i f598 f600 f601 f602 f603 f604 f605 f606 f607 f608 f609 f610 f611 f612 f613 f614 f615 f616 f617 f618 f619 f620 f621 f622)) (fun i g6 g10 g11 g12 g34 => (hG_M i g6 g10 g11 g12 g34)) (by omega) (by omega) (by omega) (by omega) (by omega) (by omega) (by omega) (by omega) (by omega) (by omega) (by omega) (by omega) (by omega) hG1 hk (by omega) (by omega) hy4 hy5 hy6 hy7 ⟨hy4.a6 (s := 0) (by omega) rfl (by omega) (have hh := HT.f hy4.1 (hy4.c.2.resolve_left (fun u => by omega)).2.2; by omega) w3_0, hy4.d6 (by omega) w1_0 (by omega)⟩ (by omega)
      · exact absurd (by omega) h238
    · have sx209 : (1 : Int) ≤ z := by omega
      clear h209
      refine jr.aload_n rfl rfl ?_
      refine jr.iload_n rfl rfl ?_
      refine jr.iload rfl rfl ?_
      refine jr.iconst rfl ?_
      refine jr.iadd rfl ?_
      refine jr_v rfl rfl (Or.inl rfl) rfl rfl (nlt rfl) rfl ⟨rfl, Nat.le_of_ble_eq_true rfl, Nat.le_of_ble_eq_true rfl⟩ rfl (jc.deep (r_two_x hI_M hH_M hS_M  (by omega) (by omega)  (fun r4 z4 w4_0 => ?_)) (Nat.le_of_ble_eq_true rfl))
      refine jr.i2l rfl (by omega) ?_
      refine jr.goto rfl rfl ?_
      refine jr.lstore (ls' := [_, _, _, _, _, _, _, _, _, _, _, _, _]) rfl (nlt rfl) rfl ?_
      refine jr.iload rfl rfl ?_
      refine jr.if_eq rfl rfl (by first | (refine rgb (by assumption) ?_; exact rfl) | omega) (fun h238 => ?_) (fun h238 => ?_)
      · exact absurd h238 (by omega)
      · refine jr.aload_n rfl rfl ?_
        refine jr.iload_n rfl rfl ?_
        refine jr.iload rfl rfl ?_
        refine jr.bipush rfl (jbp _ (nlt rfl)) ?_
        refine jr_v rfl rfl (Or.inl rfl) rfl rfl (nlt rfl) rfl ⟨rfl, Nat.le_of_ble_eq_true rfl, Nat.le_of_ble_eq_true rfl⟩ rfl (jc.deep (r_ofFour_x hI_M hH_M hS_M  (by omega) (by omega) (by omega)  (fun r5 z5 w5_0 => ?_)) (Nat.le_of_ble_eq_true rfl))
        refine jr.goto rfl rfl ?_
        refine jr.lstore (ls' := [_, _, _, _, _, _, _, _, _, _, _, _, _, _]) rfl (nlt rfl) rfl ?_
        refine jr.pick (ls := [_, _, _, _, _, _, _, _, _, _, _, _, _, _]) [0, 1, 2, 3, 4, 5, 6, 7, 8, 9, 10, 11, 12, 13] rfl rfl ?_
        exact r_gather_L268_x q M r5 r4 e m o c f z t a k h x hI_M hH_M hS_M  (fun a i f598 f600 f601 f602 f603 f604 f605 f606 f607 f608 f609 f610 f611 f612 f613 f614 f615 f616 f617 f618 f619 f620 f621 f622 => (hF_M a i f598 f600 f601 f602 f603 f604 f605 f606 f607 f608 f609 f610 f611 f612 f613 f614 f615 f616 f617 f618 f619 f620 f621 f622)) (fun i g6 g10 g11 g12 g34 => (hG_M i g6 g10 g11 g12 g34)) (by omega) (by omega) (by omega) (by omega) (by omega) (by omega) (by omega) (by omega) (by omega) (by omega) (by omega) (by omega) (by omega) hG1 hk (by omega) (by omega) hy4 hy5 hy6 hy7 ⟨hy4.a2 (s := 0) (by omega) rfl (by omega) w5_0, hy4.d2 (by omega) w4_0 (by omega)⟩ (by omega)
theorem r_gather_L130_x {A : Nat → Option (Nat × (Nat → Int32))} {Q : Option Value → jm → Prop} {M0 : jm} {x0 : Int} (q : ∀ (r : Int) (M' : jm), RI M' → RH M' → RF M' → (-5) ≤ r ∧ r ≤ 23 → RG1 M' → GAR M0 M' x0 r → (∀ (a : Nat) (i : Int), a ≠ 598 → a ≠ 600 → a ≠ 601 → a ≠ 602 → a ≠ 603 → a ≠ 604 → a ≠ 605 → a ≠ 606 → a ≠ 607 → a ≠ 608 → a ≠ 609 → a ≠ 610 → a ≠ 611 → a ≠ 612 → a ≠ 613 → a ≠ 614 → a ≠ 615 → a ≠ 616 → a ≠ 617 → a ≠ 618 → a ≠ 619 → a ≠ 620 → a ≠ 621 → a ≠ 622 → M' a i = M0 a i) → (∀ (i : Int), i ≠ 6 → i ≠ 10 → i ≠ 11 → i ≠ 12 → i ≠ 34 → M' 598 i = M0 598 i) → Q (some (.int (Int32.ofInt r))) M') : ∀ (M : jm) (o : Int) (c : Int) (f : Int) (z : Int) (t : Int) (a : Int) (k : Int) (h : Int) (x : Int), RI M → RH M → RF M → (∀ (a : Nat) (i : Int), a ≠ 598 → a ≠ 600 → a ≠ 601 → a ≠ 602 → a ≠ 603 → a ≠ 604 → a ≠ 605 → a ≠ 606 → a ≠ 607 → a ≠ 608 → a ≠ 609 → a ≠ 610 → a ≠ 611 → a ≠ 612 → a ≠ 613 → a ≠ 614 → a ≠ 615 → a ≠ 616 → a ≠ 617 → a ≠ 618 → a ≠ 619 → a ≠ 620 → a ≠ 621 → a ≠ 622 → M a i = M0 a i) → (∀ (i : Int), i ≠ 6 → i ≠ 10 → i ≠ 11 → i ≠ 12 → i ≠ 34 → M 598 i = M0 598 i) → 0 ≤ o ∧ o ≤ 65528 → 0 ≤ c ∧ c ≤ 400 → 0 ≤ f ∧ f ≤ 400 → 0 ≤ z ∧ z ≤ 1 → 0 ≤ t ∧ t ≤ 11 → 0 ≤ a ∧ a ≤ 400 → 0 ≤ k ∧ k ≤ 11 → 0 ≤ h ∧ h ≤ 11 → 0 ≤ x ∧ x ≤ 23 → RG1 M → HK M x h t k a → ((z = 1 ∧ k = 2) ∨ (z = 0 ∧ k ≠ 2)) → f + c ≤ 400 → PX1 M0 M x h t k a → (o = ofs (rf M0 x) (M0 600 x) (M 598 6) h ∧ c = M0 600 x - enf (rf M0 x) (M0 600 x) (M 598 6) h ∧ f = enf (rf M0 x) (M0 600 x) (M 598 6) h) → GQ6 M → x = x0 → jr A 5 xm_292 130 [(9, .int (Int32.ofInt (o))), (8, .int (Int32.ofInt (c))), (7, .int (Int32.ofInt (f))), (6, .int (Int32.ofInt (z))), (5, .int (Int32.ofInt (t))), (4, .int (Int32.ofInt (a))), (3, .int (Int32.ofInt (k))), (2, .int (Int32.ofInt (h))), (1, .int (Int32.ofInt (x))), (0, .ref (598))] [] M Q := by
    intro M o c f z t a k h x hI_M hH_M hS_M hF_M hG_M h_o h_c h_f h_z h_t h_a h_k h_h h_x hy0 hy1 hy2 hy3 hy4 hy5 hy6 hy7
    subst hy7
    have hG1 := hy0
    have hk := hy1
    obtain ⟨k1, k2, k3, k4, k5⟩ := hy1
    refine jr.iload rfl rfl ?_
    refine jr.if_eq rfl rfl (by first | (refine rgb (by assumption) ?_; exact rfl) | omega) (fun h132 => ?_) (fun h132 => ?_)
    · refine jr.aload_n rfl rfl ?_
      refine jr.iload_n rfl rfl ?_
      refine jr.iload rfl rfl ?_
      refine jr.iconst rfl ?_
      refine jr.iadd rfl ?_
      refine jr_v rfl rfl (Or.inl rfl) rfl rfl (nlt rfl) rfl ⟨rfl, Nat.le_of_ble_eq_true rfl, Nat.le_of_ble_eq_true rfl⟩ rfl (jc.deep (r_two_x hI_M hH_M hS_M  (by omega) (by omega)  (fun r1 z1 w1_0 => ?_)) (Nat.le_of_ble_eq_true rfl))
      refine jr.iconst rfl ?_
      refine jr.iand rfl ?_
      have b2 : j_and r1 1 = r1 % 2 := j_and_m 1 (by decide) _
      generalize j_and r1 1 = v2 at b2 ⊢
      refine jr.iconst rfl ?_
      refine jr.icmp_ne rfl rfl (by first | (refine rgb (by assumption) ?_; exact rfl) | omega) (rgl rfl) (fun h170 => ?_) (fun h170 => ?_)
      · refine jr.iconst rfl ?_
        refine jr.istore (ls' := [_, _, _, _, _, _, _, _, _, _, _]) rfl (nlt rfl) rfl ?_
        refine jr.iload rfl rfl ?_
        refine jr.if_eq rfl rfl (by first | (refine rgb (by assumption) ?_; exact rfl) | omega) (fun h182 => ?_) (fun h182 => ?_)
        · refine jr.aload_n rfl rfl ?_
          refine jr.iload_n rfl rfl ?_
          refine jr.iload rfl rfl ?_
          refine jr_v rfl rfl (Or.inl rfl) rfl rfl (nlt rfl) rfl ⟨rfl, Nat.le_of_ble_eq_true rfl, Nat.le_of_ble_eq_true rfl⟩ rfl (jc.deep (r_one hI_M hH_M hS_M (Kp.rfl _) (by omega) (by omega)  (fun r3 z3 w3_0 => ?_)) (Nat.le_of_ble_eq_true rfl))
          refine jr.istore (ls' := [_, _, _, _, _, _, _, _, _, _, _, _]) rfl (nlt rfl) rfl ?_
          refine jr.pick (ls := [_, _, _, _, _, _, _, _, _, _, _, _]) [0, 1, 2, 3, 4, 5, 6, 7, 8, 9, 10, 11] rfl rfl ?_
          exact r_gather_L207_x q M r3 0 o c f z t a k h x hI_M hH_M hS_M  (fun a i f598 f600 f601 f602 f603 f604 f605 f606 f607 f608 f609 f610 f611 f612 f613 f614 f615 f616 f617 f618 f619 f620 f621 f622 => (hF_M a i f598 f600 f601 f602 f603 f604 f605 f606 f607 f608 f609 f610 f611 f612 f613 f614 f615 f616 f617 f618 f619 f620 f621 f622)) (fun i g6 g10 g11 g12 g34 => (hG_M i g6 g10 g11 g12 g34)) (by omega) (by omega) (by omega) (by omega) (by omega) (by omega) (by omega) (by omega) (by omega) (by omega) (by omega) hG1 hk (by omega) (by omega) hy4 hy5 hy6 ⟨by have h9 := hy4.m6 (by omega) w1_0 (by omega); omega, hy4.e6 (by omega) w3_0 (by omega)⟩ (by omega)
        · exact absurd (by omega) h182
      · refine jr.iconst rfl ?_
        refine jr.goto rfl rfl ?_
        refine jr.istore (ls' := [_, _, _, _, _, _, _, _, _, _, _]) rfl (nlt rfl) rfl ?_
        refine jr.iload rfl rfl ?_
        refine jr.if_eq rfl rfl (by first | (refine rgb (by assumption) ?_; exact rfl) | omega) (fun h182 => ?_) (fun h182 => ?_)
        · refine jr.aload_n rfl rfl ?_
          refine jr.iload_n rfl rfl ?_
          refine jr.iload rfl rfl ?_
          refine jr_v rfl rfl (Or.inl rfl) rfl rfl (nlt rfl) rfl ⟨rfl, Nat.le_of_ble_eq_true rfl, Nat.le_of_ble_eq_true rfl⟩ rfl (jc.deep (r_one hI_M hH_M hS_M (Kp.rfl _) (by omega) (by omega)  (fun r4 z4 w4_0 => ?_)) (Nat.le_of_ble_eq_true rfl))
          refine jr.istore (ls' := [_, _, _, _, _, _, _, _, _, _, _, _]) rfl (nlt rfl) rfl ?_
          refine jr.pick (ls := [_, _, _, _, _, _, _, _, _, _, _, _]) [0, 1, 2, 3, 4, 5, 6, 7, 8, 9, 10, 11] rfl rfl ?_
          exact r_gather_L207_x q M r4 1 o c f z t a k h x hI_M hH_M hS_M  (fun a i f598 f600 f601 f602 f603 f604 f605 f606 f607 f608 f609 f610 f611 f612 f613 f614 f615 f616 f617 f618 f619 f620 f621 f622 => (hF_M a i f598 f600 f601 f602 f603 f604 f605 f606 f607 f608 f609 f610 f611 f612 f613 f614 f615 f616 f617 f618 f619 f620 f621 f622)) (fun i g6 g10 g11 g12 g34 => (hG_M i g6 g10 g11 g12 g34)) (by omega) (by omega) (by omega) (by omega) (by omega) (by omega) (by omega) (by omega) (by omega) (by omega) (by omega) hG1 hk (by omega) (by omega) hy4 hy5 hy6 ⟨by have h9 := hy4.m6 (by omega) w1_0 (by omega); omega, hy4.e6 (by omega) w4_0 (by omega)⟩ (by omega)
        · exact absurd (by omega) h182
    · refine jr.aload_n rfl rfl ?_
      refine jr.iload_n rfl rfl ?_
      refine jr.iload rfl rfl ?_
      refine jr.iconst rfl ?_
      refine jr_v rfl rfl (Or.inl rfl) rfl rfl (nlt rfl) rfl ⟨rfl, Nat.le_of_ble_eq_true rfl, Nat.le_of_ble_eq_true rfl⟩ rfl (jc.deep (r_ofFour_x hI_M hH_M hS_M  (by omega) (by omega) (by omega)  (fun r5 z5 w5_0 => ?_)) (Nat.le_of_ble_eq_true rfl))
      refine jr.lconst (x := 1) rfl (by decide) ?_
      refine jr.land rfl ?_
      have b6 : jl_and r5 1 = r5 % 2 ∧ 0 ≤ jl_and r5 1 ∧ jl_and r5 1 ≤ 1 := ⟨jl_and_1 _, by rw [jl_and_1]; omega⟩
      generalize jl_and r5 1 = v6 at b6 ⊢
      refine jr.lconst (x := 1) rfl (by decide) ?_
      refine jr.lcmp_ne rfl rfl rfl (by omega) (by omega) (fun h146 => ?_) (fun h146 => ?_)
      · refine jr.iconst rfl ?_
        refine jr.goto rfl rfl ?_
        refine jr.istore (ls' := [_, _, _, _, _, _, _, _, _, _, _]) rfl (nlt rfl) rfl ?_
        refine jr.iload rfl rfl ?_
        refine jr.if_eq rfl rfl (by first | (refine rgb (by assumption) ?_; exact rfl) | omega) (fun h182 => ?_) (fun h182 => ?_)
        · exact absurd h182 (by omega)
        · refine jr.aload_n rfl rfl ?_
          refine jr.iload_n rfl rfl ?_
          refine jr.iload rfl rfl ?_
          refine jr.bipush rfl (jbp _ (nlt rfl)) ?_
          refine jr.iadd rfl ?_
          refine jr_v rfl rfl (Or.inl rfl) rfl rfl (nlt rfl) rfl ⟨rfl, Nat.le_of_ble_eq_true rfl, Nat.le_of_ble_eq_true rfl⟩ rfl (jc.deep (r_one hI_M hH_M hS_M (Kp.rfl _) (by omega) (by omega)  (fun r7 z7 w7_0 => ?_)) (Nat.le_of_ble_eq_true rfl))
          refine jr.goto rfl rfl ?_
          refine jr.istore (ls' := [_, _, _, _, _, _, _, _, _, _, _, _]) rfl (nlt rfl) rfl ?_
          refine jr.pick (ls := [_, _, _, _, _, _, _, _, _, _, _, _]) [0, 1, 2, 3, 4, 5, 6, 7, 8, 9, 10, 11] rfl rfl ?_
          exact r_gather_L207_x q M r7 0 o c f z t a k h x hI_M hH_M hS_M  (fun a i f598 f600 f601 f602 f603 f604 f605 f606 f607 f608 f609 f610 f611 f612 f613 f614 f615 f616 f617 f618 f619 f620 f621 f622 => (hF_M a i f598 f600 f601 f602 f603 f604 f605 f606 f607 f608 f609 f610 f611 f612 f613 f614 f615 f616 f617 f618 f619 f620 f621 f622)) (fun i g6 g10 g11 g12 g34 => (hG_M i g6 g10 g11 g12 g34)) (by omega) (by omega) (by omega) (by omega) (by omega) (by omega) (by omega) (by omega) (by omega) (by omega) (by omega) hG1 hk (by omega) (by omega) hy4 hy5 hy6 ⟨by have h9 := hy4.m2 (by omega) w5_0; omega, hy4.e2 (by omega) w7_0 (by omega)⟩ (by omega)
      · refine jr.iconst rfl ?_
        refine jr.goto rfl rfl ?_
        refine jr.istore (ls' := [_, _, _, _, _, _, _, _, _, _, _]) rfl (nlt rfl) rfl ?_
        refine jr.iload rfl rfl ?_
        refine jr.if_eq rfl rfl (by first | (refine rgb (by assumption) ?_; exact rfl) | omega) (fun h182 => ?_) (fun h182 => ?_)
        · exact absurd h182 (by omega)
        · refine jr.aload_n rfl rfl ?_
          refine jr.iload_n rfl rfl ?_
          refine jr.iload rfl rfl ?_
          refine jr.bipush rfl (jbp _ (nlt rfl)) ?_
          refine jr.iadd rfl ?_
          refine jr_v rfl rfl (Or.inl rfl) rfl rfl (nlt rfl) rfl ⟨rfl, Nat.le_of_ble_eq_true rfl, Nat.le_of_ble_eq_true rfl⟩ rfl (jc.deep (r_one hI_M hH_M hS_M (Kp.rfl _) (by omega) (by omega)  (fun r8 z8 w8_0 => ?_)) (Nat.le_of_ble_eq_true rfl))
          refine jr.goto rfl rfl ?_
          refine jr.istore (ls' := [_, _, _, _, _, _, _, _, _, _, _, _]) rfl (nlt rfl) rfl ?_
          refine jr.pick (ls := [_, _, _, _, _, _, _, _, _, _, _, _]) [0, 1, 2, 3, 4, 5, 6, 7, 8, 9, 10, 11] rfl rfl ?_
          exact r_gather_L207_x q M r8 1 o c f z t a k h x hI_M hH_M hS_M  (fun a i f598 f600 f601 f602 f603 f604 f605 f606 f607 f608 f609 f610 f611 f612 f613 f614 f615 f616 f617 f618 f619 f620 f621 f622 => (hF_M a i f598 f600 f601 f602 f603 f604 f605 f606 f607 f608 f609 f610 f611 f612 f613 f614 f615 f616 f617 f618 f619 f620 f621 f622)) (fun i g6 g10 g11 g12 g34 => (hG_M i g6 g10 g11 g12 g34)) (by omega) (by omega) (by omega) (by omega) (by omega) (by omega) (by omega) (by omega) (by omega) (by omega) (by omega) hG1 hk (by omega) (by omega) hy4 hy5 hy6 ⟨by have h9 := hy4.m2 (by omega) w5_0; omega, hy4.e2 (by omega) w8_0 (by omega)⟩ (by omega)
theorem r_gather_L62_x {A : Nat → Option (Nat × (Nat → Int32))} {Q : Option Value → jm → Prop} {M0 : jm} {x0 : Int} (q : ∀ (r : Int) (M' : jm), RI M' → RH M' → RF M' → (-5) ≤ r ∧ r ≤ 23 → RG1 M' → GAR M0 M' x0 r → (∀ (a : Nat) (i : Int), a ≠ 598 → a ≠ 600 → a ≠ 601 → a ≠ 602 → a ≠ 603 → a ≠ 604 → a ≠ 605 → a ≠ 606 → a ≠ 607 → a ≠ 608 → a ≠ 609 → a ≠ 610 → a ≠ 611 → a ≠ 612 → a ≠ 613 → a ≠ 614 → a ≠ 615 → a ≠ 616 → a ≠ 617 → a ≠ 618 → a ≠ 619 → a ≠ 620 → a ≠ 621 → a ≠ 622 → M' a i = M0 a i) → (∀ (i : Int), i ≠ 6 → i ≠ 10 → i ≠ 11 → i ≠ 12 → i ≠ 34 → M' 598 i = M0 598 i) → Q (some (.int (Int32.ofInt r))) M') : ∀ (M : jm) (t : Int) (a : Int) (k : Int) (h : Int) (x : Int), RI M → RH M → RF M → (∀ (a : Nat) (i : Int), a ≠ 598 → a ≠ 600 → a ≠ 601 → a ≠ 602 → a ≠ 603 → a ≠ 604 → a ≠ 605 → a ≠ 606 → a ≠ 607 → a ≠ 608 → a ≠ 609 → a ≠ 610 → a ≠ 611 → a ≠ 612 → a ≠ 613 → a ≠ 614 → a ≠ 615 → a ≠ 616 → a ≠ 617 → a ≠ 618 → a ≠ 619 → a ≠ 620 → a ≠ 621 → a ≠ 622 → M a i = M0 a i) → (∀ (i : Int), i ≠ 6 → i ≠ 10 → i ≠ 11 → i ≠ 12 → i ≠ 34 → M 598 i = M0 598 i) → 0 ≤ t ∧ t ≤ 11 → 0 ≤ a ∧ a ≤ 400 → 0 ≤ k ∧ k ≤ 11 → 0 ≤ h ∧ h ≤ 11 → 0 ≤ x ∧ x ≤ 23 → RG1 M → HK M x h t k a → 0 ≤ M 600 x ∧ M 600 x ≤ 400 → PX1 M0 M x h t k a → GQ6 M → x = x0 → jr A 5 xm_292 62 [(5, .int (Int32.ofInt (t))), (4, .int (Int32.ofInt (a))), (3, .int (Int32.ofInt (k))), (2, .int (Int32.ofInt (h))), (1, .int (Int32.ofInt (x))), (0, .ref (598))] [] M Q := by
    intro M t a k h x hI_M hH_M hS_M hF_M hG_M h_t h_a h_k h_h h_x hy0 hy1 hy2 hy3 hy4 hy5
    subst hy5
    have hG1 := hy0
    have hk := hy1
    obtain ⟨k1, k2, k3, k4, k5⟩ := hy1
    refine jr.iload_n rfl rfl ?_
    refine jr.iconst rfl ?_
    refine jr.icmp_ne rfl rfl (by first | (refine rgb (by assumption) ?_; exact rfl) | omega) (rgl rfl) (fun h64 => ?_) (fun h64 => ?_)
    · refine jr.iconst rfl ?_
      refine jr.istore (ls' := [_, _, _, _, _, _, _]) rfl (nlt rfl) rfl ?_
      refine jr.iload rfl rfl ?_
      refine jr.aload_n rfl rfl ?_
      refine jr.getf (i := 9) (v := .ref 605) rfl rfl (nlt rfl) rfl (nlt rfl) rfl rfl rfl rfl ?_
      refine jr.iload_n rfl rfl ?_
      obtain ⟨v1, e1⟩ : ∃ z, M 605 h = z := ⟨_, rfl⟩
      have b1 : 0 ≤ v1 ∧ v1 ≤ 400 := by rw [← e1]; exact (by have q := hI_M 605 h (Nat.le_of_ble_eq_true rfl); rw [xri_row rfl rfl] at q; exact q)
      refine jr.iald (i := h) (x := v1) rfl (nlt rfl) rfl (Nat.le_of_ble_eq_true rfl) (by omega) (by omega) e1 ?_
      refine jr.iadd rfl ?_
      refine jr.istore (ls' := [_, _, _, _, _, _, _, _]) rfl (nlt rfl) rfl ?_
      refine jr.aload_n rfl rfl ?_
      refine jr.getf (i := 3) (v := .ref 600) rfl rfl (nlt rfl) rfl (nlt rfl) rfl rfl rfl rfl ?_
      refine jr.iload_n rfl rfl ?_
      obtain ⟨v2, e2⟩ : ∃ z, M 600 x = z := ⟨_, rfl⟩
      have b2 : (-1) ≤ v2 ∧ v2 ≤ 400 := by rw [← e2]; exact (by have q := hI_M 600 x (Nat.le_of_ble_eq_true rfl); rw [xri_row rfl rfl] at q; exact q)
      refine jr.iald (i := x) (x := v2) rfl (nlt rfl) rfl (Nat.le_of_ble_eq_true rfl) (by omega) (by omega) e2 ?_
      refine jr.iload rfl rfl ?_
      refine jr.isub rfl ?_
      refine jr.istore (ls' := [_, _, _, _, _, _, _, _, _]) rfl (nlt rfl) rfl ?_
      refine jr.bipush rfl (jbp _ (nlt rfl)) ?_
      refine jr.iload rfl rfl ?_
      refine jr.if_eq rfl rfl (by first | exact rgl rfl | omega) (fun _ => ?_) (fun h => absurd (by decide) h)
      refine jr.aload_n rfl rfl ?_
      refine jr.iload_n rfl rfl ?_
      refine jr.iload rfl rfl ?_
      refine jr.iconst rfl ?_
      refine jr.iadd rfl ?_
      refine jr_v rfl rfl (Or.inl rfl) rfl rfl (nlt rfl) rfl ⟨rfl, Nat.le_of_ble_eq_true rfl, Nat.le_of_ble_eq_true rfl⟩ rfl (jc.deep (r_two_x hI_M hH_M hS_M  (by omega) (by omega)  (fun r3 z3 w3_0 => ?_)) (Nat.le_of_ble_eq_true rfl))
      refine jr.iconst rfl ?_
      refine jr.ishr rfl ?_
      have b4 : j_shr r3 3 = r3 / 8 := j_shr_ex 3 (by decide) (by omega) (by omega)
      generalize j_shr r3 3 = v4 at b4 ⊢
      refine jr.i2l rfl (by omega) ?_
      refine jr.l2i rfl ?_
      refine jr.imul rfl ?_
      refine jr.istore (ls' := [_, _, _, _, _, _, _, _, _, _]) rfl (nlt rfl) rfl ?_
      refine jr.pick (ls := [_, _, _, _, _, _, _, _, _, _]) [0, 1, 2, 3, 4, 5, 6, 7, 8, 9] rfl rfl ?_
      exact r_gather_L130_x q M (8 * v4) (v2 - (a + v1)) (a + v1) 0 t a k h x hI_M hH_M hS_M  (fun a i f598 f600 f601 f602 f603 f604 f605 f606 f607 f608 f609 f610 f611 f612 f613 f614 f615 f616 f617 f618 f619 f620 f621 f622 => (hF_M a i f598 f600 f601 f602 f603 f604 f605 f606 f607 f608 f609 f610 f611 f612 f613 f614 f615 f616 f617 f618 f619 f620 f621 f622)) (fun i g6 g10 g11 g12 g34 => (hG_M i g6 g10 g11 g12 g34)) (by omega) (by omega) (by omega) (by omega) (by omega) (by omega) (by omega) (by omega) (by omega) hG1 hk (by omega) (by omega) hy3 (by have hh := HT.f hy3.1 hy3.c.1; have he := enf_i (f := rf M0 x) (N := M0 600 x) hy3.c.1; have h6 : M 600 x = M0 600 x := hy3.2.2.2.2.2.2.2.2.1 600 x (by decide) (by decide) (by decide) (by decide); have ha := hy3.2.2.2.2.2.1; exact ⟨(hy3.o6 (by omega) w3_0 (by omega) (by omega)), by omega, by omega⟩) hy4 (by omega)
    · refine jr.iconst rfl ?_
      refine jr.goto rfl rfl ?_
      refine jr.istore (ls' := [_, _, _, _, _, _, _]) rfl (nlt rfl) rfl ?_
      refine jr.iload rfl rfl ?_
      refine jr.aload_n rfl rfl ?_
      refine jr.getf (i := 9) (v := .ref 605) rfl rfl (nlt rfl) rfl (nlt rfl) rfl rfl rfl rfl ?_
      refine jr.iload_n rfl rfl ?_
      obtain ⟨v5, e5⟩ : ∃ z, M 605 h = z := ⟨_, rfl⟩
      have b5 : 0 ≤ v5 ∧ v5 ≤ 400 := by rw [← e5]; exact (by have q := hI_M 605 h (Nat.le_of_ble_eq_true rfl); rw [xri_row rfl rfl] at q; exact q)
      refine jr.iald (i := h) (x := v5) rfl (nlt rfl) rfl (Nat.le_of_ble_eq_true rfl) (by omega) (by omega) e5 ?_
      refine jr.iadd rfl ?_
      refine jr.istore (ls' := [_, _, _, _, _, _, _, _]) rfl (nlt rfl) rfl ?_
      refine jr.aload_n rfl rfl ?_
      refine jr.getf (i := 3) (v := .ref 600) rfl rfl (nlt rfl) rfl (nlt rfl) rfl rfl rfl rfl ?_
      refine jr.iload_n rfl rfl ?_
      obtain ⟨v6, e6⟩ : ∃ z, M 600 x = z := ⟨_, rfl⟩
      have b6 : (-1) ≤ v6 ∧ v6 ≤ 400 := by rw [← e6]; exact (by have q := hI_M 600 x (Nat.le_of_ble_eq_true rfl); rw [xri_row rfl rfl] at q; exact q)
      refine jr.iald (i := x) (x := v6) rfl (nlt rfl) rfl (Nat.le_of_ble_eq_true rfl) (by omega) (by omega) e6 ?_
      refine jr.iload rfl rfl ?_
      refine jr.isub rfl ?_
      refine jr.istore (ls' := [_, _, _, _, _, _, _, _, _]) rfl (nlt rfl) rfl ?_
      refine jr.bipush rfl (jbp _ (nlt rfl)) ?_
      refine jr.iload rfl rfl ?_
      refine jr.if_eq rfl rfl (by first | exact rgl rfl | omega) (fun h => absurd h (by decide)) (fun _ => ?_)
      refine jr.aload_n rfl rfl ?_
      refine jr.iload_n rfl rfl ?_
      refine jr.iload rfl rfl ?_
      refine jr.iconst rfl ?_
      refine jr_v rfl rfl (Or.inl rfl) rfl rfl (nlt rfl) rfl ⟨rfl, Nat.le_of_ble_eq_true rfl, Nat.le_of_ble_eq_true rfl⟩ rfl (jc.deep (r_ofFour_x hI_M hH_M hS_M  (by omega) (by omega) (by omega)  (fun r7 z7 w7_0 => ?_)) (Nat.le_of_ble_eq_true rfl))
      have hv5 : 0 ≤ r7 ∧ r7 ≤ 8191 := (by have h9 := w7_0 0; rw [vof_2_5] at h9; omega)
      refine jr.goto rfl rfl ?_
      refine jr.l2i rfl ?_
      refine jr.imul rfl ?_
      refine jr.istore (ls' := [_, _, _, _, _, _, _, _, _, _]) rfl (nlt rfl) rfl ?_
      refine jr.pick (ls := [_, _, _, _, _, _, _, _, _, _]) [0, 1, 2, 3, 4, 5, 6, 7, 8, 9] rfl rfl ?_
      exact r_gather_L130_x q M (8 * r7) (v6 - (a + v5)) (a + v5) 1 t a k h x hI_M hH_M hS_M  (fun a i f598 f600 f601 f602 f603 f604 f605 f606 f607 f608 f609 f610 f611 f612 f613 f614 f615 f616 f617 f618 f619 f620 f621 f622 => (hF_M a i f598 f600 f601 f602 f603 f604 f605 f606 f607 f608 f609 f610 f611 f612 f613 f614 f615 f616 f617 f618 f619 f620 f621 f622)) (fun i g6 g10 g11 g12 g34 => (hG_M i g6 g10 g11 g12 g34)) (by omega) (by omega) (by omega) (by omega) (by omega) (by omega) (by omega) (by omega) (by omega) hG1 hk (by omega) (by omega) hy3 (by have hh := HT.f hy3.1 hy3.c.1; have he := enf_i (f := rf M0 x) (N := M0 600 x) hy3.c.1; have h6 : M 600 x = M0 600 x := hy3.2.2.2.2.2.2.2.2.1 600 x (by decide) (by decide) (by decide) (by decide); have ha := hy3.2.2.2.2.2.1; exact ⟨(hy3.o2 (by omega) w7_0), by omega, by omega⟩) hy4 (by omega)
theorem r_gather_x {A : Nat → Option (Nat × (Nat → Int32))} {Q : Option Value → jm → Prop} {M : jm} (hI_M : RI M) (hH_M : RH M) (hS_M : RF M) {x : Int} (h_x : (-2147483648) ≤ x ∧ x ≤ 2147483647) (p0 : RG1 M) (p1 : GQ6 M) (q : ∀ (r : Int) (M' : jm), RI M' → RH M' → RF M' → (-5) ≤ r ∧ r ≤ 23 → RG1 M' → GAR M M' x r → (∀ (a : Nat) (i : Int), a ≠ 598 → a ≠ 600 → a ≠ 601 → a ≠ 602 → a ≠ 603 → a ≠ 604 → a ≠ 605 → a ≠ 606 → a ≠ 607 → a ≠ 608 → a ≠ 609 → a ≠ 610 → a ≠ 611 → a ≠ 612 → a ≠ 613 → a ≠ 614 → a ≠ 615 → a ≠ 616 → a ≠ 617 → a ≠ 618 → a ≠ 619 → a ≠ 620 → a ≠ 621 → a ≠ 622 → M' a i = M a i) → (∀ (i : Int), i ≠ 6 → i ≠ 10 → i ≠ 11 → i ≠ 12 → i ≠ 34 → M' 598 i = M 598 i) → Q (some (.int (Int32.ofInt r))) M') : jc A 6 292 [.ref (598), .int (Int32.ofInt (x))] M Q := by
  have hG1 := p0
  refine jc_of (m := xm_292) rfl (Nat.le_of_ble_eq_true rfl) rfl ?_
  refine jr.aload_n rfl rfl ?_
  refine jr.iload_n rfl rfl ?_
  refine jr_v rfl rfl (Or.inl rfl) rfl rfl (nlt rfl) rfl ⟨rfl, Nat.le_of_ble_eq_true rfl, Nat.le_of_ble_eq_true rfl⟩ rfl (jc.deep (c_isThere hI_M (by omega) (fun l2 u2 t2 => ?_) (fun n2 => ?_)) (Nat.le_of_ble_eq_true rfl))
  · refine jr.if_ne rfl rfl (by first | exact rgl rfl | omega) (fun _ => ?_) (fun h => absurd (by decide) h)
    refine jr.aload_n rfl rfl ?_
    refine jr.iload_n rfl rfl ?_
    obtain ⟨v2, e2⟩ : ∃ z, M 600 x = z := ⟨_, rfl⟩
    have b2 : (-1) ≤ v2 ∧ v2 ≤ 400 := by rw [← e2]; exact (by have q := hI_M 600 x (Nat.le_of_ble_eq_true rfl); rw [xri_row rfl rfl] at q; exact q)
    refine jr_v rfl rfl (Or.inl rfl) rfl rfl (nlt rfl) rfl ⟨rfl, Nat.le_of_ble_eq_true rfl, Nat.le_of_ble_eq_true rfl⟩ rfl (jc.deep (r_look_x hI_M hH_M hS_M  (by omega) (by rw [e2]; omega) (fun M1 hI_M1 hH_M1 hS_M1  w1_0 w1_1 w1_2 w1_3 => ?_)) (Nat.le_of_ble_eq_true rfl))
    refine jr.aload_n rfl rfl ?_
    obtain ⟨v3, e3⟩ : ∃ z, M1 598 10 = z := ⟨_, rfl⟩
    have b3 : 0 ≤ v3 ∧ v3 ≤ 6 := by rw [← e3]; exact hI_M1 598 10 (Nat.le_of_ble_eq_true rfl)
    refine jr.getf (i := 10) (x := v3) (v := .int (Int32.ofInt (v3))) rfl rfl (nlt rfl) rfl (nlt rfl) rfl rfl e3 rfl ?_
    refine jr.if_eq rfl rfl (by first | (refine rgb (by assumption) ?_; exact rfl) | omega) (fun h20 => ?_) (fun h20 => ?_)
    · refine jr.aload_n rfl rfl ?_
      refine jr.iload_n rfl rfl ?_
      refine jr_v rfl rfl (Or.inl rfl) rfl rfl (nlt rfl) rfl ⟨rfl, Nat.le_of_ble_eq_true rfl, Nat.le_of_ble_eq_true rfl⟩ rfl (jc.deep (r_piece_x hI_M1 hH_M1 hS_M1  (by omega) (HQ6.t w1_1 (by have hq := hI_M 600 x (Nat.le_of_ble_eq_true rfl); rw [xri_row rfl rfl] at hq; omega) (fun i h0 h1 => rf_r hI_M x i)) (rf_e (fun i => w1_2 601 i (nne rfl) (nne rfl) (nne rfl) (nne rfl))) (fun r4 z4 w4_0 w4_1 w4_2 => ?_)) (Nat.le_of_ble_eq_true rfl))
      refine jr.istore_n (ls' := [_, _, _]) rfl (nlt rfl) rfl ?_
      refine jr.iload_n rfl rfl ?_
      refine jr.iconst rfl ?_
      refine jr.icmp_ne rfl rfl (by first | (refine rgb (by assumption) ?_; exact rfl) | omega) (rgl rfl) (fun h35 => ?_) (fun h35 => ?_)
      · have sx35 : (0 : Int) ≤ r4 := by omega
        clear h35
        refine jr.aload_n rfl rfl ?_
        refine jr.getf (i := 7) (v := .ref 603) rfl rfl (nlt rfl) rfl (nlt rfl) rfl rfl rfl rfl ?_
        refine jr.iload_n rfl rfl ?_
        obtain ⟨v5, e5⟩ : ∃ z, M1 603 r4 = z := ⟨_, rfl⟩
        have b5 : 0 ≤ v5 ∧ v5 ≤ 11 := by rw [← e5]; exact (by have q := hI_M1 603 r4 (Nat.le_of_ble_eq_true rfl); rw [xri_row rfl rfl] at q; exact q)
        refine jr.iald (i := r4) (x := v5) rfl (nlt rfl) rfl (Nat.le_of_ble_eq_true rfl) (by omega) (by omega) e5 ?_
        refine jr.istore_n (ls' := [_, _, _, _]) rfl (nlt rfl) rfl ?_
        refine jr.aload_n rfl rfl ?_
        refine jr.getf (i := 8) (v := .ref 604) rfl rfl (nlt rfl) rfl (nlt rfl) rfl rfl rfl rfl ?_
        refine jr.iload_n rfl rfl ?_
        obtain ⟨v6, e6⟩ : ∃ z, M1 604 r4 = z := ⟨_, rfl⟩
        have b6 : 0 ≤ v6 ∧ v6 ≤ 400 := by rw [← e6]; exact (by have q := hI_M1 604 r4 (Nat.le_of_ble_eq_true rfl); rw [xri_row rfl rfl] at q; exact q)
        refine jr.iald (i := r4) (x := v6) rfl (nlt rfl) rfl (Nat.le_of_ble_eq_true rfl) (by omega) (by omega) e6 ?_
        refine jr.istore (ls' := [_, _, _, _, _]) rfl (nlt rfl) rfl ?_
        refine jr.aload_n rfl rfl ?_
        refine jr_v rfl rfl (Or.inl rfl) rfl rfl (nlt rfl) rfl ⟨rfl, Nat.le_of_ble_eq_true rfl, Nat.le_of_ble_eq_true rfl⟩ rfl (jc.deep (r_net_x hI_M1 hH_M1 hS_M1   (HQ6.t w1_1 (by have hq := hI_M 600 x (Nat.le_of_ble_eq_true rfl); rw [xri_row rfl rfl] at hq; omega) (fun i h0 h1 => rf_r hI_M x i)) (fun r7 z7 w7_0 w7_1 w7_2 w7_3 => ?_)) (Nat.le_of_ble_eq_true rfl))
        have rn4 : r4 ≠ -1 := by clear w4_1; omega
        have hk := HK.mk' (x := x) hH_M1 w1_0 (h := r4) (by clear w4_1; omega) (by clear w4_1; omega) e5 e6 ((w4_0.resolve_left rn4).2.2) w7_0 w7_2 w7_1 (w4_1 rn4)
        clear w4_1
        have t0 := hk.1
        refine jr.istore (ls' := [_, _, _, _, _, _]) rfl (nlt rfl) rfl ?_
        have e8 : M1 600 x = v2 := ((w1_2 600 x (nne rfl) (nne rfl) (nne rfl) (nne rfl)).trans e2)
        refine jr.pick (ls := [_, _, _, _, _, _]) [0, 1, 2, 3, 5, 4] rfl rfl ?_
        exact r_gather_L62_x q M1 r7 v6 v5 r4 x hI_M1 hH_M1 hS_M1  (fun a i f598 f600 f601 f602 f603 f604 f605 f606 f607 f608 f609 f610 f611 f612 f613 f614 f615 f616 f617 f618 f619 f620 f621 f622 => ((w1_2 a i f598 f603 f604 f605).trans rfl)) (fun i g6 g10 g11 g12 g34 => ((w1_3 i g6 g10 g11 g12).trans rfl)) (by omega) (by omega) (by omega) (by omega) (by omega) (RG1.fr hG1 (fun a i ha => w1_2 a i (fun e => absurd ha (by rw [e]; decide)) (fun e => absurd ha (by rw [e]; decide)) (fun e => absurd ha (by rw [e]; decide)) (fun e => absurd ha (by rw [e]; decide)))) hk.2 (by rw [e8] <;> omega) (by have hpc := pcf_r (f := rf M x) (N := M 600 x) (C := M1 598 6) w1_1.1.1; rw [← w4_2] at hpc; have hcc := (hpc.resolve_left rn4).1; have hh := HT.f (HQ6.t w1_1 (by have hq := hI_M 600 x (Nat.le_of_ble_eq_true rfl); rw [xri_row rfl rfl] at hq; omega) (fun i h0 h1 => rf_r hI_M x i)) hcc; exact ⟨(HQ6.t w1_1 (by have hq := hI_M 600 x (Nat.le_of_ble_eq_true rfl); rw [xri_row rfl rfl] at hq; omega) (fun i h0 h1 => rf_r hI_M x i)), ⟨HQ6.e w1_1, (hx6_z w1_1 (by rw [e3]; omega))⟩, ⟨w4_2, rn4⟩, w7_3, (by omega), (by omega), (rf_e (fun i => w1_2 601 i (nne rfl) (nne rfl) (nne rfl) (nne rfl))), ⟨by omega, by omega⟩, ⟨w1_2, w1_3⟩⟩) (fun g g0 g1 hg => by have h9 := p1 g g0 g1 (by rw [← w1_2 606 g (by decide) (by decide) (by decide) (by decide)]; exact hg); rw [w1_2 614 g (nne rfl) (nne rfl) (nne rfl) (nne rfl), w1_2 613 g (nne rfl) (nne rfl) (nne rfl) (nne rfl)]; exact h9) (by omega)
      · refine jr.bipush rfl (by decide) ?_
        exact jr.ireturn rfl rfl rfl (q _ _ hI_M1 hH_M1 hS_M1  (by first | exact rgq rfl | omega) (RG1.fr hG1 (fun a i ha => w1_2 a i (fun e => absurd ha (by rw [e]; decide)) (fun e => absurd ha (by rw [e]; decide)) (fun e => absurd ha (by rw [e]; decide)) (fun e => absurd ha (by rw [e]; decide)))) (Or.inr (Or.inl ⟨by omega, M1, ⟨w1_2, w1_3⟩, HQ6.e w1_1, Or.inl ⟨(by first | (exact Or.inl (hx6_n w1_1 (by rw [e3]; omega))) | (exact Or.inr (by rw [← w4_2]; omega))), by omega, rfl⟩⟩)) (fun a i f598 f600 f601 f602 f603 f604 f605 f606 f607 f608 f609 f610 f611 f612 f613 f614 f615 f616 f617 f618 f619 f620 f621 f622 => ((w1_2 a i f598 f603 f604 f605).trans rfl)) (fun i g6 g10 g11 g12 g34 => ((w1_3 i g6 g10 g11 g12).trans rfl)))
    · have sx20 : (1 : Int) ≤ v3 := by omega
      clear h20
      refine jr.iconst rfl ?_
      refine jr.goto rfl rfl ?_
      refine jr.istore_n (ls' := [_, _, _]) rfl (nlt rfl) rfl ?_
      refine jr.iload_n rfl rfl ?_
      refine jr.iconst rfl ?_
      refine jr.icmp_ne rfl rfl (by first | exact rgl rfl | omega) (rgl rfl) (fun h => absurd h (by decide)) (fun _ => ?_)
      refine jr.bipush rfl (by decide) ?_
      exact jr.ireturn rfl rfl rfl (q _ _ hI_M1 hH_M1 hS_M1  (by first | exact rgq rfl | omega) (RG1.fr hG1 (fun a i ha => w1_2 a i (fun e => absurd ha (by rw [e]; decide)) (fun e => absurd ha (by rw [e]; decide)) (fun e => absurd ha (by rw [e]; decide)) (fun e => absurd ha (by rw [e]; decide)))) (Or.inr (Or.inl ⟨by omega, M1, ⟨w1_2, w1_3⟩, HQ6.e w1_1, Or.inl ⟨(by first | (exact Or.inl (hx6_n w1_1 (by rw [e3]; omega))) | (exact Or.inr (by rw [← w4_2]; omega))), by omega, rfl⟩⟩)) (fun a i f598 f600 f601 f602 f603 f604 f605 f606 f607 f608 f609 f610 f611 f612 f613 f614 f615 f616 f617 f618 f619 f620 f621 f622 => ((w1_2 a i f598 f603 f604 f605).trans rfl)) (fun i g6 g10 g11 g12 g34 => ((w1_3 i g6 g10 g11 g12).trans rfl)))
  · refine jr.if_ne rfl rfl (by first | exact rgl rfl | omega) (fun h => absurd h (by decide)) (fun _ => ?_)
    refine jr.bipush rfl (by decide) ?_
    exact jr.ireturn rfl rfl rfl (q _ _ hI_M hH_M hS_M  (by first | exact rgq rfl | omega) hG1 (Or.inl ⟨by omega, by omega, rfl⟩) (fun a i f598 f600 f601 f602 f603 f604 f605 f606 f607 f608 f609 f610 f611 f612 f613 f614 f615 f616 f617 f618 f619 f620 f621 f622 => rfl) (fun i g6 g10 g11 g12 g34 => rfl))
