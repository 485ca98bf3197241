theorem r_gather_L62_x {A : Nat → Option (Nat × (Nat → Int32))} {Q : Option Value → jm → Prop} {M0 : jm} {x0 : Int} (q : ∀ (r : Int) (M' : jm), RI M' → RH M' → RF M' → (-5) ≤ r ∧ r ≤ 23 → RG1 M' → GAR M0 M' x0 r → (∀ (a : Nat) (i : Int), a ≠ 598 → a ≠ 600 → a ≠ 601 → a ≠ 602 → a ≠ 603 → a ≠ 604 → a ≠ 605 → a ≠ 606 → a ≠ 607 → a ≠ 608 → a ≠ 609 → a ≠ 610 → a ≠ 611 → a ≠ 612 → a ≠ 613 → a ≠ 614 → a ≠ 615 → a ≠ 616 → a ≠ 617 → a ≠ 618 → a ≠ 619 → a ≠ 620 → a ≠ 621 → a ≠ 622 → M' a i = M0 a i) → (∀ (i : Int), i ≠ 6 → i ≠ 10 → i ≠ 11 → i ≠ 12 → i ≠ 34 → M' 598 i = M0 598 i) → Q (some (.int (Int32.ofInt r))) M') : ∀ (M : jm) (t : Int) (a : Int) (k : Int) (h : Int) (x : Int), RI M → RH M → RF M → (∀ (a : Nat) (i : Int), a ≠ 598 → a ≠ 600 → a ≠ 601 → a ≠ 602 → a ≠ 603 → a ≠ 604 → a ≠ 605 → a ≠ 606 → a ≠ 607 → a ≠ 608 → a ≠ 609 → a ≠ 610 → a ≠ 611 → a ≠ 612 → a ≠ 613 → a ≠ 614 → a ≠ 615 → a ≠ 616 → a ≠ 617 → a ≠ 618 → a ≠ 619 → a ≠ 620 → a ≠ 621 → a ≠ 622 → M a i = M0 a i) → (∀ (i : Int), i ≠ 6 → i ≠ 10 → i ≠ 11 → i ≠ 12 → i ≠ 34 → M 598 i = M0 598 i) → 0 ≤ t ∧ t ≤ 11 → 0 ≤ a ∧ a ≤ 400 → 0 ≤ k ∧ k ≤ 11 → 0 ≤ h ∧ h ≤ 11 → 0 ≤ x ∧ x ≤ 23 → RG1 M → HK M x h t k a → 0 ≤ M 600 x ∧ M 600 x ≤ 400 → PX1 M0 M x h t k a → GQ6 M → x = x0 → jr A 5 xm_292 62 [(5, .int (Int32.ofInt (t))), (4, .int (Int32.ofInt (a))), (3, .int (Int32.ofInt (k))), (2, .int (Int32.ofInt (h))), (1, .int (Int32.ofInt (x))), (0, .ref (598))] [] M Q := by
    intro M t a k h x hI_M hH_M hS_M hF_M hG_M h_t h_a h_k h_h h_x hy0 hy1 hy2 hy3 hy4 hy5
    subst hy5
    have hG1 := hy0
    have hk := hy1
    obtain ⟨k1, k2, k3, k4, k5⟩ := hy1
    refine jr.iload_n rfl rfl ?_
    refine jr.iconst rfl ?_
    refine jr.icmp_ne rfl rfl (by omega) (by omega) (fun h64 => ?_) (fun h64 => ?_)
    · refine jr.iconst rfl ?_
      refine jr.istore rfl (by decide) rfl ?_
      refine jr.iload rfl rfl ?_
      refine jr.aload_n rfl rfl ?_
      refine jr.getf (i := 9) (v := .ref 605) rfl rfl (by decide) rfl (by decide) rfl rfl rfl rfl ?_
      refine jr.iload_n rfl rfl ?_
      obtain ⟨v1, e1⟩ : ∃ z, M 605 h = z := ⟨_, rfl⟩
      have b1 : 0 ≤ v1 ∧ v1 ≤ 400 := by rw [← e1]; exact (by have q := hI_M 605 h (by decide); rw [xri_row rfl rfl] at q; exact q)
      refine jr.iald (i := h) (x := v1) rfl (by decide) rfl (by decide) (by omega) (by omega) e1 ?_
      refine jr.iadd rfl ?_
      refine jr.istore rfl (by decide) rfl ?_
      refine jr.aload_n rfl rfl ?_
      refine jr.getf (i := 3) (v := .ref 600) rfl rfl (by decide) rfl (by decide) rfl rfl rfl rfl ?_
      refine jr.iload_n rfl rfl ?_
      obtain ⟨v2, e2⟩ : ∃ z, M 600 x = z := ⟨_, rfl⟩
      have b2 : (-1) ≤ v2 ∧ v2 ≤ 400 := by rw [← e2]; exact (by have q := hI_M 600 x (by decide); rw [xri_row rfl rfl] at q; exact q)
      refine jr.iald (i := x) (x := v2) rfl (by decide) rfl (by decide) (by omega) (by omega) e2 ?_
      refine jr.iload rfl rfl ?_
      refine jr.isub rfl ?_
      refine jr.istore rfl (by decide) rfl ?_
      refine jr.bipush rfl (by decide) ?_
      refine jr.iload rfl rfl ?_
      refine jr.if_eq rfl rfl (by omega) (fun _ => ?_) (fun h => absurd (by decide) h)
      refine jr.aload_n rfl rfl ?_
      refine jr.iload_n rfl rfl ?_
      refine jr.iload rfl rfl ?_
      refine jr.iconst rfl ?_
      refine jr.iadd rfl ?_
      refine jr_v rfl rfl (Or.inl rfl) rfl rfl (by decide) rfl ⟨rfl, Nat.le_of_ble_eq_true rfl, Nat.le_of_ble_eq_true rfl⟩ rfl (jc.deep (r_two_x hI_M hH_M hS_M  (by omega) (by omega)  (fun r3 z3 w3_0 => ?_)) (by decide))
      refine jr.iconst rfl ?_
      refine jr.ishr rfl ?_
      have b4 : j_shr r3 3 = r3 / 8 := j_shr_ex 3 (by decide) (by omega) (by omega)
      generalize j_shr r3 3 = v4 at b4 ⊢
      refine jr.i2l rfl (by omega) ?_
      refine jr.l2i rfl ?_
      refine jr.imul rfl ?_
      refine jr.istore rfl (by decide) rfl ?_
      refine jr.pick [0, 1, 2, 3, 4, 5, 6, 7, 8, 9] rfl rfl ?_
      exact r_gather_L130_x q M (8 * v4) (v2 - (a + v1)) (a + v1) 0 t a k h x hI_M hH_M hS_M  (fun a i f598 f600 f601 f602 f603 f604 f605 f606 f607 f608 f609 f610 f611 f612 f613 f614 f615 f616 f617 f618 f619 f620 f621 f622 => (hF_M a i f598 f600 f601 f602 f603 f604 f605 f606 f607 f608 f609 f610 f611 f612 f613 f614 f615 f616 f617 f618 f619 f620 f621 f622)) (fun i g6 g10 g11 g12 g34 => (hG_M i g6 g10 g11 g12 g34)) (by omega) (by omega) (by omega) (by omega) (by omega) (by omega) (by omega) (by omega) (by omega) hG1 hk (by omega) (by omega) hy3 (by have hh := HT.f hy3.1 hy3.c.1; have he := enf_i (f := rf M0 x) (N := M0 600 x) hy3.c.1; have h6 : M 600 x = M0 600 x := hy3.2.2.2.2.2.2.2.2.1 600 x (by decide) (by decide) (by decide) (by decide); have ha := hy3.2.2.2.2.2.1; exact ⟨(hy3.o6 (by omega) w3_0 (by omega) (by omega)), by omega, by omega⟩) hy4 (by omega)
    · refine jr.iconst rfl ?_
      refine jr.goto rfl rfl ?_
      refine jr.istore rfl (by decide) rfl ?_
      refine jr.iload rfl rfl ?_
      refine jr.aload_n rfl rfl ?_
      refine jr.getf (i := 9) (v := .ref 605) rfl rfl (by decide) rfl (by decide) rfl rfl rfl rfl ?_
      refine jr.iload_n rfl rfl ?_
      obtain ⟨v5, e5⟩ : ∃ z, M 605 h = z := ⟨_, rfl⟩
      have b5 : 0 ≤ v5 ∧ v5 ≤ 400 := by rw [← e5]; exact (by have q := hI_M 605 h (by decide); rw [xri_row rfl rfl] at q; exact q)
      refine jr.iald (i := h) (x := v5) rfl (by decide) rfl (by decide) (by omega) (by omega) e5 ?_
      refine jr.iadd rfl ?_
      refine jr.istore rfl (by decide) rfl ?_
      refine jr.aload_n rfl rfl ?_
      refine jr.getf (i := 3) (v := .ref 600) rfl rfl (by decide) rfl (by decide) rfl rfl rfl rfl ?_
      refine jr.iload_n rfl rfl ?_
      obtain ⟨v6, e6⟩ : ∃ z, M 600 x = z := ⟨_, rfl⟩
      have b6 : (-1) ≤ v6 ∧ v6 ≤ 400 := by rw [← e6]; exact (by have q := hI_M 600 x (by decide); rw [xri_row rfl rfl] at q; exact q)
      refine jr.iald (i := x) (x := v6) rfl (by decide) rfl (by decide) (by omega) (by omega) e6 ?_
      refine jr.iload rfl rfl ?_
      refine jr.isub rfl ?_
      refine jr.istore rfl (by decide) rfl ?_
      refine jr.bipush rfl (by decide) ?_
      refine jr.iload rfl rfl ?_
      refine jr.if_eq rfl rfl (by omega) (fun h => absurd h (by decide)) (fun _ => ?_)
      refine jr.aload_n rfl rfl ?_
      refine jr.iload_n rfl rfl ?_
      refine jr.iload rfl rfl ?_
      refine jr.iconst rfl ?_
      refine jr_v rfl rfl (Or.inl rfl) rfl rfl (by decide) rfl ⟨rfl, Nat.le_of_ble_eq_true rfl, Nat.le_of_ble_eq_true rfl⟩ rfl (jc.deep (r_ofFour_x hI_M hH_M hS_M  (by omega) (by omega) (by omega)  (fun r7 z7 w7_0 => ?_)) (by decide))
      have hv5 : 0 ≤ r7 ∧ r7 ≤ 8191 := (by have h9 := w7_0 0; rw [vof_2_5] at h9; omega)
      refine jr.goto rfl rfl ?_
      refine jr.l2i rfl ?_
      refine jr.imul rfl ?_
      refine jr.istore rfl (by decide) rfl ?_
      refine jr.pick [0, 1, 2, 3, 4, 5, 6, 7, 8, 9] rfl rfl ?_
      exact r_gather_L130_x q M (8 * r7) (v6 - (a + v5)) (a + v5) 1 t a k h x hI_M hH_M hS_M  (fun a i f598 f600 f601 f602 f603 f604 f605 f606 f607 f608 f609 f610 f611 f612 f613 f614 f615 f616 f617 f618 f619 f620 f621 f622 => (hF_M a i f598 f600 f601 f602 f603 f604 f605 f606 f607 f608 f609 f610 f611 f612 f613 f614 f615 f616 f617 f618 f619 f620 f621 f622)) (fun i g6 g10 g11 g12 g34 => (hG_M i g6 g10 g11 g12 g34)) (by omega) (by omega) (by omega) (by omega) (by omega) (by omega) (by omega) (by omega) (by omega) hG1 hk (by omega) (by omega) hy3 (by have hh := HT.f hy3.1 hy3.c.1; have he := enf_i (f := rf M0 x) (N := M0 600 x) hy3.c.1; have h6 : M 600 x = M0 600 x := hy3.2.2.2.2.2.2.2.2.1 600 x (by decide) (by decide) (by decide) (by decide); have ha := hy3.2.2.2.2.2.1; exact ⟨(hy3.o2 (by omega) w7_0), by omega, by omega⟩) hy4 (by omega)
