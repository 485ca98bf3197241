section
theorem r_flow_x {A : Nat → Option (Nat × (Nat → Int32))} {Q : Option Value → jm → Prop} {M : jm} (hI_M : RI M) (hH_M : RH M) (hS_M : RF M) {f : Int} (h_f : (-2147483648) ≤ f ∧ f ≤ 2147483647) {w : Int} (h_w : (-2147483648) ≤ w ∧ w ≤ 2147483647) (q : ∀ (r : Int) (M' : jm), RI M' → RH M' → RF M' → (-2147483648) ≤ r ∧ r ≤ 2147483647 → (((f < 0 ∨ 23 < f ∨ M 627 f = 0) ∧ r = -2) ∨ (((0 ≤ f ∧ f ≤ 23) ∧ M 627 f ≠ 0) ∧ r = fg6 M f w)) → M' = M → (∀ (a : Nat) (i : Int), a ≠ 598 → M' a i = M a i) → (∀ (i : Int), i ≠ 1 → M' 598 i = M 598 i) → Q (some (.int (Int32.ofInt r))) M') : jc A 3 316 [.ref (598), .int (Int32.ofInt (f)), .int (Int32.ofInt (w))] M Q := by
  refine jc_of (m := xm_316) rfl (Nat.le_of_ble_eq_true rfl) rfl ?_
  refine jr.aload_n rfl rfl ?_
  refine jr.iload_n rfl rfl ?_
  refine jr_v rfl rfl (Or.inl rfl) rfl rfl (by decide) rfl ⟨rfl, Nat.le_of_ble_eq_true rfl, Nat.le_of_ble_eq_true rfl⟩ rfl (jc.deep (c_isFlow hI_M (by omega) (fun l2 u2 t2 => ?_) (fun n2 => ?_)) (by decide))
  · refine jr.if_ne rfl rfl (by omega) (fun _ => ?_) (fun h => absurd (by decide) h)
    refine jr.iload_n rfl rfl ?_
    rcases (show w = 0 ∨ w = 1 ∨ w = 2 ∨ w = 3 ∨ w = 4 ∨ w = 5 ∨ w = 6 ∨ w = 7 ∨ w = 8 ∨ w = 9 ∨ (w ≠ 0 ∧ w ≠ 1 ∧ w ≠ 2 ∧ w ≠ 3 ∧ w ≠ 4 ∧ w ≠ 5 ∧ w ≠ 6 ∧ w ≠ 7 ∧ w ≠ 8 ∧ w ≠ 9) by omega) with h12 | h12 | h12 | h12 | h12 | h12 | h12 | h12 | h12 | h12 | h12
    · refine jr.tsw_k 0 rfl h12 rfl ?_
      refine jr.aload_n rfl rfl ?_
      refine jr.getf (i := 41) (v := .ref 629) rfl rfl (by decide) rfl (by decide) rfl rfl rfl rfl ?_
      refine jr.iload_n rfl rfl ?_
      obtain ⟨v1, e1⟩ : ∃ z, M 629 f = z := ⟨_, rfl⟩
      have b1 : 0 ≤ v1 ∧ v1 ≤ 255 := by rw [← e1]; exact (by have q := hI_M 629 f (by decide); rw [xri_row rfl rfl] at q; exact q)
      refine jr.iald (i := f) (x := v1) rfl (by decide) rfl (by decide) (by omega) (by omega) e1 ?_
      exact jr.ireturn rfl rfl rfl (q _ _ hI_M hH_M hS_M  (by omega) (Or.inr ⟨by omega, by unfold fg6; rw [if_pos (by omega)]; omega⟩) rfl (fun a i f598 => rfl) (fun i g1 => rfl))
    · refine jr.tsw_k 1 rfl h12 rfl ?_
      refine jr.aload_n rfl rfl ?_
      refine jr.getf (i := 50) (v := .ref 638) rfl rfl (by decide) rfl (by decide) rfl rfl rfl rfl ?_
      refine jr.iload_n rfl rfl ?_
      obtain ⟨v2, e2⟩ : ∃ z, M 638 f = z := ⟨_, rfl⟩
      have b2 : 0 ≤ v2 ∧ v2 ≤ 15 := by rw [← e2]; exact (by have q := hI_M 638 f (by decide); rw [xri_row rfl rfl] at q; exact q)
      refine jr.iald (i := f) (x := v2) rfl (by decide) rfl (by decide) (by omega) (by omega) e2 ?_
      exact jr.ireturn rfl rfl rfl (q _ _ hI_M hH_M hS_M  (by omega) (Or.inr ⟨by omega, by unfold fg6; rw [if_neg (by omega), if_pos (by omega)]; omega⟩) rfl (fun a i f598 => rfl) (fun i g1 => rfl))
    · refine jr.tsw_k 2 rfl h12 rfl ?_
      refine jr.aload_n rfl rfl ?_
      refine jr.getf (i := 43) (v := .ref 631) rfl rfl (by decide) rfl (by decide) rfl rfl rfl rfl ?_
      refine jr.iconst rfl ?_
      refine jr.iload_n rfl rfl ?_
      refine jr.imul rfl ?_
      refine jr.iload_n rfl rfl ?_
      refine jr.iadd rfl ?_
      refine jr.iconst rfl ?_
      refine jr.isub rfl ?_
      obtain ⟨v3, e3⟩ : ∃ z, M 631 (((2 * f) + w) - 2) = z := ⟨_, rfl⟩
      have b3 : 0 ≤ v3 ∧ v3 ≤ 65535 := by rw [← e3]; exact (by have q := hI_M 631 (((2 * f) + w) - 2) (by decide); rw [xri_row rfl rfl] at q; exact q)
      refine jr.iald (i := (((2 * f) + w) - 2)) (x := v3) rfl (by decide) rfl (by decide) (by omega) (by omega) e3 ?_
      exact jr.ireturn rfl rfl rfl (q _ _ hI_M hH_M hS_M  (by omega) (Or.inr ⟨by omega, by have x0 : M 631 (((2 * f) + w) - 2) = v3 := e3; rw [show ((2 * f) + w) - 2 = 2 * f from by omega] at x0; unfold fg6; rw [if_neg (by omega), if_neg (by omega), if_pos (by omega)]; omega⟩) rfl (fun a i f598 => rfl) (fun i g1 => rfl))
    · refine jr.tsw_k 3 rfl h12 rfl ?_
      refine jr.aload_n rfl rfl ?_
      refine jr.getf (i := 43) (v := .ref 631) rfl rfl (by decide) rfl (by decide) rfl rfl rfl rfl ?_
      refine jr.iconst rfl ?_
      refine jr.iload_n rfl rfl ?_
      refine jr.imul rfl ?_
      refine jr.iload_n rfl rfl ?_
      refine jr.iadd rfl ?_
      refine jr.iconst rfl ?_
      refine jr.isub rfl ?_
      obtain ⟨v4, e4⟩ : ∃ z, M 631 (((2 * f) + w) - 2) = z := ⟨_, rfl⟩
      have b4 : 0 ≤ v4 ∧ v4 ≤ 65535 := by rw [← e4]; exact (by have q := hI_M 631 (((2 * f) + w) - 2) (by decide); rw [xri_row rfl rfl] at q; exact q)
      refine jr.iald (i := (((2 * f) + w) - 2)) (x := v4) rfl (by decide) rfl (by decide) (by omega) (by omega) e4 ?_
      exact jr.ireturn rfl rfl rfl (q _ _ hI_M hH_M hS_M  (by omega) (Or.inr ⟨by omega, by have x0 : M 631 (((2 * f) + w) - 2) = v4 := e4; rw [show ((2 * f) + w) - 2 = 2 * f + 1 from by omega] at x0; unfold fg6; rw [if_neg (by omega), if_neg (by omega), if_neg (by omega), if_pos (by omega)]; omega⟩) rfl (fun a i f598 => rfl) (fun i g1 => rfl))
    · refine jr.tsw_k 4 rfl h12 rfl ?_
      refine jr.aload_n rfl rfl ?_
      refine jr.getf (i := 51) (v := .ref 639) rfl rfl (by decide) rfl (by decide) rfl rfl rfl rfl ?_
      refine jr.iload_n rfl rfl ?_
      obtain ⟨v5, e5⟩ : ∃ z, M 639 f = z := ⟨_, rfl⟩
      have b5 : (-2147483648) ≤ v5 ∧ v5 ≤ 2147483647 := by rw [← e5]; exact (by have q := hI_M 639 f (by decide); rw [xri_row rfl rfl] at q; exact q)
      refine jr.iald (i := f) (x := v5) rfl (by decide) rfl (by decide) (by omega) (by omega) e5 ?_
      refine jr.aload_n rfl rfl ?_
      obtain ⟨v6, e6⟩ : ∃ z, M 598 2 = z := ⟨_, rfl⟩
      have b6 : 0 ≤ v6 ∧ v6 ≤ 2000000 := by rw [← e6]; exact hI_M 598 2 (by decide)
      refine jr.getf (i := 2) (x := v6) (v := .int (Int32.ofInt (v6))) rfl rfl (by decide) rfl (by decide) rfl rfl e6 rfl ?_
      refine jr.isub rfl ?_
      refine jr.iw (j_w (v5 - v6)) (j_w_eq _) ?_
      have b7 : -2147483648 ≤ j_w (v5 - v6) ∧ j_w (v5 - v6) ≤ 2147483647 := jb_any _
      exact jr.ireturn rfl rfl rfl (q _ _ hI_M hH_M hS_M  (by omega) (Or.inr ⟨by omega, by unfold fg6; rw [if_neg (by omega), if_neg (by omega), if_neg (by omega), if_neg (by omega), if_pos (by omega)]; rw [e5, e6]⟩) rfl (fun a i f598 => rfl) (fun i g1 => rfl))
    · refine jr.tsw_k 5 rfl h12 rfl ?_
      refine jr.aload_n rfl rfl ?_
      refine jr.getf (i := 44) (v := .ref 632) rfl rfl (by decide) rfl (by decide) rfl rfl rfl rfl ?_
      refine jr.iconst rfl ?_
      refine jr.iload_n rfl rfl ?_
      refine jr.imul rfl ?_
      refine jr.iload_n rfl rfl ?_
      refine jr.iadd rfl ?_
      refine jr.iconst rfl ?_
      refine jr.isub rfl ?_
      obtain ⟨v8, e8⟩ : ∃ z, M 632 (((2 * f) + w) - 5) = z := ⟨_, rfl⟩
      have b8 : 0 ≤ v8 ∧ v8 ≤ 1 := by rw [← e8]; exact (by have q := hI_M 632 (((2 * f) + w) - 5) (by decide); rw [xri_row rfl rfl] at q; exact q)
      refine jr.zald (i := (((2 * f) + w) - 5)) (x := v8) rfl (by decide) rfl (by decide) (by omega) (by omega) e8 ?_
      refine jr.if_eq rfl rfl (by omega) (fun h119 => ?_) (fun h119 => ?_)
      · refine jr.iconst rfl ?_
        exact jr.ireturn rfl rfl rfl (q _ _ hI_M hH_M hS_M  (by omega) (Or.inr ⟨by omega, by have x0 : M 632 (((2 * f) + w) - 5) = v8 := e8; rw [show ((2 * f) + w) - 5 = 2 * f from by omega] at x0; unfold fg6; rw [if_neg (by omega), if_neg (by omega), if_neg (by omega), if_neg (by omega), if_neg (by omega), if_pos (by omega)]; first | (rw [if_pos (by omega)]; done) | (rw [if_neg (by omega)]; done) | (rw [if_pos (by omega)]; omega) | (rw [if_neg (by omega)]; omega)⟩) rfl (fun a i f598 => rfl) (fun i g1 => rfl))
      · have sx119 : (1 : Int) ≤ v8 := by omega
        clear h119
        refine jr.aload_n rfl rfl ?_
        refine jr.getf (i := 45) (v := .ref 633) rfl rfl (by decide) rfl (by decide) rfl rfl rfl rfl ?_
        refine jr.iconst rfl ?_
        refine jr.iload_n rfl rfl ?_
        refine jr.imul rfl ?_
        refine jr.iload_n rfl rfl ?_
        refine jr.iadd rfl ?_
        refine jr.iconst rfl ?_
        refine jr.isub rfl ?_
        obtain ⟨v9, e9⟩ : ∃ z, M 633 (((2 * f) + w) - 5) = z := ⟨_, rfl⟩
        have b9 : (-2147483648) ≤ v9 ∧ v9 ≤ 2147483647 := by rw [← e9]; exact (by have q := hI_M 633 (((2 * f) + w) - 5) (by decide); rw [xri_row rfl rfl] at q; exact q)
        refine jr.iald (i := (((2 * f) + w) - 5)) (x := v9) rfl (by decide) rfl (by decide) (by omega) (by omega) e9 ?_
        refine jr.goto rfl rfl ?_
        exact jr.ireturn rfl rfl rfl (q _ _ hI_M hH_M hS_M  (by omega) (Or.inr ⟨by omega, by have x0 : M 632 (((2 * f) + w) - 5) = v8 := e8; rw [show ((2 * f) + w) - 5 = 2 * f from by omega] at x0; have x1 : M 633 (((2 * f) + w) - 5) = v9 := e9; rw [show ((2 * f) + w) - 5 = 2 * f from by omega] at x1; unfold fg6; rw [if_neg (by omega), if_neg (by omega), if_neg (by omega), if_neg (by omega), if_neg (by omega), if_pos (by omega)]; first | (rw [if_pos (by omega)]; done) | (rw [if_neg (by omega)]; done) | (rw [if_pos (by omega)]; omega) | (rw [if_neg (by omega)]; omega)⟩) rfl (fun a i f598 => rfl) (fun i g1 => rfl))
    · refine jr.tsw_k 6 rfl h12 rfl ?_
      refine jr.aload_n rfl rfl ?_
      refine jr.getf (i := 44) (v := .ref 632) rfl rfl (by decide) rfl (by decide) rfl rfl rfl rfl ?_
      refine jr.iconst rfl ?_
      refine jr.iload_n rfl rfl ?_
      refine jr.imul rfl ?_
      refine jr.iload_n rfl rfl ?_
      refine jr.iadd rfl ?_
      refine jr.iconst rfl ?_
      refine jr.isub rfl ?_
      obtain ⟨v10, e10⟩ : ∃ z, M 632 (((2 * f) + w) - 5) = z := ⟨_, rfl⟩
      have b10 : 0 ≤ v10 ∧ v10 ≤ 1 := by rw [← e10]; exact (by have q := hI_M 632 (((2 * f) + w) - 5) (by decide); rw [xri_row rfl rfl] at q; exact q)
      refine jr.zald (i := (((2 * f) + w) - 5)) (x := v10) rfl (by decide) rfl (by decide) (by omega) (by omega) e10 ?_
      refine jr.if_eq rfl rfl (by omega) (fun h119 => ?_) (fun h119 => ?_)
      · refine jr.iconst rfl ?_
        exact jr.ireturn rfl rfl rfl (q _ _ hI_M hH_M hS_M  (by omega) (Or.inr ⟨by omega, by have x0 : M 632 (((2 * f) + w) - 5) = v10 := e10; rw [show ((2 * f) + w) - 5 = 2 * f + 1 from by omega] at x0; unfold fg6; rw [if_neg (by omega), if_neg (by omega), if_neg (by omega), if_neg (by omega), if_neg (by omega), if_neg (by omega), if_pos (by omega)]; first | (rw [if_pos (by omega)]; done) | (rw [if_neg (by omega)]; done) | (rw [if_pos (by omega)]; omega) | (rw [if_neg (by omega)]; omega)⟩) rfl (fun a i f598 => rfl) (fun i g1 => rfl))
      · have sx119 : (1 : Int) ≤ v10 := by omega
        clear h119
        refine jr.aload_n rfl rfl ?_
        refine jr.getf (i := 45) (v := .ref 633) rfl rfl (by decide) rfl (by decide) rfl rfl rfl rfl ?_
        refine jr.iconst rfl ?_
        refine jr.iload_n rfl rfl ?_
        refine jr.imul rfl ?_
        refine jr.iload_n rfl rfl ?_
        refine jr.iadd rfl ?_
        refine jr.iconst rfl ?_
        refine jr.isub rfl ?_
        obtain ⟨v11, e11⟩ : ∃ z, M 633 (((2 * f) + w) - 5) = z := ⟨_, rfl⟩
        have b11 : (-2147483648) ≤ v11 ∧ v11 ≤ 2147483647 := by rw [← e11]; exact (by have q := hI_M 633 (((2 * f) + w) - 5) (by decide); rw [xri_row rfl rfl] at q; exact q)
        refine jr.iald (i := (((2 * f) + w) - 5)) (x := v11) rfl (by decide) rfl (by decide) (by omega) (by omega) e11 ?_
        refine jr.goto rfl rfl ?_
        exact jr.ireturn rfl rfl rfl (q _ _ hI_M hH_M hS_M  (by omega) (Or.inr ⟨by omega, by have x0 : M 632 (((2 * f) + w) - 5) = v10 := e10; rw [show ((2 * f) + w) - 5 = 2 * f + 1 from by omega] at x0; have x1 : M 633 (((2 * f) + w) - 5) = v11 := e11; rw [show ((2 * f) + w) - 5 = 2 * f + 1 from by omega] at x1; unfold fg6; rw [if_neg (by omega), if_neg (by omega), if_neg (by omega), if_neg (by omega), if_neg (by omega), if_neg (by omega), if_pos (by omega)]; first | (rw [if_pos (by omega)]; done) | (rw [if_neg (by omega)]; done) | (rw [if_pos (by omega)]; omega) | (rw [if_neg (by omega)]; omega)⟩) rfl (fun a i f598 => rfl) (fun i g1 => rfl))
    · refine jr.tsw_k 7 rfl h12 rfl ?_
      refine jr.aload_n rfl rfl ?_
      refine jr.getf (i := 47) (v := .ref 635) rfl rfl (by decide) rfl (by decide) rfl rfl rfl rfl ?_
      refine jr.iconst rfl ?_
      refine jr.iload_n rfl rfl ?_
      refine jr.imul rfl ?_
      refine jr.iload_n rfl rfl ?_
      refine jr.iadd rfl ?_
      refine jr.bipush rfl (by decide) ?_
      refine jr.isub rfl ?_
      obtain ⟨v12, e12⟩ : ∃ z, M 635 (((2 * f) + w) - 7) = z := ⟨_, rfl⟩
      have b12 : 0 ≤ v12 ∧ v12 ≤ 65535 := by rw [← e12]; exact (by have q := hI_M 635 (((2 * f) + w) - 7) (by decide); rw [xri_row rfl rfl] at q; exact q)
      refine jr.iald (i := (((2 * f) + w) - 7)) (x := v12) rfl (by decide) rfl (by decide) (by omega) (by omega) e12 ?_
      exact jr.ireturn rfl rfl rfl (q _ _ hI_M hH_M hS_M  (by omega) (Or.inr ⟨by omega, by have x0 : M 635 (((2 * f) + w) - 7) = v12 := e12; rw [show ((2 * f) + w) - 7 = 2 * f from by omega] at x0; unfold fg6; rw [if_neg (by omega), if_neg (by omega), if_neg (by omega), if_neg (by omega), if_neg (by omega), if_neg (by omega), if_neg (by omega), if_pos (by omega)]; omega⟩) rfl (fun a i f598 => rfl) (fun i g1 => rfl))
    · refine jr.tsw_k 8 rfl h12 rfl ?_
      refine jr.aload_n rfl rfl ?_
      refine jr.getf (i := 47) (v := .ref 635) rfl rfl (by decide) rfl (by decide) rfl rfl rfl rfl ?_
      refine jr.iconst rfl ?_
      refine jr.iload_n rfl rfl ?_
      refine jr.imul rfl ?_
      refine jr.iload_n rfl rfl ?_
      refine jr.iadd rfl ?_
      refine jr.bipush rfl (by decide) ?_
      refine jr.isub rfl ?_
      obtain ⟨v13, e13⟩ : ∃ z, M 635 (((2 * f) + w) - 7) = z := ⟨_, rfl⟩
      have b13 : 0 ≤ v13 ∧ v13 ≤ 65535 := by rw [← e13]; exact (by have q := hI_M 635 (((2 * f) + w) - 7) (by decide); rw [xri_row rfl rfl] at q; exact q)
      refine jr.iald (i := (((2 * f) + w) - 7)) (x := v13) rfl (by decide) rfl (by decide) (by omega) (by omega) e13 ?_
      exact jr.ireturn rfl rfl rfl (q _ _ hI_M hH_M hS_M  (by omega) (Or.inr ⟨by omega, by have x0 : M 635 (((2 * f) + w) - 7) = v13 := e13; rw [show ((2 * f) + w) - 7 = 2 * f + 1 from by omega] at x0; unfold fg6; rw [if_neg (by omega), if_neg (by omega), if_neg (by omega), if_neg (by omega), if_neg (by omega), if_neg (by omega), if_neg (by omega), if_neg (by omega), if_pos (by omega)]; omega⟩) rfl (fun a i f598 => rfl) (fun i g1 => rfl))
    · refine jr.tsw_k 9 rfl h12 rfl ?_
      refine jr.aload_n rfl rfl ?_
      refine jr.getf (i := 52) (v := .ref 640) rfl rfl (by decide) rfl (by decide) rfl rfl rfl rfl ?_
      refine jr.iload_n rfl rfl ?_
      obtain ⟨v14, e14⟩ : ∃ z, M 640 f = z := ⟨_, rfl⟩
      have b14 : (-1) ≤ v14 ∧ v14 ≤ 3 := by rw [← e14]; exact (by have q := hI_M 640 f (by decide); rw [xri_row rfl rfl] at q; exact q)
      refine jr.iald (i := f) (x := v14) rfl (by decide) rfl (by decide) (by omega) (by omega) e14 ?_
      refine jr.iconst rfl ?_
      refine jr.icmp_ne rfl rfl (by omega) (by omega) (fun h160 => ?_) (fun h160 => ?_)
      · have sx160 : (0 : Int) ≤ v14 := by omega
        clear h160
        refine jr.aload_n rfl rfl ?_
        refine jr.getf (i := 54) (v := .ref 642) rfl rfl (by decide) rfl (by decide) rfl rfl rfl rfl ?_
        refine jr.iload_n rfl rfl ?_
        obtain ⟨v15, e15⟩ : ∃ z, M 642 f = z := ⟨_, rfl⟩
        have b15 : 0 ≤ v15 ∧ v15 ≤ 70000 := by rw [← e15]; exact (by have q := hI_M 642 f (by decide); rw [xri_row rfl rfl] at q; exact q)
        refine jr.iald (i := f) (x := v15) rfl (by decide) rfl (by decide) (by omega) (by omega) e15 ?_
        exact jr.ireturn rfl rfl rfl (q _ _ hI_M hH_M hS_M  (by omega) (Or.inr ⟨by omega, by unfold fg6; rw [if_neg (by omega), if_neg (by omega), if_neg (by omega), if_neg (by omega), if_neg (by omega), if_neg (by omega), if_neg (by omega), if_neg (by omega), if_neg (by omega), if_pos (by omega)]; first | (rw [if_pos (by omega)]; done) | (rw [if_neg (by omega)]; done) | (rw [if_pos (by omega)]; omega) | (rw [if_neg (by omega)]; omega)⟩) rfl (fun a i f598 => rfl) (fun i g1 => rfl))
      · refine jr.iconst rfl ?_
        refine jr.goto rfl rfl ?_
        exact jr.ireturn rfl rfl rfl (q _ _ hI_M hH_M hS_M  (by omega) (Or.inr ⟨by omega, by unfold fg6; rw [if_neg (by omega), if_neg (by omega), if_neg (by omega), if_neg (by omega), if_neg (by omega), if_neg (by omega), if_neg (by omega), if_neg (by omega), if_neg (by omega), if_pos (by omega)]; first | (rw [if_pos (by omega)]; done) | (rw [if_neg (by omega)]; done) | (rw [if_pos (by omega)]; omega) | (rw [if_neg (by omega)]; omega)⟩) rfl (fun a i f598 => rfl) (fun i g1 => rfl))
    · refine jr.tsw_d rfl (by omega) (by omega) rfl ?_
      refine jr.iload_n rfl rfl ?_
      refine jr.bipush rfl (by decide) ?_
      refine jr.icmp_eq rfl rfl (by omega) (by omega) (fun h177 => ?_) (fun h177 => ?_)
      · refine jr.aload_n rfl rfl ?_
        refine jr.getf (i := 40) (v := .ref 628) rfl rfl (by decide) rfl (by decide) rfl rfl rfl rfl ?_
        refine jr.iload_n rfl rfl ?_
        obtain ⟨v16, e16⟩ : ∃ z, M 628 f = z := ⟨_, rfl⟩
        have b16 : 0 ≤ v16 ∧ v16 ≤ 1 := by rw [← e16]; exact (by have q := hI_M 628 f (by decide); rw [xri_row rfl rfl] at q; exact q)
        refine jr.zald (i := f) (x := v16) rfl (by decide) rfl (by decide) (by omega) (by omega) e16 ?_
        refine jr.if_eq rfl rfl (by omega) (fun h191 => ?_) (fun h191 => ?_)
        · refine jr.iconst rfl ?_
          exact jr.ireturn rfl rfl rfl (q _ _ hI_M hH_M hS_M  (by omega) (Or.inr ⟨by omega, by unfold fg6; rw [if_neg (by omega), if_neg (by omega), if_neg (by omega), if_neg (by omega), if_neg (by omega), if_neg (by omega), if_neg (by omega), if_neg (by omega), if_neg (by omega), if_neg (by omega), if_pos (by omega)]; first | (rw [if_pos (by omega)]; done) | (rw [if_neg (by omega)]; done) | (rw [if_pos (by omega)]; omega) | (rw [if_neg (by omega)]; omega)⟩) rfl (fun a i f598 => rfl) (fun i g1 => rfl))
        · have sx191 : (1 : Int) ≤ v16 := by omega
          clear h191
          refine jr.iconst rfl ?_
          refine jr.goto rfl rfl ?_
          exact jr.ireturn rfl rfl rfl (q _ _ hI_M hH_M hS_M  (by omega) (Or.inr ⟨by omega, by unfold fg6; rw [if_neg (by omega), if_neg (by omega), if_neg (by omega), if_neg (by omega), if_neg (by omega), if_neg (by omega), if_neg (by omega), if_neg (by omega), if_neg (by omega), if_neg (by omega), if_pos (by omega)]; first | (rw [if_pos (by omega)]; done) | (rw [if_neg (by omega)]; done) | (rw [if_pos (by omega)]; omega) | (rw [if_neg (by omega)]; omega)⟩) rfl (fun a i f598 => rfl) (fun i g1 => rfl))
      · refine jr.bipush rfl (by decide) ?_
        refine jr.goto rfl rfl ?_
        exact jr.ireturn rfl rfl rfl (q _ _ hI_M hH_M hS_M  (by omega) (Or.inr ⟨by omega, by unfold fg6; rw [if_neg (by omega), if_neg (by omega), if_neg (by omega), if_neg (by omega), if_neg (by omega), if_neg (by omega), if_neg (by omega), if_neg (by omega), if_neg (by omega), if_neg (by omega), if_neg (by omega)]⟩) rfl (fun a i f598 => rfl) (fun i g1 => rfl))
  · refine jr.if_ne rfl rfl (by omega) (fun h => absurd h (by decide)) (fun _ => ?_)
    refine jr.bipush rfl (by decide) ?_
    exact jr.ireturn rfl rfl rfl (q _ _ hI_M hH_M hS_M  (by omega) (Or.inl ⟨by omega, by omega⟩) rfl (fun a i f598 => rfl) (fun i g1 => rfl))
end
