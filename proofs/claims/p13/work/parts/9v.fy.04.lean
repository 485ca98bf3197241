section
theorem r_export_L7_x {A : Nat → Option (Nat × (Nat → Int32))} {Q : Option Value → jm → Prop} {M0 : jm} (q : ∀ (r : Int) (M' : jm), RI M' → RH M' → RF M' → 0 ≤ r ∧ r ≤ 1600 → (M' 599 = (exL (u6x M0) (B6x M0) (M0 599) 24).1 ∧ M' 598 1 = (exL (u6x M0) (B6x M0) (M0 599) 24).2 ∧ r = M' 598 1) → (∀ (a : Nat) (i : Int), a ≠ 598 → a ≠ 599 → M' a i = M0 a i) → (∀ (i : Int), i ≠ 1 → M' 598 i = M0 598 i) → Q (some (.int (Int32.ofInt r))) M') : ∀ (nM : Nat) (M : jm) (f : Int), RI M → RH M → RF M → (∀ (a : Nat) (i : Int), a ≠ 598 → a ≠ 599 → M a i = M0 a i) → (∀ (i : Int), i ≠ 1 → M 598 i = M0 598 i) → 0 ≤ f ∧ f ≤ 24 → 0 ≤ M 598 1 ∧ M 598 1 ≤ 1152 → M 598 1 ≤ 48 * f → (M 599 = (exL (u6x M0) (B6x M0) (M0 599) f.toNat).1 ∧ M 598 1 = (exL (u6x M0) (B6x M0) (M0 599) f.toNat).2) → 24 - f ≤ nM → jr A 2 xm_326 7 [(1, .int (Int32.ofInt (f))), (0, .ref (598))] [] M Q := by
  intro nM
  induction nM using Nat.strongRecOn with
  | ind nM ih =>
    intro M f hI_M hH_M hS_M hF_M hG_M h_f hy0 hy1 hy2 hm
    refine jr.iload_n rfl rfl ?_
    refine jr.bipush rfl (by decide) ?_
    refine jr.icmp_ge rfl rfl (by omega) (by omega) (fun h10 => ?_) (fun h10 => ?_)
    · refine jr.aload_n rfl rfl ?_
      obtain ⟨v1, e1⟩ : ∃ z, M 598 1 = z := ⟨_, rfl⟩
      have b1 : 0 ≤ v1 ∧ v1 ≤ 1600 := by rw [← e1]; exact hI_M 598 1 (by decide)
      refine jr.getf (i := 1) (x := v1) (v := .int (Int32.ofInt (v1))) rfl rfl (by decide) rfl (by decide) rfl rfl e1 rfl ?_
      exact jr.ireturn rfl rfl rfl (q _ _ hI_M hH_M hS_M  (by omega) (by have h9 := hy2; rw [show f = 24 from by omega] at h9; exact ⟨h9.1, h9.2, by rw [e1]⟩) (fun a i f598 f599 => (hF_M a i f598 f599)) (fun i g1 => (hG_M i g1)))
    · refine jr.aload_n rfl rfl ?_
      refine jr.getf (i := 39) (v := .ref 627) rfl rfl (by decide) rfl (by decide) rfl rfl rfl rfl ?_
      refine jr.iload_n rfl rfl ?_
      obtain ⟨v2, e2⟩ : ∃ z, M 627 f = z := ⟨_, rfl⟩
      have b2 : 0 ≤ v2 ∧ v2 ≤ 1 := by rw [← e2]; exact (by have q := hI_M 627 f (by decide); rw [xri_row rfl rfl] at q; exact q)
      refine jr.zald (i := f) (x := v2) rfl (by decide) rfl (by decide) (by omega) (by omega) e2 ?_
      refine jr.if_eq rfl rfl (by omega) (fun h19 => ?_) (fun h19 => ?_)
      · refine jr.iinc (ls' := [_, _]) rfl rfl (by decide) rfl ?_
        refine jr.goto rfl rfl ?_
        obtain ⟨v3, e3⟩ : ∃ z, M 598 1 = z := ⟨_, rfl⟩
        have b3 : 0 ≤ v3 ∧ v3 ≤ 1600 := by rw [← e3]; exact hI_M 598 1 (by decide)
        refine jr.pick (ls := [_, _]) [0, 1] rfl rfl ?_
        exact ih (nM - 1) (by omega) M (f + 1) hI_M hH_M hS_M  (fun a i f598 f599 => (hF_M a i f598 f599)) (fun i g1 => (hG_M i g1)) (by omega) (by omega) (by rw [e3]; omega) (by rw [exL_s (by omega), if_pos (u6_0 (fun u => by rw [(show M0 627 f = v2 from (hF_M 627 f (by decide) (by decide)).symm.trans e2)] at u; omega))]; exact hy2) (by omega)
      · have sx19 : (1 : Int) ≤ v2 := by omega
        clear h19
        refine jr.aload_n rfl rfl ?_
        refine jr.getf (i := 52) (v := .ref 640) rfl rfl (by decide) rfl (by decide) rfl rfl rfl rfl ?_
        refine jr.iload_n rfl rfl ?_
        obtain ⟨v4, e4⟩ : ∃ z, M 640 f = z := ⟨_, rfl⟩
        have b4 : (-1) ≤ v4 ∧ v4 ≤ 3 := by rw [← e4]; exact (by have q := hI_M 640 f (by decide); rw [xri_row rfl rfl] at q; exact q)
        refine jr.iald (i := f) (x := v4) rfl (by decide) rfl (by decide) (by omega) (by omega) e4 ?_
        refine jr.iconst rfl ?_
        refine jr.icmp_eq rfl rfl (by omega) (by omega) (fun h29 => ?_) (fun h29 => ?_)
        · refine jr.aload_n rfl rfl ?_
          obtain ⟨v5, e5⟩ : ∃ z, M 598 1 = z := ⟨_, rfl⟩
          have b5 : 0 ≤ v5 ∧ v5 ≤ 1600 := by rw [← e5]; exact hI_M 598 1 (by decide)
          refine jr.getf (i := 1) (x := v5) (v := .int (Int32.ofInt (v5))) rfl rfl (by decide) rfl (by decide) rfl rfl e5 rfl ?_
          refine jr.istore_n (ls' := [_, _, _]) rfl (by decide) rfl ?_
          refine jr.iconst rfl ?_
          refine jr.iload_n rfl rfl ?_
          refine jr.imul rfl ?_
          refine jr.istore_n (ls' := [_, _, _, _]) rfl (by decide) rfl ?_
          refine jr.iload_n rfl rfl ?_
          refine jr.iconst rfl ?_
          refine jr.iadd rfl ?_
          refine jr.istore (ls' := [_, _, _, _, _]) rfl (by decide) rfl ?_
          refine jr.aload_n rfl rfl ?_
          refine jr.getf (i := 0) (v := .ref 599) rfl rfl (by decide) rfl (by decide) rfl rfl rfl rfl ?_
          refine jr.iload_n rfl rfl ?_
          refine jr.aload_n rfl rfl ?_
          refine jr.getf (i := 41) (v := .ref 629) rfl rfl (by decide) rfl (by decide) rfl rfl rfl rfl ?_
          refine jr.iload_n rfl rfl ?_
          obtain ⟨v6, e6⟩ : ∃ z, M 629 f = z := ⟨_, rfl⟩
          have b6 : 0 ≤ v6 ∧ v6 ≤ 255 := by rw [← e6]; exact (by have q := hI_M 629 f (by decide); rw [xri_row rfl rfl] at q; exact q)
          refine jr.iald (i := f) (x := v6) rfl (by decide) rfl (by decide) (by omega) (by omega) e6 ?_
          refine jr.iast (i := v5) (x := v6) rfl (by decide) rfl (by decide) (by omega) (by omega) ?_
          refine jr.aload_n rfl rfl ?_
          refine jr.getf (i := 0) (v := .ref 599) rfl rfl (by decide) rfl (by decide) rfl rfl rfl rfl ?_
          refine jr.iload_n rfl rfl ?_
          refine jr.iconst rfl ?_
          refine jr.iadd rfl ?_
          refine jr.aload_n rfl rfl ?_
          refine jr.getf (i := 50) (v := .ref 638) rfl rfl (by decide) rfl (by decide) rfl rfl rfl rfl ?_
          refine jr.iload_n rfl rfl ?_
          obtain ⟨v7, e7⟩ : ∃ z, M 638 f = z := ⟨_, rfl⟩
          have b7 : 0 ≤ v7 ∧ v7 ≤ 15 := by rw [← e7]; exact (by have q := hI_M 638 f (by decide); rw [xri_row rfl rfl] at q; exact q)
          refine jr.iald (i := f) (x := v7) rfl (by decide) rfl (by decide) (by omega) (by omega) ((ju_c _ _ (by decide)).trans e7) ?_
          refine jr.aload_n rfl rfl ?_
          refine jr.getf (i := 40) (v := .ref 628) rfl rfl (by decide) rfl (by decide) rfl rfl rfl rfl ?_
          refine jr.iload_n rfl rfl ?_
          obtain ⟨v8, e8⟩ : ∃ z, M 628 f = z := ⟨_, rfl⟩
          have b8 : 0 ≤ v8 ∧ v8 ≤ 1 := by rw [← e8]; exact (by have q := hI_M 628 f (by decide); rw [xri_row rfl rfl] at q; exact q)
          refine jr.zald (i := f) (x := v8) rfl (by decide) rfl (by decide) (by omega) (by omega) ((ju_c _ _ (by decide)).trans e8) ?_
          refine jr.if_eq rfl rfl (by omega) (fun h80 => ?_) (fun h80 => ?_)
          · refine jr.iconst rfl ?_
            refine jr.ior rfl ?_
            have b9 : j_or v7 0 = v7 + 0 ∧ 0 ≤ j_or v7 0 ∧ j_or v7 0 ≤ 31 := ⟨j_or_a 4 (by decide) (by omega) (by omega), by rw [j_or_a 4 (by decide) (by omega) (by omega)]; omega⟩
            generalize j_or v7 0 = v9 at b9 ⊢
            refine jr.aload_n rfl rfl ?_
            refine jr.getf (i := 44) (v := .ref 632) rfl rfl (by decide) rfl (by decide) rfl rfl rfl rfl ?_
            refine jr.iload_n rfl rfl ?_
            obtain ⟨v10, e10⟩ : ∃ z, M 632 (2 * f) = z := ⟨_, rfl⟩
            have b10 : 0 ≤ v10 ∧ v10 ≤ 1 := by rw [← e10]; exact (by have q := hI_M 632 (2 * f) (by decide); rw [xri_row rfl rfl] at q; exact q)
            refine jr.zald (i := (2 * f)) (x := v10) rfl (by decide) rfl (by decide) (by omega) (by omega) ((ju_c _ _ (by decide)).trans e10) ?_
            refine jr.if_eq rfl rfl (by omega) (fun h96 => ?_) (fun h96 => ?_)
            · refine jr.iconst rfl ?_
              refine jr.ior rfl ?_
              have b11 : j_or v9 0 = v9 + 0 ∧ 0 ≤ j_or v9 0 ∧ j_or v9 0 ≤ 63 := ⟨j_or_a 5 (by decide) (by omega) (by omega), by rw [j_or_a 5 (by decide) (by omega) (by omega)]; omega⟩
              generalize j_or v9 0 = v11 at b11 ⊢
              refine jr.aload_n rfl rfl ?_
              refine jr.getf (i := 44) (v := .ref 632) rfl rfl (by decide) rfl (by decide) rfl rfl rfl rfl ?_
              refine jr.iload rfl rfl ?_
              obtain ⟨v12, e12⟩ : ∃ z, M 632 ((2 * f) + 1) = z := ⟨_, rfl⟩
              have b12 : 0 ≤ v12 ∧ v12 ≤ 1 := by rw [← e12]; exact (by have q := hI_M 632 ((2 * f) + 1) (by decide); rw [xri_row rfl rfl] at q; exact q)
              refine jr.zald (i := ((2 * f) + 1)) (x := v12) rfl (by decide) rfl (by decide) (by omega) (by omega) ((ju_c _ _ (by decide)).trans e12) ?_
              refine jr.if_eq rfl rfl (by omega) (fun h113 => ?_) (fun h113 => ?_)
              · refine jr.iconst rfl ?_
                refine jr.ior rfl ?_
                have b13 : j_or v11 0 = v11 + 0 ∧ 0 ≤ j_or v11 0 ∧ j_or v11 0 ≤ 127 := ⟨j_or_a 6 (by decide) (by omega) (by omega), by rw [j_or_a 6 (by decide) (by omega) (by omega)]; omega⟩
                generalize j_or v11 0 = v13 at b13 ⊢
                refine jr.aload_n rfl rfl ?_
                refine jr.getf (i := 46) (v := .ref 634) rfl rfl (by decide) rfl (by decide) rfl rfl rfl rfl ?_
                refine jr.iload rfl rfl ?_
                obtain ⟨v14, e14⟩ : ∃ z, M 634 ((2 * f) + 1) = z := ⟨_, rfl⟩
                have b14 : 0 ≤ v14 ∧ v14 ≤ 1 := by rw [← e14]; exact (by have q := hI_M 634 ((2 * f) + 1) (by decide); rw [xri_row rfl rfl] at q; exact q)
                refine jr.zald (i := ((2 * f) + 1)) (x := v14) rfl (by decide) rfl (by decide) (by omega) (by omega) ((ju_c _ _ (by decide)).trans e14) ?_
                refine jr.if_eq rfl rfl (by omega) (fun h130 => ?_) (fun h130 => ?_)
                · refine jr.iconst rfl ?_
                  refine jr.ior rfl ?_
                  have b15 : j_or v13 0 = v13 + 0 ∧ 0 ≤ j_or v13 0 ∧ j_or v13 0 ≤ 255 := ⟨j_or_a 7 (by decide) (by omega) (by omega), by rw [j_or_a 7 (by decide) (by omega) (by omega)]; omega⟩
                  generalize j_or v13 0 = v15 at b15 ⊢
                  refine jr.iast (i := (v5 + 1)) (x := v15) rfl (by decide) rfl (by decide) (by omega) (by omega) ?_
                  refine jr.pick (ls := [_, _, _, _, _]) [0, 1, 2, 3, 4] rfl rfl ?_
                  exact r_export_L142_x q (nM - 1) (ih (nM - 1) (by omega)) (ju (ju M 599 v5 v6) 599 (v5 + 1) v15) ((2 * f) + 1) (2 * f) v5 f (RI.u (RI.u hI_M (a := 599) (i := v5) (by rw [xri_row rfl rfl]; show (0 : Int) ≤ _ ∧ _ ≤ (255 : Int); omega)) (a := 599) (i := (v5 + 1)) (by rw [xri_row rfl rfl]; show (0 : Int) ≤ _ ∧ _ ≤ (255 : Int); omega)) (RH.o (RH.o hH_M (by decide) (by decide) (by decide)) (by decide) (by decide) (by decide)) (RF.o (RF.o hS_M (by decide) (by decide)) (by decide) (by decide))  (fun a i f598 f599 => ((ju_c _ _ f599).trans ((ju_c _ _ f599).trans (hF_M a i f598 f599)))) (fun i g1 => ((ju_c _ _ (by decide)).trans ((ju_c _ _ (by decide)).trans (hG_M i g1)))) (by omega) (by omega) (by omega) (by omega) (by omega) (by omega) (by omega) (by omega) ((((ju_c _ _ (by decide)).trans ((ju_c _ _ (by decide)).trans e5))).trans (by omega)) (by have hs : M0 638 f + flg6 M0 f = v15 := (by unfold flg6; rw [(show M0 638 (f) = v7 from (hF_M 638 (f) (by decide) (by decide)).symm.trans e7), (show M0 628 (f) = v8 from (hF_M 628 (f) (by decide) (by decide)).symm.trans e8), (show M0 632 (2 * f) = v10 from (hF_M 632 (2 * f) (by decide) (by decide)).symm.trans e10), (show M0 632 ((2 * f) + 1) = v12 from (hF_M 632 ((2 * f) + 1) (by decide) (by decide)).symm.trans e12), (show M0 634 ((2 * f) + 1) = v14 from (hF_M 634 ((2 * f) + 1) (by decide) (by decide)).symm.trans e14)]; (repeat' split) <;> omega); rw [hs, (show M0 629 f = v6 from (hF_M 629 f (by decide) (by decide)).symm.trans e6), jp1 (by omega), jp1 (by omega), hy2.1]; rfl) ⟨by rw [← hy2.2]; exact e5.symm, by rw [u6_1 ⟨by rw [(show M0 627 f = v2 from (hF_M 627 f (by decide) (by decide)).symm.trans e2)]; omega, by rw [(show M0 640 f = v4 from (hF_M 640 f (by decide) (by decide)).symm.trans e4)]; omega⟩]; decide⟩
                · have sx130 : (1 : Int) ≤ v14 := by omega
                  clear h130
                  refine jr.sipush rfl (by decide) ?_
                  refine jr.goto rfl rfl ?_
                  refine jr.ior rfl ?_
                  have b16 : j_or v13 128 = v13 + 128 ∧ 0 ≤ j_or v13 128 ∧ j_or v13 128 ≤ 255 := ⟨j_or_a 7 (by decide) (by omega) (by omega), by rw [j_or_a 7 (by decide) (by omega) (by omega)]; omega⟩
                  generalize j_or v13 128 = v16 at b16 ⊢
                  refine jr.iast (i := (v5 + 1)) (x := v16) rfl (by decide) rfl (by decide) (by omega) (by omega) ?_
                  refine jr.pick (ls := [_, _, _, _, _]) [0, 1, 2, 3, 4] rfl rfl ?_
                  exact r_export_L142_x q (nM - 1) (ih (nM - 1) (by omega)) (ju (ju M 599 v5 v6) 599 (v5 + 1) v16) ((2 * f) + 1) (2 * f) v5 f (RI.u (RI.u hI_M (a := 599) (i := v5) (by rw [xri_row rfl rfl]; show (0 : Int) ≤ _ ∧ _ ≤ (255 : Int); omega)) (a := 599) (i := (v5 + 1)) (by rw [xri_row rfl rfl]; show (0 : Int) ≤ _ ∧ _ ≤ (255 : Int); omega)) (RH.o (RH.o hH_M (by decide) (by decide) (by decide)) (by decide) (by decide) (by decide)) (RF.o (RF.o hS_M (by decide) (by decide)) (by decide) (by decide))  (fun a i f598 f599 => ((ju_c _ _ f599).trans ((ju_c _ _ f599).trans (hF_M a i f598 f599)))) (fun i g1 => ((ju_c _ _ (by decide)).trans ((ju_c _ _ (by decide)).trans (hG_M i g1)))) (by omega) (by omega) (by omega) (by omega) (by omega) (by omega) (by omega) (by omega) ((((ju_c _ _ (by decide)).trans ((ju_c _ _ (by decide)).trans e5))).trans (by omega)) (by have hs : M0 638 f + flg6 M0 f = v16 := (by unfold flg6; rw [(show M0 638 (f) = v7 from (hF_M 638 (f) (by decide) (by decide)).symm.trans e7), (show M0 628 (f) = v8 from (hF_M 628 (f) (by decide) (by decide)).symm.trans e8), (show M0 632 (2 * f) = v10 from (hF_M 632 (2 * f) (by decide) (by decide)).symm.trans e10), (show M0 632 ((2 * f) + 1) = v12 from (hF_M 632 ((2 * f) + 1) (by decide) (by decide)).symm.trans e12), (show M0 634 ((2 * f) + 1) = v14 from (hF_M 634 ((2 * f) + 1) (by decide) (by decide)).symm.trans e14)]; (repeat' split) <;> omega); rw [hs, (show M0 629 f = v6 from (hF_M 629 f (by decide) (by decide)).symm.trans e6), jp1 (by omega), jp1 (by omega), hy2.1]; rfl) ⟨by rw [← hy2.2]; exact e5.symm, by rw [u6_1 ⟨by rw [(show M0 627 f = v2 from (hF_M 627 f (by decide) (by decide)).symm.trans e2)]; omega, by rw [(show M0 640 f = v4 from (hF_M 640 f (by decide) (by decide)).symm.trans e4)]; omega⟩]; decide⟩
              · have sx113 : (1 : Int) ≤ v12 := by omega
                clear h113
                refine jr.bipush rfl (by decide) ?_
                refine jr.goto rfl rfl ?_
                refine jr.ior rfl ?_
                have b17 : j_or v11 64 = v11 + 64 ∧ 0 ≤ j_or v11 64 ∧ j_or v11 64 ≤ 127 := ⟨j_or_a 6 (by decide) (by omega) (by omega), by rw [j_or_a 6 (by decide) (by omega) (by omega)]; omega⟩
                generalize j_or v11 64 = v17 at b17 ⊢
                refine jr.aload_n rfl rfl ?_
                refine jr.getf (i := 46) (v := .ref 634) rfl rfl (by decide) rfl (by decide) rfl rfl rfl rfl ?_
                refine jr.iload rfl rfl ?_
                obtain ⟨v18, e18⟩ : ∃ z, M 634 ((2 * f) + 1) = z := ⟨_, rfl⟩
                have b18 : 0 ≤ v18 ∧ v18 ≤ 1 := by rw [← e18]; exact (by have q := hI_M 634 ((2 * f) + 1) (by decide); rw [xri_row rfl rfl] at q; exact q)
                refine jr.zald (i := ((2 * f) + 1)) (x := v18) rfl (by decide) rfl (by decide) (by omega) (by omega) ((ju_c _ _ (by decide)).trans e18) ?_
                refine jr.if_eq rfl rfl (by omega) (fun h130 => ?_) (fun h130 => ?_)
                · refine jr.iconst rfl ?_
                  refine jr.ior rfl ?_
                  have b19 : j_or v17 0 = v17 + 0 ∧ 0 ≤ j_or v17 0 ∧ j_or v17 0 ≤ 255 := ⟨j_or_a 7 (by decide) (by omega) (by omega), by rw [j_or_a 7 (by decide) (by omega) (by omega)]; omega⟩
                  generalize j_or v17 0 = v19 at b19 ⊢
                  refine jr.iast (i := (v5 + 1)) (x := v19) rfl (by decide) rfl (by decide) (by omega) (by omega) ?_
                  refine jr.pick (ls := [_, _, _, _, _]) [0, 1, 2, 3, 4] rfl rfl ?_
                  exact r_export_L142_x q (nM - 1) (ih (nM - 1) (by omega)) (ju (ju M 599 v5 v6) 599 (v5 + 1) v19) ((2 * f) + 1) (2 * f) v5 f (RI.u (RI.u hI_M (a := 599) (i := v5) (by rw [xri_row rfl rfl]; show (0 : Int) ≤ _ ∧ _ ≤ (255 : Int); omega)) (a := 599) (i := (v5 + 1)) (by rw [xri_row rfl rfl]; show (0 : Int) ≤ _ ∧ _ ≤ (255 : Int); omega)) (RH.o (RH.o hH_M (by decide) (by decide) (by decide)) (by decide) (by decide) (by decide)) (RF.o (RF.o hS_M (by decide) (by decide)) (by decide) (by decide))  (fun a i f598 f599 => ((ju_c _ _ f599).trans ((ju_c _ _ f599).trans (hF_M a i f598 f599)))) (fun i g1 => ((ju_c _ _ (by decide)).trans ((ju_c _ _ (by decide)).trans (hG_M i g1)))) (by omega) (by omega) (by omega) (by omega) (by omega) (by omega) (by omega) (by omega) ((((ju_c _ _ (by decide)).trans ((ju_c _ _ (by decide)).trans e5))).trans (by omega)) (by have hs : M0 638 f + flg6 M0 f = v19 := (by unfold flg6; rw [(show M0 638 (f) = v7 from (hF_M 638 (f) (by decide) (by decide)).symm.trans e7), (show M0 628 (f) = v8 from (hF_M 628 (f) (by decide) (by decide)).symm.trans e8), (show M0 632 (2 * f) = v10 from (hF_M 632 (2 * f) (by decide) (by decide)).symm.trans e10), (show M0 632 ((2 * f) + 1) = v12 from (hF_M 632 ((2 * f) + 1) (by decide) (by decide)).symm.trans e12), (show M0 634 ((2 * f) + 1) = v18 from (hF_M 634 ((2 * f) + 1) (by decide) (by decide)).symm.trans e18)]; (repeat' split) <;> omega); rw [hs, (show M0 629 f = v6 from (hF_M 629 f (by decide) (by decide)).symm.trans e6), jp1 (by omega), jp1 (by omega), hy2.1]; rfl) ⟨by rw [← hy2.2]; exact e5.symm, by rw [u6_1 ⟨by rw [(show M0 627 f = v2 from (hF_M 627 f (by decide) (by decide)).symm.trans e2)]; omega, by rw [(show M0 640 f = v4 from (hF_M 640 f (by decide) (by decide)).symm.trans e4)]; omega⟩]; decide⟩
                · have sx130 : (1 : Int) ≤ v18 := by omega
                  clear h130
                  refine jr.sipush rfl (by decide) ?_
                  refine jr.goto rfl rfl ?_
                  refine jr.ior rfl ?_
                  have b20 : j_or v17 128 = v17 + 128 ∧ 0 ≤ j_or v17 128 ∧ j_or v17 128 ≤ 255 := ⟨j_or_a 7 (by decide) (by omega) (by omega), by rw [j_or_a 7 (by decide) (by omega) (by omega)]; omega⟩
                  generalize j_or v17 128 = v20 at b20 ⊢
                  refine jr.iast (i := (v5 + 1)) (x := v20) rfl (by decide) rfl (by decide) (by omega) (by omega) ?_
                  refine jr.pick (ls := [_, _, _, _, _]) [0, 1, 2, 3, 4] rfl rfl ?_
                  exact r_export_L142_x q (nM - 1) (ih (nM - 1) (by omega)) (ju (ju M 599 v5 v6) 599 (v5 + 1) v20) ((2 * f) + 1) (2 * f) v5 f (RI.u (RI.u hI_M (a := 599) (i := v5) (by rw [xri_row rfl rfl]; show (0 : Int) ≤ _ ∧ _ ≤ (255 : Int); omega)) (a := 599) (i := (v5 + 1)) (by rw [xri_row rfl rfl]; show (0 : Int) ≤ _ ∧ _ ≤ (255 : Int); omega)) (RH.o (RH.o hH_M (by decide) (by decide) (by decide)) (by decide) (by decide) (by decide)) (RF.o (RF.o hS_M (by decide) (by decide)) (by decide) (by decide))  (fun a i f598 f599 => ((ju_c _ _ f599).trans ((ju_c _ _ f599).trans (hF_M a i f598 f599)))) (fun i g1 => ((ju_c _ _ (by decide)).trans ((ju_c _ _ (by decide)).trans (hG_M i g1)))) (by omega) (by omega) (by omega) (by omega) (by omega) (by omega) (by omega) (by omega) ((((ju_c _ _ (by decide)).trans ((ju_c _ _ (by decide)).trans e5))).trans (by omega)) (by have hs : M0 638 f + flg6 M0 f = v20 := (by unfold flg6; rw [(show M0 638 (f) = v7 from (hF_M 638 (f) (by decide) (by decide)).symm.trans e7), (show M0 628 (f) = v8 from (hF_M 628 (f) (by decide) (by decide)).symm.trans e8), (show M0 632 (2 * f) = v10 from (hF_M 632 (2 * f) (by decide) (by decide)).symm.trans e10), (show M0 632 ((2 * f) + 1) = v12 from (hF_M 632 ((2 * f) + 1) (by decide) (by decide)).symm.trans e12), (show M0 634 ((2 * f) + 1) = v18 from (hF_M 634 ((2 * f) + 1) (by decide) (by decide)).symm.trans e18)]; (repeat' split) <;> omega); rw [hs, (show M0 629 f = v6 from (hF_M 629 f (by decide) (by decide)).symm.trans e6), jp1 (by omega), jp1 (by omega), hy2.1]; rfl) ⟨by rw [← hy2.2]; exact e5.symm, by rw [u6_1 ⟨by rw [(show M0 627 f = v2 from (hF_M 627 f (by decide) (by decide)).symm.trans e2)]; omega, by rw [(show M0 640 f = v4 from (hF_M 640 f (by decide) (by decide)).symm.trans e4)]; omega⟩]; decide⟩
            · have sx96 : (1 : Int) ≤ v10 := by omega
              clear h96
              refine jr.bipush rfl (by decide) ?_
              refine jr.goto rfl rfl ?_
              refine jr.ior rfl ?_
              have b21 : j_or v9 32 = v9 + 32 ∧ 0 ≤ j_or v9 32 ∧ j_or v9 32 ≤ 63 := ⟨j_or_a 5 (by decide) (by omega) (by omega), by rw [j_or_a 5 (by decide) (by omega) (by omega)]; omega⟩
              generalize j_or v9 32 = v21 at b21 ⊢
              refine jr.aload_n rfl rfl ?_
              refine jr.getf (i := 44) (v := .ref 632) rfl rfl (by decide) rfl (by decide) rfl rfl rfl rfl ?_
              refine jr.iload rfl rfl ?_
              obtain ⟨v22, e22⟩ : ∃ z, M 632 ((2 * f) + 1) = z := ⟨_, rfl⟩
              have b22 : 0 ≤ v22 ∧ v22 ≤ 1 := by rw [← e22]; exact (by have q := hI_M 632 ((2 * f) + 1) (by decide); rw [xri_row rfl rfl] at q; exact q)
              refine jr.zald (i := ((2 * f) + 1)) (x := v22) rfl (by decide) rfl (by decide) (by omega) (by omega) ((ju_c _ _ (by decide)).trans e22) ?_
              refine jr.if_eq rfl rfl (by omega) (fun h113 => ?_) (fun h113 => ?_)
              · refine jr.iconst rfl ?_
                refine jr.ior rfl ?_
                have b23 : j_or v21 0 = v21 + 0 ∧ 0 ≤ j_or v21 0 ∧ j_or v21 0 ≤ 127 := ⟨j_or_a 6 (by decide) (by omega) (by omega), by rw [j_or_a 6 (by decide) (by omega) (by omega)]; omega⟩
                generalize j_or v21 0 = v23 at b23 ⊢
                refine jr.aload_n rfl rfl ?_
                refine jr.getf (i := 46) (v := .ref 634) rfl rfl (by decide) rfl (by decide) rfl rfl rfl rfl ?_
                refine jr.iload rfl rfl ?_
                obtain ⟨v24, e24⟩ : ∃ z, M 634 ((2 * f) + 1) = z := ⟨_, rfl⟩
                have b24 : 0 ≤ v24 ∧ v24 ≤ 1 := by rw [← e24]; exact (by have q := hI_M 634 ((2 * f) + 1) (by decide); rw [xri_row rfl rfl] at q; exact q)
                refine jr.zald (i := ((2 * f) + 1)) (x := v24) rfl (by decide) rfl (by decide) (by omega) (by omega) ((ju_c _ _ (by decide)).trans e24) ?_
                refine jr.if_eq rfl rfl (by omega) (fun h130 => ?_) (fun h130 => ?_)
                · refine jr.iconst rfl ?_
                  refine jr.ior rfl ?_
                  have b25 : j_or v23 0 = v23 + 0 ∧ 0 ≤ j_or v23 0 ∧ j_or v23 0 ≤ 255 := ⟨j_or_a 7 (by decide) (by omega) (by omega), by rw [j_or_a 7 (by decide) (by omega) (by omega)]; omega⟩
                  generalize j_or v23 0 = v25 at b25 ⊢
                  refine jr.iast (i := (v5 + 1)) (x := v25) rfl (by decide) rfl (by decide) (by omega) (by omega) ?_
                  refine jr.pick (ls := [_, _, _, _, _]) [0, 1, 2, 3, 4] rfl rfl ?_
                  exact r_export_L142_x q (nM - 1) (ih (nM - 1) (by omega)) (ju (ju M 599 v5 v6) 599 (v5 + 1) v25) ((2 * f) + 1) (2 * f) v5 f (RI.u (RI.u hI_M (a := 599) (i := v5) (by rw [xri_row rfl rfl]; show (0 : Int) ≤ _ ∧ _ ≤ (255 : Int); omega)) (a := 599) (i := (v5 + 1)) (by rw [xri_row rfl rfl]; show (0 : Int) ≤ _ ∧ _ ≤ (255 : Int); omega)) (RH.o (RH.o hH_M (by decide) (by decide) (by decide)) (by decide) (by decide) (by decide)) (RF.o (RF.o hS_M (by decide) (by decide)) (by decide) (by decide))  (fun a i f598 f599 => ((ju_c _ _ f599).trans ((ju_c _ _ f599).trans (hF_M a i f598 f599)))) (fun i g1 => ((ju_c _ _ (by decide)).trans ((ju_c _ _ (by decide)).trans (hG_M i g1)))) (by omega) (by omega) (by omega) (by omega) (by omega) (by omega) (by omega) (by omega) ((((ju_c _ _ (by decide)).trans ((ju_c _ _ (by decide)).trans e5))).trans (by omega)) (by have hs : M0 638 f + flg6 M0 f = v25 := (by unfold flg6; rw [(show M0 638 (f) = v7 from (hF_M 638 (f) (by decide) (by decide)).symm.trans e7), (show M0 628 (f) = v8 from (hF_M 628 (f) (by decide) (by decide)).symm.trans e8), (show M0 632 (2 * f) = v10 from (hF_M 632 (2 * f) (by decide) (by decide)).symm.trans e10), (show M0 632 ((2 * f) + 1) = v22 from (hF_M 632 ((2 * f) + 1) (by decide) (by decide)).symm.trans e22), (show M0 634 ((2 * f) + 1) = v24 from (hF_M 634 ((2 * f) + 1) (by decide) (by decide)).symm.trans e24)]; (repeat' split) <;> omega); rw [hs, (show M0 629 f = v6 from (hF_M 629 f (by decide) (by decide)).symm.trans e6), jp1 (by omega), jp1 (by omega), hy2.1]; rfl) ⟨by rw [← hy2.2]; exact e5.symm, by rw [u6_1 ⟨by rw [(show M0 627 f = v2 from (hF_M 627 f (by decide) (by decide)).symm.trans e2)]; omega, by rw [(show M0 640 f = v4 from (hF_M 640 f (by decide) (by decide)).symm.trans e4)]; omega⟩]; decide⟩
                · have sx130 : (1 : Int) ≤ v24 := by omega
                  clear h130
                  refine jr.sipush rfl (by decide) ?_
                  refine jr.goto rfl rfl ?_
                  refine jr.ior rfl ?_
                  have b26 : j_or v23 128 = v23 + 128 ∧ 0 ≤ j_or v23 128 ∧ j_or v23 128 ≤ 255 := ⟨j_or_a 7 (by decide) (by omega) (by omega), by rw [j_or_a 7 (by decide) (by omega) (by omega)]; omega⟩
                  generalize j_or v23 128 = v26 at b26 ⊢
                  refine jr.iast (i := (v5 + 1)) (x := v26) rfl (by decide) rfl (by decide) (by omega) (by omega) ?_
                  refine jr.pick (ls := [_, _, _, _, _]) [0, 1, 2, 3, 4] rfl rfl ?_
                  exact r_export_L142_x q (nM - 1) (ih (nM - 1) (by omega)) (ju (ju M 599 v5 v6) 599 (v5 + 1) v26) ((2 * f) + 1) (2 * f) v5 f (RI.u (RI.u hI_M (a := 599) (i := v5) (by rw [xri_row rfl rfl]; show (0 : Int) ≤ _ ∧ _ ≤ (255 : Int); omega)) (a := 599) (i := (v5 + 1)) (by rw [xri_row rfl rfl]; show (0 : Int) ≤ _ ∧ _ ≤ (255 : Int); omega)) (RH.o (RH.o hH_M (by decide) (by decide) (by decide)) (by decide) (by decide) (by decide)) (RF.o (RF.o hS_M (by decide) (by decide)) (by decide) (by decide))  (fun a i f598 f599 => ((ju_c _ _ f599).trans ((ju_c _ _ f599).trans (hF_M a i f598 f599)))) (fun i g1 => ((ju_c _ _ (by decide)).trans ((ju_c _ _ (by decide)).trans (hG_M i g1)))) (by omega) (by omega) (by omega) (by omega) (by omega) (by omega) (by omega) (by omega) ((((ju_c _ _ (by decide)).trans ((ju_c _ _ (by decide)).trans e5))).trans (by omega)) (by have hs : M0 638 f + flg6 M0 f = v26 := (by unfold flg6; rw [(show M0 638 (f) = v7 from (hF_M 638 (f) (by decide) (by decide)).symm.trans e7), (show M0 628 (f) = v8 from (hF_M 628 (f) (by decide) (by decide)).symm.trans e8), (show M0 632 (2 * f) = v10 from (hF_M 632 (2 * f) (by decide) (by decide)).symm.trans e10), (show M0 632 ((2 * f) + 1) = v22 from (hF_M 632 ((2 * f) + 1) (by decide) (by decide)).symm.trans e22), (show M0 634 ((2 * f) + 1) = v24 from (hF_M 634 ((2 * f) + 1) (by decide) (by decide)).symm.trans e24)]; (repeat' split) <;> omega); rw [hs, (show M0 629 f = v6 from (hF_M 629 f (by decide) (by decide)).symm.trans e6), jp1 (by omega), jp1 (by omega), hy2.1]; rfl) ⟨by rw [← hy2.2]; exact e5.symm, by rw [u6_1 ⟨by rw [(show M0 627 f = v2 from (hF_M 627 f (by decide) (by decide)).symm.trans e2)]; omega, by rw [(show M0 640 f = v4 from (hF_M 640 f (by decide) (by decide)).symm.trans e4)]; omega⟩]; decide⟩
              · have sx113 : (1 : Int) ≤ v22 := by omega
                clear h113
                refine jr.bipush rfl (by decide) ?_
                refine jr.goto rfl rfl ?_
                refine jr.ior rfl ?_
                have b27 : j_or v21 64 = v21 + 64 ∧ 0 ≤ j_or v21 64 ∧ j_or v21 64 ≤ 127 := ⟨j_or_a 6 (by decide) (by omega) (by omega), by rw [j_or_a 6 (by decide) (by omega) (by omega)]; omega⟩
                generalize j_or v21 64 = v27 at b27 ⊢
                refine jr.aload_n rfl rfl ?_
                refine jr.getf (i := 46) (v := .ref 634) rfl rfl (by decide) rfl (by decide) rfl rfl rfl rfl ?_
                refine jr.iload rfl rfl ?_
                obtain ⟨v28, e28⟩ : ∃ z, M 634 ((2 * f) + 1) = z := ⟨_, rfl⟩
                have b28 : 0 ≤ v28 ∧ v28 ≤ 1 := by rw [← e28]; exact (by have q := hI_M 634 ((2 * f) + 1) (by decide); rw [xri_row rfl rfl] at q; exact q)
                refine jr.zald (i := ((2 * f) + 1)) (x := v28) rfl (by decide) rfl (by decide) (by omega) (by omega) ((ju_c _ _ (by decide)).trans e28) ?_
                refine jr.if_eq rfl rfl (by omega) (fun h130 => ?_) (fun h130 => ?_)
                · refine jr.iconst rfl ?_
                  refine jr.ior rfl ?_
                  have b29 : j_or v27 0 = v27 + 0 ∧ 0 ≤ j_or v27 0 ∧ j_or v27 0 ≤ 255 := ⟨j_or_a 7 (by decide) (by omega) (by omega), by rw [j_or_a 7 (by decide) (by omega) (by omega)]; omega⟩
                  generalize j_or v27 0 = v29 at b29 ⊢
                  refine jr.iast (i := (v5 + 1)) (x := v29) rfl (by decide) rfl (by decide) (by omega) (by omega) ?_
                  refine jr.pick (ls := [_, _, _, _, _]) [0, 1, 2, 3, 4] rfl rfl ?_
                  exact r_export_L142_x q (nM - 1) (ih (nM - 1) (by omega)) (ju (ju M 599 v5 v6) 599 (v5 + 1) v29) ((2 * f) + 1) (2 * f) v5 f (RI.u (RI.u hI_M (a := 599) (i := v5) (by rw [xri_row rfl rfl]; show (0 : Int) ≤ _ ∧ _ ≤ (255 : Int); omega)) (a := 599) (i := (v5 + 1)) (by rw [xri_row rfl rfl]; show (0 : Int) ≤ _ ∧ _ ≤ (255 : Int); omega)) (RH.o (RH.o hH_M (by decide) (by decide) (by decide)) (by decide) (by decide) (by decide)) (RF.o (RF.o hS_M (by decide) (by decide)) (by decide) (by decide))  (fun a i f598 f599 => ((ju_c _ _ f599).trans ((ju_c _ _ f599).trans (hF_M a i f598 f599)))) (fun i g1 => ((ju_c _ _ (by decide)).trans ((ju_c _ _ (by decide)).trans (hG_M i g1)))) (by omega) (by omega) (by omega) (by omega) (by omega) (by omega) (by omega) (by omega) ((((ju_c _ _ (by decide)).trans ((ju_c _ _ (by decide)).trans e5))).trans (by omega)) (by have hs : M0 638 f + flg6 M0 f = v29 := (by unfold flg6; rw [(show M0 638 (f) = v7 from (hF_M 638 (f) (by decide) (by decide)).symm.trans e7), (show M0 628 (f) = v8 from (hF_M 628 (f) (by decide) (by decide)).symm.trans e8), (show M0 632 (2 * f) = v10 from (hF_M 632 (2 * f) (by decide) (by decide)).symm.trans e10), (show M0 632 ((2 * f) + 1) = v22 from (hF_M 632 ((2 * f) + 1) (by decide) (by decide)).symm.trans e22), (show M0 634 ((2 * f) + 1) = v28 from (hF_M 634 ((2 * f) + 1) (by decide) (by decide)).symm.trans e28)]; (repeat' split) <;> omega); rw [hs, (show M0 629 f = v6 from (hF_M 629 f (by decide) (by decide)).symm.trans e6), jp1 (by omega), jp1 (by omega), hy2.1]; rfl) ⟨by rw [← hy2.2]; exact e5.symm, by rw [u6_1 ⟨by rw [(show M0 627 f = v2 from (hF_M 627 f (by decide) (by decide)).symm.trans e2)]; omega, by rw [(show M0 640 f = v4 from (hF_M 640 f (by decide) (by decide)).symm.trans e4)]; omega⟩]; decide⟩
                · have sx130 : (1 : Int) ≤ v28 := by omega
                  clear h130
                  refine jr.sipush rfl (by decide) ?_
                  refine jr.goto rfl rfl ?_
                  refine jr.ior rfl ?_
                  have b30 : j_or v27 128 = v27 + 128 ∧ 0 ≤ j_or v27 128 ∧ j_or v27 128 ≤ 255 := ⟨j_or_a 7 (by decide) (by omega) (by omega), by rw [j_or_a 7 (by decide) (by omega) (by omega)]; omega⟩
                  generalize j_or v27 128 = v30 at b30 ⊢
                  refine jr.iast (i := (v5 + 1)) (x := v30) rfl (by decide) rfl (by decide) (by omega) (by omega) ?_
                  refine jr.pick (ls := [_, _, _, _, _]) [0, 1, 2, 3, 4] rfl rfl ?_
                  exact r_export_L142_x q (nM - 1) (ih (nM - 1) (by omega)) (ju (ju M 599 v5 v6) 599 (v5 + 1) v30) ((2 * f) + 1) (2 * f) v5 f (RI.u (RI.u hI_M (a := 599) (i := v5) (by rw [xri_row rfl rfl]; show (0 : Int) ≤ _ ∧ _ ≤ (255 : Int); omega)) (a := 599) (i := (v5 + 1)) (by rw [xri_row rfl rfl]; show (0 : Int) ≤ _ ∧ _ ≤ (255 : Int); omega)) (RH.o (RH.o hH_M (by decide) (by decide) (by decide)) (by decide) (by decide) (by decide)) (RF.o (RF.o hS_M (by decide) (by decide)) (by decide) (by decide))  (fun a i f598 f599 => ((ju_c _ _ f599).trans ((ju_c _ _ f599).trans (hF_M a i f598 f599)))) (fun i g1 => ((ju_c _ _ (by decide)).trans ((ju_c _ _ (by decide)).trans (hG_M i g1)))) (by omega) (by omega) (by omega) (by omega) (by omega) (by omega) (by omega) (by omega) ((((ju_c _ _ (by decide)).trans ((ju_c _ _ (by decide)).trans e5))).trans (by omega)) (by have hs : M0 638 f + flg6 M0 f = v30 := (by unfold flg6; rw [(show M0 638 (f) = v7 from (hF_M 638 (f) (by decide) (by decide)).symm.trans e7), (show M0 628 (f) = v8 from (hF_M 628 (f) (by decide) (by decide)).symm.trans e8), (show M0 632 (2 * f) = v10 from (hF_M 632 (2 * f) (by decide) (by decide)).symm.trans e10), (show M0 632 ((2 * f) + 1) = v22 from (hF_M 632 ((2 * f) + 1) (by decide) (by decide)).symm.trans e22), (show M0 634 ((2 * f) + 1) = v28 from (hF_M 634 ((2 * f) + 1) (by decide) (by decide)).symm.trans e28)]; (repeat' split) <;> omega); rw [hs, (show M0 629 f = v6 from (hF_M 629 f (by decide) (by decide)).symm.trans e6), jp1 (by omega), jp1 (by omega), hy2.1]; rfl) ⟨by rw [← hy2.2]; exact e5.symm, by rw [u6_1 ⟨by rw [(show M0 627 f = v2 from (hF_M 627 f (by decide) (by decide)).symm.trans e2)]; omega, by rw [(show M0 640 f = v4 from (hF_M 640 f (by decide) (by decide)).symm.trans e4)]; omega⟩]; decide⟩
          · have sx80 : (1 : Int) ≤ v8 := by omega
            clear h80
            refine jr.bipush rfl (by decide) ?_
            refine jr.goto rfl rfl ?_
            refine jr.ior rfl ?_
            have b31 : j_or v7 16 = v7 + 16 ∧ 0 ≤ j_or v7 16 ∧ j_or v7 16 ≤ 31 := ⟨j_or_a 4 (by decide) (by omega) (by omega), by rw [j_or_a 4 (by decide) (by omega) (by omega)]; omega⟩
            generalize j_or v7 16 = v31 at b31 ⊢
            refine jr.aload_n rfl rfl ?_
            refine jr.getf (i := 44) (v := .ref 632) rfl rfl (by decide) rfl (by decide) rfl rfl rfl rfl ?_
            refine jr.iload_n rfl rfl ?_
            obtain ⟨v32, e32⟩ : ∃ z, M 632 (2 * f) = z := ⟨_, rfl⟩
            have b32 : 0 ≤ v32 ∧ v32 ≤ 1 := by rw [← e32]; exact (by have q := hI_M 632 (2 * f) (by decide); rw [xri_row rfl rfl] at q; exact q)
            refine jr.zald (i := (2 * f)) (x := v32) rfl (by decide) rfl (by decide) (by omega) (by omega) ((ju_c _ _ (by decide)).trans e32) ?_
            refine jr.if_eq rfl rfl (by omega) (fun h96 => ?_) (fun h96 => ?_)
            · refine jr.iconst rfl ?_
              refine jr.ior rfl ?_
              have b33 : j_or v31 0 = v31 + 0 ∧ 0 ≤ j_or v31 0 ∧ j_or v31 0 ≤ 63 := ⟨j_or_a 5 (by decide) (by omega) (by omega), by rw [j_or_a 5 (by decide) (by omega) (by omega)]; omega⟩
              generalize j_or v31 0 = v33 at b33 ⊢
              refine jr.aload_n rfl rfl ?_
              refine jr.getf (i := 44) (v := .ref 632) rfl rfl (by decide) rfl (by decide) rfl rfl rfl rfl ?_
              refine jr.iload rfl rfl ?_
              obtain ⟨v34, e34⟩ : ∃ z, M 632 ((2 * f) + 1) = z := ⟨_, rfl⟩
              have b34 : 0 ≤ v34 ∧ v34 ≤ 1 := by rw [← e34]; exact (by have q := hI_M 632 ((2 * f) + 1) (by decide); rw [xri_row rfl rfl] at q; exact q)
              refine jr.zald (i := ((2 * f) + 1)) (x := v34) rfl (by decide) rfl (by decide) (by omega) (by omega) ((ju_c _ _ (by decide)).trans e34) ?_
              refine jr.if_eq rfl rfl (by omega) (fun h113 => ?_) (fun h113 => ?_)
              · refine jr.iconst rfl ?_
                refine jr.ior rfl ?_
                have b35 : j_or v33 0 = v33 + 0 ∧ 0 ≤ j_or v33 0 ∧ j_or v33 0 ≤ 127 := ⟨j_or_a 6 (by decide) (by omega) (by omega), by rw [j_or_a 6 (by decide) (by omega) (by omega)]; omega⟩
                generalize j_or v33 0 = v35 at b35 ⊢
                refine jr.aload_n rfl rfl ?_
                refine jr.getf (i := 46) (v := .ref 634) rfl rfl (by decide) rfl (by decide) rfl rfl rfl rfl ?_
                refine jr.iload rfl rfl ?_
                obtain ⟨v36, e36⟩ : ∃ z, M 634 ((2 * f) + 1) = z := ⟨_, rfl⟩
                have b36 : 0 ≤ v36 ∧ v36 ≤ 1 := by rw [← e36]; exact (by have q := hI_M 634 ((2 * f) + 1) (by decide); rw [xri_row rfl rfl] at q; exact q)
                refine jr.zald (i := ((2 * f) + 1)) (x := v36) rfl (by decide) rfl (by decide) (by omega) (by omega) ((ju_c _ _ (by decide)).trans e36) ?_
                refine jr.if_eq rfl rfl (by omega) (fun h130 => ?_) (fun h130 => ?_)
                · refine jr.iconst rfl ?_
                  refine jr.ior rfl ?_
                  have b37 : j_or v35 0 = v35 + 0 ∧ 0 ≤ j_or v35 0 ∧ j_or v35 0 ≤ 255 := ⟨j_or_a 7 (by decide) (by omega) (by omega), by rw [j_or_a 7 (by decide) (by omega) (by omega)]; omega⟩
                  generalize j_or v35 0 = v37 at b37 ⊢
                  refine jr.iast (i := (v5 + 1)) (x := v37) rfl (by decide) rfl (by decide) (by omega) (by omega) ?_
                  refine jr.pick (ls := [_, _, _, _, _]) [0, 1, 2, 3, 4] rfl rfl ?_
                  exact r_export_L142_x q (nM - 1) (ih (nM - 1) (by omega)) (ju (ju M 599 v5 v6) 599 (v5 + 1) v37) ((2 * f) + 1) (2 * f) v5 f (RI.u (RI.u hI_M (a := 599) (i := v5) (by rw [xri_row rfl rfl]; show (0 : Int) ≤ _ ∧ _ ≤ (255 : Int); omega)) (a := 599) (i := (v5 + 1)) (by rw [xri_row rfl rfl]; show (0 : Int) ≤ _ ∧ _ ≤ (255 : Int); omega)) (RH.o (RH.o hH_M (by decide) (by decide) (by decide)) (by decide) (by decide) (by decide)) (RF.o (RF.o hS_M (by decide) (by decide)) (by decide) (by decide))  (fun a i f598 f599 => ((ju_c _ _ f599).trans ((ju_c _ _ f599).trans (hF_M a i f598 f599)))) (fun i g1 => ((ju_c _ _ (by decide)).trans ((ju_c _ _ (by decide)).trans (hG_M i g1)))) (by omega) (by omega) (by omega) (by omega) (by omega) (by omega) (by omega) (by omega) ((((ju_c _ _ (by decide)).trans ((ju_c _ _ (by decide)).trans e5))).trans (by omega)) (by have hs : M0 638 f + flg6 M0 f = v37 := (by unfold flg6; rw [(show M0 638 (f) = v7 from (hF_M 638 (f) (by decide) (by decide)).symm.trans e7), (show M0 628 (f) = v8 from (hF_M 628 (f) (by decide) (by decide)).symm.trans e8), (show M0 632 (2 * f) = v32 from (hF_M 632 (2 * f) (by decide) (by decide)).symm.trans e32), (show M0 632 ((2 * f) + 1) = v34 from (hF_M 632 ((2 * f) + 1) (by decide) (by decide)).symm.trans e34), (show M0 634 ((2 * f) + 1) = v36 from (hF_M 634 ((2 * f) + 1) (by decide) (by decide)).symm.trans e36)]; (repeat' split) <;> omega); rw [hs, (show M0 629 f = v6 from (hF_M 629 f (by decide) (by decide)).symm.trans e6), jp1 (by omega), jp1 (by omega), hy2.1]; rfl) ⟨by rw [← hy2.2]; exact e5.symm, by rw [u6_1 ⟨by rw [(show M0 627 f = v2 from (hF_M 627 f (by decide) (by decide)).symm.trans e2)]; omega, by rw [(show M0 640 f = v4 from (hF_M 640 f (by decide) (by decide)).symm.trans e4)]; omega⟩]; decide⟩
                · have sx130 : (1 : Int) ≤ v36 := by omega
                  clear h130
                  refine jr.sipush rfl (by decide) ?_
                  refine jr.goto rfl rfl ?_
                  refine jr.ior rfl ?_
                  have b38 : j_or v35 128 = v35 + 128 ∧ 0 ≤ j_or v35 128 ∧ j_or v35 128 ≤ 255 := ⟨j_or_a 7 (by decide) (by omega) (by omega), by rw [j_or_a 7 (by decide) (by omega) (by omega)]; omega⟩
                  generalize j_or v35 128 = v38 at b38 ⊢
                  refine jr.iast (i := (v5 + 1)) (x := v38) rfl (by decide) rfl (by decide) (by omega) (by omega) ?_
                  refine jr.pick (ls := [_, _, _, _, _]) [0, 1, 2, 3, 4] rfl rfl ?_
                  exact r_export_L142_x q (nM - 1) (ih (nM - 1) (by omega)) (ju (ju M 599 v5 v6) 599 (v5 + 1) v38) ((2 * f) + 1) (2 * f) v5 f (RI.u (RI.u hI_M (a := 599) (i := v5) (by rw [xri_row rfl rfl]; show (0 : Int) ≤ _ ∧ _ ≤ (255 : Int); omega)) (a := 599) (i := (v5 + 1)) (by rw [xri_row rfl rfl]; show (0 : Int) ≤ _ ∧ _ ≤ (255 : Int); omega)) (RH.o (RH.o hH_M (by decide) (by decide) (by decide)) (by decide) (by decide) (by decide)) (RF.o (RF.o hS_M (by decide) (by decide)) (by decide) (by decide))  (fun a i f598 f599 => ((ju_c _ _ f599).trans ((ju_c _ _ f599).trans (hF_M a i f598 f599)))) (fun i g1 => ((ju_c _ _ (by decide)).trans ((ju_c _ _ (by decide)).trans (hG_M i g1)))) (by omega) (by omega) (by omega) (by omega) (by omega) (by omega) (by omega) (by omega) ((((ju_c _ _ (by decide)).trans ((ju_c _ _ (by decide)).trans e5))).trans (by omega)) (by have hs : M0 638 f + flg6 M0 f = v38 := (by unfold flg6; rw [(show M0 638 (f) = v7 from (hF_M 638 (f) (by decide) (by decide)).symm.trans e7), (show M0 628 (f) = v8 from (hF_M 628 (f) (by decide) (by decide)).symm.trans e8), (show M0 632 (2 * f) = v32 from (hF_M 632 (2 * f) (by decide) (by decide)).symm.trans e32), (show M0 632 ((2 * f) + 1) = v34 from (hF_M 632 ((2 * f) + 1) (by decide) (by decide)).symm.trans e34), (show M0 634 ((2 * f) + 1) = v36 from (hF_M 634 ((2 * f) + 1) (by decide) (by decide)).symm.trans e36)]; (repeat' split) <;> omega); rw [hs, (show M0 629 f = v6 from (hF_M 629 f (by decide) (by decide)).symm.trans e6), jp1 (by omega), jp1 (by omega), hy2.1]; rfl) ⟨by rw [← hy2.2]; exact e5.symm, by rw [u6_1 ⟨by rw [(show M0 627 f = v2 from (hF_M 627 f (by decide) (by decide)).symm.trans e2)]; omega, by rw [(show M0 640 f = v4 from (hF_M 640 f (by decide) (by decide)).symm.trans e4)]; omega⟩]; decide⟩
              · have sx113 : (1 : Int) ≤ v34 := by omega
                clear h113
                refine jr.bipush rfl (by decide) ?_
                refine jr.goto rfl rfl ?_
                refine jr.ior rfl ?_
                have b39 : j_or v33 64 = v33 + 64 ∧ 0 ≤ j_or v33 64 ∧ j_or v33 64 ≤ 127 := ⟨j_or_a 6 (by decide) (by omega) (by omega), by rw [j_or_a 6 (by decide) (by omega) (by omega)]; omega⟩
                generalize j_or v33 64 = v39 at b39 ⊢
                refine jr.aload_n rfl rfl ?_
                refine jr.getf (i := 46) (v := .ref 634) rfl rfl (by decide) rfl (by decide) rfl rfl rfl rfl ?_
                refine jr.iload rfl rfl ?_
                obtain ⟨v40, e40⟩ : ∃ z, M 634 ((2 * f) + 1) = z := ⟨_, rfl⟩
                have b40 : 0 ≤ v40 ∧ v40 ≤ 1 := by rw [← e40]; exact (by have q := hI_M 634 ((2 * f) + 1) (by decide); rw [xri_row rfl rfl] at q; exact q)
                refine jr.zald (i := ((2 * f) + 1)) (x := v40) rfl (by decide) rfl (by decide) (by omega) (by omega) ((ju_c _ _ (by decide)).trans e40) ?_
                refine jr.if_eq rfl rfl (by omega) (fun h130 => ?_) (fun h130 => ?_)
                · refine jr.iconst rfl ?_
                  refine jr.ior rfl ?_
                  have b41 : j_or v39 0 = v39 + 0 ∧ 0 ≤ j_or v39 0 ∧ j_or v39 0 ≤ 255 := ⟨j_or_a 7 (by decide) (by omega) (by omega), by rw [j_or_a 7 (by decide) (by omega) (by omega)]; omega⟩
                  generalize j_or v39 0 = v41 at b41 ⊢
                  refine jr.iast (i := (v5 + 1)) (x := v41) rfl (by decide) rfl (by decide) (by omega) (by omega) ?_
                  refine jr.pick (ls := [_, _, _, _, _]) [0, 1, 2, 3, 4] rfl rfl ?_
                  exact r_export_L142_x q (nM - 1) (ih (nM - 1) (by omega)) (ju (ju M 599 v5 v6) 599 (v5 + 1) v41) ((2 * f) + 1) (2 * f) v5 f (RI.u (RI.u hI_M (a := 599) (i := v5) (by rw [xri_row rfl rfl]; show (0 : Int) ≤ _ ∧ _ ≤ (255 : Int); omega)) (a := 599) (i := (v5 + 1)) (by rw [xri_row rfl rfl]; show (0 : Int) ≤ _ ∧ _ ≤ (255 : Int); omega)) (RH.o (RH.o hH_M (by decide) (by decide) (by decide)) (by decide) (by decide) (by decide)) (RF.o (RF.o hS_M (by decide) (by decide)) (by decide) (by decide))  (fun a i f598 f599 => ((ju_c _ _ f599).trans ((ju_c _ _ f599).trans (hF_M a i f598 f599)))) (fun i g1 => ((ju_c _ _ (by decide)).trans ((ju_c _ _ (by decide)).trans (hG_M i g1)))) (by omega) (by omega) (by omega) (by omega) (by omega) (by omega) (by omega) (by omega) ((((ju_c _ _ (by decide)).trans ((ju_c _ _ (by decide)).trans e5))).trans (by omega)) (by have hs : M0 638 f + flg6 M0 f = v41 := (by unfold flg6; rw [(show M0 638 (f) = v7 from (hF_M 638 (f) (by decide) (by decide)).symm.trans e7), (show M0 628 (f) = v8 from (hF_M 628 (f) (by decide) (by decide)).symm.trans e8), (show M0 632 (2 * f) = v32 from (hF_M 632 (2 * f) (by decide) (by decide)).symm.trans e32), (show M0 632 ((2 * f) + 1) = v34 from (hF_M 632 ((2 * f) + 1) (by decide) (by decide)).symm.trans e34), (show M0 634 ((2 * f) + 1) = v40 from (hF_M 634 ((2 * f) + 1) (by decide) (by decide)).symm.trans e40)]; (repeat' split) <;> omega); rw [hs, (show M0 629 f = v6 from (hF_M 629 f (by decide) (by decide)).symm.trans e6), jp1 (by omega), jp1 (by omega), hy2.1]; rfl) ⟨by rw [← hy2.2]; exact e5.symm, by rw [u6_1 ⟨by rw [(show M0 627 f = v2 from (hF_M 627 f (by decide) (by decide)).symm.trans e2)]; omega, by rw [(show M0 640 f = v4 from (hF_M 640 f (by decide) (by decide)).symm.trans e4)]; omega⟩]; decide⟩
                · have sx130 : (1 : Int) ≤ v40 := by omega
                  clear h130
                  refine jr.sipush rfl (by decide) ?_
                  refine jr.goto rfl rfl ?_
                  refine jr.ior rfl ?_
                  have b42 : j_or v39 128 = v39 + 128 ∧ 0 ≤ j_or v39 128 ∧ j_or v39 128 ≤ 255 := ⟨j_or_a 7 (by decide) (by omega) (by omega), by rw [j_or_a 7 (by decide) (by omega) (by omega)]; omega⟩
                  generalize j_or v39 128 = v42 at b42 ⊢
                  refine jr.iast (i := (v5 + 1)) (x := v42) rfl (by decide) rfl (by decide) (by omega) (by omega) ?_
                  refine jr.pick (ls := [_, _, _, _, _]) [0, 1, 2, 3, 4] rfl rfl ?_
                  exact r_export_L142_x q (nM - 1) (ih (nM - 1) (by omega)) (ju (ju M 599 v5 v6) 599 (v5 + 1) v42) ((2 * f) + 1) (2 * f) v5 f (RI.u (RI.u hI_M (a := 599) (i := v5) (by rw [xri_row rfl rfl]; show (0 : Int) ≤ _ ∧ _ ≤ (255 : Int); omega)) (a := 599) (i := (v5 + 1)) (by rw [xri_row rfl rfl]; show (0 : Int) ≤ _ ∧ _ ≤ (255 : Int); omega)) (RH.o (RH.o hH_M (by decide) (by decide) (by decide)) (by decide) (by decide) (by decide)) (RF.o (RF.o hS_M (by decide) (by decide)) (by decide) (by decide))  (fun a i f598 f599 => ((ju_c _ _ f599).trans ((ju_c _ _ f599).trans (hF_M a i f598 f599)))) (fun i g1 => ((ju_c _ _ (by decide)).trans ((ju_c _ _ (by decide)).trans (hG_M i g1)))) (by omega) (by omega) (by omega) (by omega) (by omega) (by omega) (by omega) (by omega) ((((ju_c _ _ (by decide)).trans ((ju_c _ _ (by decide)).trans e5))).trans (by omega)) (by have hs : M0 638 f + flg6 M0 f = v42 := (by unfold flg6; rw [(show M0 638 (f) = v7 from (hF_M 638 (f) (by decide) (by decide)).symm.trans e7), (show M0 628 (f) = v8 from (hF_M 628 (f) (by decide) (by decide)).symm.trans e8), (show M0 632 (2 * f) = v32 from (hF_M 632 (2 * f) (by decide) (by decide)).symm.trans e32), (show M0 632 ((2 * f) + 1) = v34 from (hF_M 632 ((2 * f) + 1) (by decide) (by decide)).symm.trans e34), (show M0 634 ((2 * f) + 1) = v40 from (hF_M 634 ((2 * f) + 1) (by decide) (by decide)).symm.trans e40)]; (repeat' split) <;> omega); rw [hs, (show M0 629 f = v6 from (hF_M 629 f (by decide) (by decide)).symm.trans e6), jp1 (by omega), jp1 (by omega), hy2.1]; rfl) ⟨by rw [← hy2.2]; exact e5.symm, by rw [u6_1 ⟨by rw [(show M0 627 f = v2 from (hF_M 627 f (by decide) (by decide)).symm.trans e2)]; omega, by rw [(show M0 640 f = v4 from (hF_M 640 f (by decide) (by decide)).symm.trans e4)]; omega⟩]; decide⟩
            · have sx96 : (1 : Int) ≤ v32 := by omega
              clear h96
              refine jr.bipush rfl (by decide) ?_
              refine jr.goto rfl rfl ?_
              refine jr.ior rfl ?_
              have b43 : j_or v31 32 = v31 + 32 ∧ 0 ≤ j_or v31 32 ∧ j_or v31 32 ≤ 63 := ⟨j_or_a 5 (by decide) (by omega) (by omega), by rw [j_or_a 5 (by decide) (by omega) (by omega)]; omega⟩
              generalize j_or v31 32 = v43 at b43 ⊢
              refine jr.aload_n rfl rfl ?_
              refine jr.getf (i := 44) (v := .ref 632) rfl rfl (by decide) rfl (by decide) rfl rfl rfl rfl ?_
              refine jr.iload rfl rfl ?_
              obtain ⟨v44, e44⟩ : ∃ z, M 632 ((2 * f) + 1) = z := ⟨_, rfl⟩
              have b44 : 0 ≤ v44 ∧ v44 ≤ 1 := by rw [← e44]; exact (by have q := hI_M 632 ((2 * f) + 1) (by decide); rw [xri_row rfl rfl] at q; exact q)
              refine jr.zald (i := ((2 * f) + 1)) (x := v44) rfl (by decide) rfl (by decide) (by omega) (by omega) ((ju_c _ _ (by decide)).trans e44) ?_
              refine jr.if_eq rfl rfl (by omega) (fun h113 => ?_) (fun h113 => ?_)
              · refine jr.iconst rfl ?_
                refine jr.ior rfl ?_
                have b45 : j_or v43 0 = v43 + 0 ∧ 0 ≤ j_or v43 0 ∧ j_or v43 0 ≤ 127 := ⟨j_or_a 6 (by decide) (by omega) (by omega), by rw [j_or_a 6 (by decide) (by omega) (by omega)]; omega⟩
                generalize j_or v43 0 = v45 at b45 ⊢
                refine jr.aload_n rfl rfl ?_
                refine jr.getf (i := 46) (v := .ref 634) rfl rfl (by decide) rfl (by decide) rfl rfl rfl rfl ?_
                refine jr.iload rfl rfl ?_
                obtain ⟨v46, e46⟩ : ∃ z, M 634 ((2 * f) + 1) = z := ⟨_, rfl⟩
                have b46 : 0 ≤ v46 ∧ v46 ≤ 1 := by rw [← e46]; exact (by have q := hI_M 634 ((2 * f) + 1) (by decide); rw [xri_row rfl rfl] at q; exact q)
                refine jr.zald (i := ((2 * f) + 1)) (x := v46) rfl (by decide) rfl (by decide) (by omega) (by omega) ((ju_c _ _ (by decide)).trans e46) ?_
                refine jr.if_eq rfl rfl (by omega) (fun h130 => ?_) (fun h130 => ?_)
                · refine jr.iconst rfl ?_
                  refine jr.ior rfl ?_
                  have b47 : j_or v45 0 = v45 + 0 ∧ 0 ≤ j_or v45 0 ∧ j_or v45 0 ≤ 255 := ⟨j_or_a 7 (by decide) (by omega) (by omega), by rw [j_or_a 7 (by decide) (by omega) (by omega)]; omega⟩
                  generalize j_or v45 0 = v47 at b47 ⊢
                  refine jr.iast (i := (v5 + 1)) (x := v47) rfl (by decide) rfl (by decide) (by omega) (by omega) ?_
                  refine jr.pick (ls := [_, _, _, _, _]) [0, 1, 2, 3, 4] rfl rfl ?_
                  exact r_export_L142_x q (nM - 1) (ih (nM - 1) (by omega)) (ju (ju M 599 v5 v6) 599 (v5 + 1) v47) ((2 * f) + 1) (2 * f) v5 f (RI.u (RI.u hI_M (a := 599) (i := v5) (by rw [xri_row rfl rfl]; show (0 : Int) ≤ _ ∧ _ ≤ (255 : Int); omega)) (a := 599) (i := (v5 + 1)) (by rw [xri_row rfl rfl]; show (0 : Int) ≤ _ ∧ _ ≤ (255 : Int); omega)) (RH.o (RH.o hH_M (by decide) (by decide) (by decide)) (by decide) (by decide) (by decide)) (RF.o (RF.o hS_M (by decide) (by decide)) (by decide) (by decide))  (fun a i f598 f599 => ((ju_c _ _ f599).trans ((ju_c _ _ f599).trans (hF_M a i f598 f599)))) (fun i g1 => ((ju_c _ _ (by decide)).trans ((ju_c _ _ (by decide)).trans (hG_M i g1)))) (by omega) (by omega) (by omega) (by omega) (by omega) (by omega) (by omega) (by omega) ((((ju_c _ _ (by decide)).trans ((ju_c _ _ (by decide)).trans e5))).trans (by omega)) (by have hs : M0 638 f + flg6 M0 f = v47 := (by unfold flg6; rw [(show M0 638 (f) = v7 from (hF_M 638 (f) (by decide) (by decide)).symm.trans e7), (show M0 628 (f) = v8 from (hF_M 628 (f) (by decide) (by decide)).symm.trans e8), (show M0 632 (2 * f) = v32 from (hF_M 632 (2 * f) (by decide) (by decide)).symm.trans e32), (show M0 632 ((2 * f) + 1) = v44 from (hF_M 632 ((2 * f) + 1) (by decide) (by decide)).symm.trans e44), (show M0 634 ((2 * f) + 1) = v46 from (hF_M 634 ((2 * f) + 1) (by decide) (by decide)).symm.trans e46)]; (repeat' split) <;> omega); rw [hs, (show M0 629 f = v6 from (hF_M 629 f (by decide) (by decide)).symm.trans e6), jp1 (by omega), jp1 (by omega), hy2.1]; rfl) ⟨by rw [← hy2.2]; exact e5.symm, by rw [u6_1 ⟨by rw [(show M0 627 f = v2 from (hF_M 627 f (by decide) (by decide)).symm.trans e2)]; omega, by rw [(show M0 640 f = v4 from (hF_M 640 f (by decide) (by decide)).symm.trans e4)]; omega⟩]; decide⟩
                · have sx130 : (1 : Int) ≤ v46 := by omega
                  clear h130
                  refine jr.sipush rfl (by decide) ?_
                  refine jr.goto rfl rfl ?_
                  refine jr.ior rfl ?_
                  have b48 : j_or v45 128 = v45 + 128 ∧ 0 ≤ j_or v45 128 ∧ j_or v45 128 ≤ 255 := ⟨j_or_a 7 (by decide) (by omega) (by omega), by rw [j_or_a 7 (by decide) (by omega) (by omega)]; omega⟩
                  generalize j_or v45 128 = v48 at b48 ⊢
                  refine jr.iast (i := (v5 + 1)) (x := v48) rfl (by decide) rfl (by decide) (by omega) (by omega) ?_
                  refine jr.pick (ls := [_, _, _, _, _]) [0, 1, 2, 3, 4] rfl rfl ?_
                  exact r_export_L142_x q (nM - 1) (ih (nM - 1) (by omega)) (ju (ju M 599 v5 v6) 599 (v5 + 1) v48) ((2 * f) + 1) (2 * f) v5 f (RI.u (RI.u hI_M (a := 599) (i := v5) (by rw [xri_row rfl rfl]; show (0 : Int) ≤ _ ∧ _ ≤ (255 : Int); omega)) (a := 599) (i := (v5 + 1)) (by rw [xri_row rfl rfl]; show (0 : Int) ≤ _ ∧ _ ≤ (255 : Int); omega)) (RH.o (RH.o hH_M (by decide) (by decide) (by decide)) (by decide) (by decide) (by decide)) (RF.o (RF.o hS_M (by decide) (by decide)) (by decide) (by decide))  (fun a i f598 f599 => ((ju_c _ _ f599).trans ((ju_c _ _ f599).trans (hF_M a i f598 f599)))) (fun i g1 => ((ju_c _ _ (by decide)).trans ((ju_c _ _ (by decide)).trans (hG_M i g1)))) (by omega) (by omega) (by omega) (by omega) (by omega) (by omega) (by omega) (by omega) ((((ju_c _ _ (by decide)).trans ((ju_c _ _ (by decide)).trans e5))).trans (by omega)) (by have hs : M0 638 f + flg6 M0 f = v48 := (by unfold flg6; rw [(show M0 638 (f) = v7 from (hF_M 638 (f) (by decide) (by decide)).symm.trans e7), (show M0 628 (f) = v8 from (hF_M 628 (f) (by decide) (by decide)).symm.trans e8), (show M0 632 (2 * f) = v32 from (hF_M 632 (2 * f) (by decide) (by decide)).symm.trans e32), (show M0 632 ((2 * f) + 1) = v44 from (hF_M 632 ((2 * f) + 1) (by decide) (by decide)).symm.trans e44), (show M0 634 ((2 * f) + 1) = v46 from (hF_M 634 ((2 * f) + 1) (by decide) (by decide)).symm.trans e46)]; (repeat' split) <;> omega); rw [hs, (show M0 629 f = v6 from (hF_M 629 f (by decide) (by decide)).symm.trans e6), jp1 (by omega), jp1 (by omega), hy2.1]; rfl) ⟨by rw [← hy2.2]; exact e5.symm, by rw [u6_1 ⟨by rw [(show M0 627 f = v2 from (hF_M 627 f (by decide) (by decide)).symm.trans e2)]; omega, by rw [(show M0 640 f = v4 from (hF_M 640 f (by decide) (by decide)).symm.trans e4)]; omega⟩]; decide⟩
              · have sx113 : (1 : Int) ≤ v44 := by omega
                clear h113
                refine jr.bipush rfl (by decide) ?_
                refine jr.goto rfl rfl ?_
                refine jr.ior rfl ?_
                have b49 : j_or v43 64 = v43 + 64 ∧ 0 ≤ j_or v43 64 ∧ j_or v43 64 ≤ 127 := ⟨j_or_a 6 (by decide) (by omega) (by omega), by rw [j_or_a 6 (by decide) (by omega) (by omega)]; omega⟩
                generalize j_or v43 64 = v49 at b49 ⊢
                refine jr.aload_n rfl rfl ?_
                refine jr.getf (i := 46) (v := .ref 634) rfl rfl (by decide) rfl (by decide) rfl rfl rfl rfl ?_
                refine jr.iload rfl rfl ?_
                obtain ⟨v50, e50⟩ : ∃ z, M 634 ((2 * f) + 1) = z := ⟨_, rfl⟩
                have b50 : 0 ≤ v50 ∧ v50 ≤ 1 := by rw [← e50]; exact (by have q := hI_M 634 ((2 * f) + 1) (by decide); rw [xri_row rfl rfl] at q; exact q)
                refine jr.zald (i := ((2 * f) + 1)) (x := v50) rfl (by decide) rfl (by decide) (by omega) (by omega) ((ju_c _ _ (by decide)).trans e50) ?_
                refine jr.if_eq rfl rfl (by omega) (fun h130 => ?_) (fun h130 => ?_)
                · refine jr.iconst rfl ?_
                  refine jr.ior rfl ?_
                  have b51 : j_or v49 0 = v49 + 0 ∧ 0 ≤ j_or v49 0 ∧ j_or v49 0 ≤ 255 := ⟨j_or_a 7 (by decide) (by omega) (by omega), by rw [j_or_a 7 (by decide) (by omega) (by omega)]; omega⟩
                  generalize j_or v49 0 = v51 at b51 ⊢
                  refine jr.iast (i := (v5 + 1)) (x := v51) rfl (by decide) rfl (by decide) (by omega) (by omega) ?_
                  refine jr.pick (ls := [_, _, _, _, _]) [0, 1, 2, 3, 4] rfl rfl ?_
                  exact r_export_L142_x q (nM - 1) (ih (nM - 1) (by omega)) (ju (ju M 599 v5 v6) 599 (v5 + 1) v51) ((2 * f) + 1) (2 * f) v5 f (RI.u (RI.u hI_M (a := 599) (i := v5) (by rw [xri_row rfl rfl]; show (0 : Int) ≤ _ ∧ _ ≤ (255 : Int); omega)) (a := 599) (i := (v5 + 1)) (by rw [xri_row rfl rfl]; show (0 : Int) ≤ _ ∧ _ ≤ (255 : Int); omega)) (RH.o (RH.o hH_M (by decide) (by decide) (by decide)) (by decide) (by decide) (by decide)) (RF.o (RF.o hS_M (by decide) (by decide)) (by decide) (by decide))  (fun a i f598 f599 => ((ju_c _ _ f599).trans ((ju_c _ _ f599).trans (hF_M a i f598 f599)))) (fun i g1 => ((ju_c _ _ (by decide)).trans ((ju_c _ _ (by decide)).trans (hG_M i g1)))) (by omega) (by omega) (by omega) (by omega) (by omega) (by omega) (by omega) (by omega) ((((ju_c _ _ (by decide)).trans ((ju_c _ _ (by decide)).trans e5))).trans (by omega)) (by have hs : M0 638 f + flg6 M0 f = v51 := (by unfold flg6; rw [(show M0 638 (f) = v7 from (hF_M 638 (f) (by decide) (by decide)).symm.trans e7), (show M0 628 (f) = v8 from (hF_M 628 (f) (by decide) (by decide)).symm.trans e8), (show M0 632 (2 * f) = v32 from (hF_M 632 (2 * f) (by decide) (by decide)).symm.trans e32), (show M0 632 ((2 * f) + 1) = v44 from (hF_M 632 ((2 * f) + 1) (by decide) (by decide)).symm.trans e44), (show M0 634 ((2 * f) + 1) = v50 from (hF_M 634 ((2 * f) + 1) (by decide) (by decide)).symm.trans e50)]; (repeat' split) <;> omega); rw [hs, (show M0 629 f = v6 from (hF_M 629 f (by decide) (by decide)).symm.trans e6), jp1 (by omega), jp1 (by omega), hy2.1]; rfl) ⟨by rw [← hy2.2]; exact e5.symm, by rw [u6_1 ⟨by rw [(show M0 627 f = v2 from (hF_M 627 f (by decide) (by decide)).symm.trans e2)]; omega, by rw [(show M0 640 f = v4 from (hF_M 640 f (by decide) (by decide)).symm.trans e4)]; omega⟩]; decide⟩
                · have sx130 : (1 : Int) ≤ v50 := by omega
                  clear h130
                  refine jr.sipush rfl (by decide) ?_
                  refine jr.goto rfl rfl ?_
                  refine jr.ior rfl ?_
                  have b52 : j_or v49 128 = v49 + 128 ∧ 0 ≤ j_or v49 128 ∧ j_or v49 128 ≤ 255 := ⟨j_or_a 7 (by decide) (by omega) (by omega), by rw [j_or_a 7 (by decide) (by omega) (by omega)]; omega⟩
                  generalize j_or v49 128 = v52 at b52 ⊢
                  refine jr.iast (i := (v5 + 1)) (x := v52) rfl (by decide) rfl (by decide) (by omega) (by omega) ?_
                  refine jr.pick (ls := [_, _, _, _, _]) [0, 1, 2, 3, 4] rfl rfl ?_
                  exact r_export_L142_x q (nM - 1) (ih (nM - 1) (by omega)) (ju (ju M 599 v5 v6) 599 (v5 + 1) v52) ((2 * f) + 1) (2 * f) v5 f (RI.u (RI.u hI_M (a := 599) (i := v5) (by rw [xri_row rfl rfl]; show (0 : Int) ≤ _ ∧ _ ≤ (255 : Int); omega)) (a := 599) (i := (v5 + 1)) (by rw [xri_row rfl rfl]; show (0 : Int) ≤ _ ∧ _ ≤ (255 : Int); omega)) (RH.o (RH.o hH_M (by decide) (by decide) (by decide)) (by decide) (by decide) (by decide)) (RF.o (RF.o hS_M (by decide) (by decide)) (by decide) (by decide))  (fun a i f598 f599 => ((ju_c _ _ f599).trans ((ju_c _ _ f599).trans (hF_M a i f598 f599)))) (fun i g1 => ((ju_c _ _ (by decide)).trans ((ju_c _ _ (by decide)).trans (hG_M i g1)))) (by omega) (by omega) (by omega) (by omega) (by omega) (by omega) (by omega) (by omega) ((((ju_c _ _ (by decide)).trans ((ju_c _ _ (by decide)).trans e5))).trans (by omega)) (by have hs : M0 638 f + flg6 M0 f = v52 := (by unfold flg6; rw [(show M0 638 (f) = v7 from (hF_M 638 (f) (by decide) (by decide)).symm.trans e7), (show M0 628 (f) = v8 from (hF_M 628 (f) (by decide) (by decide)).symm.trans e8), (show M0 632 (2 * f) = v32 from (hF_M 632 (2 * f) (by decide) (by decide)).symm.trans e32), (show M0 632 ((2 * f) + 1) = v44 from (hF_M 632 ((2 * f) + 1) (by decide) (by decide)).symm.trans e44), (show M0 634 ((2 * f) + 1) = v50 from (hF_M 634 ((2 * f) + 1) (by decide) (by decide)).symm.trans e50)]; (repeat' split) <;> omega); rw [hs, (show M0 629 f = v6 from (hF_M 629 f (by decide) (by decide)).symm.trans e6), jp1 (by omega), jp1 (by omega), hy2.1]; rfl) ⟨by rw [← hy2.2]; exact e5.symm, by rw [u6_1 ⟨by rw [(show M0 627 f = v2 from (hF_M 627 f (by decide) (by decide)).symm.trans e2)]; omega, by rw [(show M0 640 f = v4 from (hF_M 640 f (by decide) (by decide)).symm.trans e4)]; omega⟩]; decide⟩
        · have sx29 : (0 : Int) ≤ v4 := by omega
          clear h29
          refine jr.goto rfl rfl ?_
          refine jr.iinc (ls' := [_, _]) rfl rfl (by decide) rfl ?_
          refine jr.goto rfl rfl ?_
          obtain ⟨v53, e53⟩ : ∃ z, M 598 1 = z := ⟨_, rfl⟩
          have b53 : 0 ≤ v53 ∧ v53 ≤ 1600 := by rw [← e53]; exact hI_M 598 1 (by decide)
          refine jr.pick (ls := [_, _]) [0, 1] rfl rfl ?_
          exact ih (nM - 1) (by omega) M (f + 1) hI_M hH_M hS_M  (fun a i f598 f599 => (hF_M a i f598 f599)) (fun i g1 => (hG_M i g1)) (by omega) (by omega) (by rw [e53]; omega) (by rw [exL_s (by omega), if_pos (u6_0 (fun u => by rw [(show M0 627 f = v2 from (hF_M 627 f (by decide) (by decide)).symm.trans e2), (show M0 640 f = v4 from (hF_M 640 f (by decide) (by decide)).symm.trans e4)] at u; omega))]; exact hy2) (by omega)
end
