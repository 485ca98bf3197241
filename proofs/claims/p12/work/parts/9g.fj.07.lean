section
theorem r_isOut_x {A : Nat → Option (Nat × (Nat → Int32))} {Q : Option Value → jm → Prop} {M : jm} (hI_M : RI M) (hH_M : RH M) (hS_M : RF M) {x : Int} (h_x : 0 ≤ x ∧ x ≤ 23) {f : Int} (h_f : 0 ≤ f ∧ f ≤ 23) {c : Int} (h_c : 0 ≤ c ∧ c ≤ 5) (p0 : (0 ≤ M 598 65 ∧ M 598 65 ≤ 11)) (p1 : M 604 (M 598 65) ≤ 380) (p2 : 0 ≤ M 598 66) (q : ∀ (r : Int), 0 ≤ r ∧ r ≤ 1 → r = io6 M x f c → Q (some (.int (Int32.ofInt r))) M) : jc A 4 312 [.ref (598), .int (Int32.ofInt (x)), .int (Int32.ofInt (f)), .int (Int32.ofInt (c))] M Q := by
  obtain ⟨ea, hea⟩ : ∃ z, M 598 65 = z := ⟨_, rfl⟩
  rw [hea] at p0 p1
  refine jc_of (m := xm_312) rfl (Nat.le_of_ble_eq_true rfl) rfl ?_
  refine jr.iconst rfl ?_
  refine jr.iload_n rfl rfl ?_
  refine jr.imul rfl ?_
  refine jr.aload_n rfl rfl ?_
  obtain ⟨v1, e1⟩ : ∃ z, M 598 66 = z := ⟨_, rfl⟩
  have b1 : (-1) ≤ v1 ∧ v1 ≤ 1 := by rw [← e1]; exact hI_M 598 66 (by decide)
  refine jr.getf (i := 66) (x := v1) (v := .int (Int32.ofInt (v1))) rfl rfl (by decide) rfl (by decide) rfl rfl e1 rfl ?_
  refine jr.iadd rfl ?_
  refine jr.istore (ls' := [_, _, _, _, _]) rfl (by decide) rfl ?_
  refine jr.iconst rfl ?_
  refine jr.iload_n rfl rfl ?_
  refine jr.imul rfl ?_
  refine jr.iconst rfl ?_
  refine jr.iadd rfl ?_
  refine jr.aload_n rfl rfl ?_
  refine jr.getf (i := 66) (x := v1) (v := .int (Int32.ofInt (v1))) rfl rfl (by decide) rfl (by decide) rfl rfl e1 rfl ?_
  refine jr.isub rfl ?_
  refine jr.istore (ls' := [_, _, _, _, _, _]) rfl (by decide) rfl ?_
  refine jr.iload_n rfl rfl ?_
  refine jr.iconst rfl ?_
  refine jr.icmp_eq rfl rfl (by omega) (by omega) (fun h24 => ?_) (fun h24 => ?_)
  · refine jr.aload_n rfl rfl ?_
    refine jr.getf (i := 44) (v := .ref 632) rfl rfl (by decide) rfl (by decide) rfl rfl rfl rfl ?_
    refine jr.iload rfl rfl ?_
    obtain ⟨v2, e2⟩ : ∃ z, M 632 ((2 * f) + v1) = z := ⟨_, rfl⟩
    have b2 : 0 ≤ v2 ∧ v2 ≤ 1 := by rw [← e2]; exact (by have q := hI_M 632 ((2 * f) + v1) (by decide); rw [xri_row rfl rfl] at q; exact q)
    refine jr.zald (i := ((2 * f) + v1)) (x := v2) rfl (by decide) rfl (by decide) (by omega) (by omega) e2 ?_
    refine jr.if_ne rfl rfl (by omega) (fun h39 => ?_) (fun h39 => ?_)
    · have sx39 : (1 : Int) ≤ v2 := by omega
      clear h39
      refine jr.aload_n rfl rfl ?_
      refine jr.iload_n rfl rfl ?_
      refine jr.aload_n rfl rfl ?_
      refine jr.getf (i := 8) (v := .ref 604) rfl rfl (by decide) rfl (by decide) rfl rfl rfl rfl ?_
      refine jr.aload_n rfl rfl ?_
      refine jr.getf (i := 65) (x := ea) (v := .int (Int32.ofInt (ea))) rfl rfl (by decide) rfl (by decide) rfl rfl hea rfl ?_
      obtain ⟨v3, e3⟩ : ∃ z, M 604 ea = z := ⟨_, rfl⟩
      have b3 : 0 ≤ v3 ∧ v3 ≤ 400 := by rw [← e3]; exact (by have q := hI_M 604 ea (by decide); rw [xri_row rfl rfl] at q; exact q)
      refine jr.iald (i := ea) (x := v3) rfl (by decide) rfl (by decide) (by omega) (by omega) e3 ?_
      refine jr.iconst rfl ?_
      refine jr.iadd rfl ?_
      refine jr_v rfl rfl (Or.inl rfl) rfl rfl (by decide) rfl ⟨rfl, Nat.le_of_ble_eq_true rfl, Nat.le_of_ble_eq_true rfl⟩ rfl (jc.deep (r_four_x hI_M hH_M hS_M  (by omega) (by omega)  (fun r4 z4 w4_0 => ?_)) (by decide))
      refine jr.l2i rfl ?_
      refine jr.iw (j_w r4) (j_w_eq _) ?_
      have b5 : -2147483648 ≤ j_w r4 ∧ j_w r4 ≤ 2147483647 := jb_any _
      refine jr.istore (ls' := [_, _, _, _, _, _, _]) rfl (by decide) rfl ?_
      refine jr.iload rfl rfl ?_
      refine jr.aload_n rfl rfl ?_
      refine jr.getf (i := 45) (v := .ref 633) rfl rfl (by decide) rfl (by decide) rfl rfl rfl rfl ?_
      refine jr.iload rfl rfl ?_
      obtain ⟨v6, e6⟩ : ∃ z, M 633 ((2 * f) + v1) = z := ⟨_, rfl⟩
      have b6 : (-2147483648) ≤ v6 ∧ v6 ≤ 2147483647 := by rw [← e6]; exact (by have q := hI_M 633 ((2 * f) + v1) (by decide); rw [xri_row rfl rfl] at q; exact q)
      refine jr.iald (i := ((2 * f) + v1)) (x := v6) rfl (by decide) rfl (by decide) (by omega) (by omega) e6 ?_
      refine jr.isub rfl ?_
      refine jr.iw (j_w ((j_w r4) - v6)) (j_w_eq _) ?_
      have b7 : -2147483648 ≤ j_w ((j_w r4) - v6) ∧ j_w ((j_w r4) - v6) ≤ 2147483647 := jb_any _
      refine jr.istore (ls' := [_, _, _, _, _, _, _, _]) rfl (by decide) rfl ?_
      refine jr.iload rfl rfl ?_
      refine jr.aload_n rfl rfl ?_
      refine jr.iload_n rfl rfl ?_
      refine jr_v rfl rfl (Or.inl rfl) rfl rfl (by decide) rfl ⟨rfl, Nat.le_of_ble_eq_true rfl, Nat.le_of_ble_eq_true rfl⟩ rfl (jc.deep (r_longOf_x hI_M hH_M hS_M  (by omega) (by rw [hea]; omega) (by rw [hea, e3]; omega) (fun r8 z8 w8_0 => ?_)) (by decide))
      refine jr.iadd rfl ?_
      refine jr.iw (j_w ((j_w r4) + r8)) (j_w_eq _) ?_
      have b9 : -2147483648 ≤ j_w ((j_w r4) + r8) ∧ j_w ((j_w r4) + r8) ≤ 2147483647 := jb_any _
      refine jr.aload_n rfl rfl ?_
      refine jr.getf (i := 45) (v := .ref 633) rfl rfl (by decide) rfl (by decide) rfl rfl rfl rfl ?_
      refine jr.iload rfl rfl ?_
      refine jr.iald (i := ((2 * f) + v1)) (x := v6) rfl (by decide) rfl (by decide) (by omega) (by omega) e6 ?_
      refine jr.isub rfl ?_
      refine jr.iw (j_w ((j_w ((j_w r4) + r8)) - v6)) (j_w_eq _) ?_
      have b10 : -2147483648 ≤ j_w ((j_w ((j_w r4) + r8)) - v6) ∧ j_w ((j_w ((j_w r4) + r8)) - v6) ≤ 2147483647 := jb_any _
      refine jr.istore (ls' := [_, _, _, _, _, _, _, _, _]) rfl (by decide) rfl ?_
      refine jr.iload rfl rfl ?_
      refine jr.ldcw (x := (-66000)) rfl rfl (by decide) ?_
      refine jr.icmp_lt rfl rfl (by omega) (by omega) (fun h98 => ?_) (fun h98 => ?_)
      · refine jr.iconst rfl ?_
        refine jr.goto rfl rfl ?_
        exact jr.ireturn rfl rfl rfl (q _ (by omega) (by rw [io6_1 (l := v6) (by rw [e1]; omega) (show sq6 M x = j_w r4 from by unfold sq6; rw [hea, e3, ← w4_0]) w8_0.symm (by rw [e1]; exact e6) (by rw [e1]; omega)]))
      · refine jr.aload_n rfl rfl ?_
        refine jr.getf (i := 46) (v := .ref 634) rfl rfl (by decide) rfl (by decide) rfl rfl rfl rfl ?_
        refine jr.iload rfl rfl ?_
        obtain ⟨v11, e11⟩ : ∃ z, M 634 (((2 * f) + 1) - v1) = z := ⟨_, rfl⟩
        have b11 : 0 ≤ v11 ∧ v11 ≤ 1 := by rw [← e11]; exact (by have q := hI_M 634 (((2 * f) + 1) - v1) (by decide); rw [xri_row rfl rfl] at q; exact q)
        refine jr.zald (i := (((2 * f) + 1) - v1)) (x := v11) rfl (by decide) rfl (by decide) (by omega) (by omega) e11 ?_
        refine jr.if_eq rfl rfl (by omega) (fun h108 => ?_) (fun h108 => ?_)
        · refine jr.iconst rfl ?_
          exact jr.ireturn rfl rfl rfl (q _ (by omega) (by rw [io6_2 (l := v6) (by rw [e1]; omega) (show sq6 M x = j_w r4 from by unfold sq6; rw [hea, e3, ← w4_0]) w8_0.symm (by rw [e1]; exact e6) (by rw [e1]; omega)]))
        · have sx108 : (1 : Int) ≤ v11 := by omega
          clear h108
          refine jr.iload rfl rfl ?_
          refine jr.aload_n rfl rfl ?_
          refine jr.getf (i := 47) (v := .ref 635) rfl rfl (by decide) rfl (by decide) rfl rfl rfl rfl ?_
          refine jr.iload rfl rfl ?_
          obtain ⟨v12, e12⟩ : ∃ z, M 635 (((2 * f) + 1) - v1) = z := ⟨_, rfl⟩
          have b12 : 0 ≤ v12 ∧ v12 ≤ 65535 := by rw [← e12]; exact (by have q := hI_M 635 (((2 * f) + 1) - v1) (by decide); rw [xri_row rfl rfl] at q; exact q)
          refine jr.iald (i := (((2 * f) + 1) - v1)) (x := v12) rfl (by decide) rfl (by decide) (by omega) (by omega) e12 ?_
          refine jr.icmp_le rfl rfl (by omega) (by omega) (fun h120 => ?_) (fun h120 => ?_)
          · refine jr.iconst rfl ?_
            exact jr.ireturn rfl rfl rfl (q _ (by omega) (by rw [io6_2 (l := v6) (by rw [e1]; omega) (show sq6 M x = j_w r4 from by unfold sq6; rw [hea, e3, ← w4_0]) w8_0.symm (by rw [e1]; exact e6) (by rw [e1]; omega)]))
          · refine jr.iconst rfl ?_
            refine jr.goto rfl rfl ?_
            exact jr.ireturn rfl rfl rfl (q _ (by omega) (by rw [io6_1 (l := v6) (by rw [e1]; omega) (show sq6 M x = j_w r4 from by unfold sq6; rw [hea, e3, ← w4_0]) w8_0.symm (by rw [e1]; exact e6) (by rw [e1]; omega)]))
    · refine jr.iconst rfl ?_
      exact jr.ireturn rfl rfl rfl (q _ (by omega) (by rw [io6_0 (by rw [e1]; omega)]))
  · refine jr.iload_n rfl rfl ?_
    refine jr.iconst rfl ?_
    refine jr.icmp_ne rfl rfl (by omega) (by omega) (fun h29 => ?_) (fun h29 => ?_)
    · refine jr.iconst rfl ?_
      exact jr.ireturn rfl rfl rfl (q _ (by omega) (by rw [io6_0 (by rw [e1]; omega)]))
    · refine jr.aload_n rfl rfl ?_
      refine jr.getf (i := 44) (v := .ref 632) rfl rfl (by decide) rfl (by decide) rfl rfl rfl rfl ?_
      refine jr.iload rfl rfl ?_
      obtain ⟨v13, e13⟩ : ∃ z, M 632 ((2 * f) + v1) = z := ⟨_, rfl⟩
      have b13 : 0 ≤ v13 ∧ v13 ≤ 1 := by rw [← e13]; exact (by have q := hI_M 632 ((2 * f) + v1) (by decide); rw [xri_row rfl rfl] at q; exact q)
      refine jr.zald (i := ((2 * f) + v1)) (x := v13) rfl (by decide) rfl (by decide) (by omega) (by omega) e13 ?_
      refine jr.if_ne rfl rfl (by omega) (fun h39 => ?_) (fun h39 => ?_)
      · have sx39 : (1 : Int) ≤ v13 := by omega
        clear h39
        refine jr.aload_n rfl rfl ?_
        refine jr.iload_n rfl rfl ?_
        refine jr.aload_n rfl rfl ?_
        refine jr.getf (i := 8) (v := .ref 604) rfl rfl (by decide) rfl (by decide) rfl rfl rfl rfl ?_
        refine jr.aload_n rfl rfl ?_
        refine jr.getf (i := 65) (x := ea) (v := .int (Int32.ofInt (ea))) rfl rfl (by decide) rfl (by decide) rfl rfl hea rfl ?_
        obtain ⟨v14, e14⟩ : ∃ z, M 604 ea = z := ⟨_, rfl⟩
        have b14 : 0 ≤ v14 ∧ v14 ≤ 400 := by rw [← e14]; exact (by have q := hI_M 604 ea (by decide); rw [xri_row rfl rfl] at q; exact q)
        refine jr.iald (i := ea) (x := v14) rfl (by decide) rfl (by decide) (by omega) (by omega) e14 ?_
        refine jr.iconst rfl ?_
        refine jr.iadd rfl ?_
        refine jr_v rfl rfl (Or.inl rfl) rfl rfl (by decide) rfl ⟨rfl, Nat.le_of_ble_eq_true rfl, Nat.le_of_ble_eq_true rfl⟩ rfl (jc.deep (r_four_x hI_M hH_M hS_M  (by omega) (by omega)  (fun r15 z15 w15_0 => ?_)) (by decide))
        refine jr.l2i rfl ?_
        refine jr.iw (j_w r15) (j_w_eq _) ?_
        have b16 : -2147483648 ≤ j_w r15 ∧ j_w r15 ≤ 2147483647 := jb_any _
        refine jr.istore (ls' := [_, _, _, _, _, _, _]) rfl (by decide) rfl ?_
        refine jr.iload rfl rfl ?_
        refine jr.aload_n rfl rfl ?_
        refine jr.getf (i := 45) (v := .ref 633) rfl rfl (by decide) rfl (by decide) rfl rfl rfl rfl ?_
        refine jr.iload rfl rfl ?_
        obtain ⟨v17, e17⟩ : ∃ z, M 633 ((2 * f) + v1) = z := ⟨_, rfl⟩
        have b17 : (-2147483648) ≤ v17 ∧ v17 ≤ 2147483647 := by rw [← e17]; exact (by have q := hI_M 633 ((2 * f) + v1) (by decide); rw [xri_row rfl rfl] at q; exact q)
        refine jr.iald (i := ((2 * f) + v1)) (x := v17) rfl (by decide) rfl (by decide) (by omega) (by omega) e17 ?_
        refine jr.isub rfl ?_
        refine jr.iw (j_w ((j_w r15) - v17)) (j_w_eq _) ?_
        have b18 : -2147483648 ≤ j_w ((j_w r15) - v17) ∧ j_w ((j_w r15) - v17) ≤ 2147483647 := jb_any _
        refine jr.istore (ls' := [_, _, _, _, _, _, _, _]) rfl (by decide) rfl ?_
        refine jr.iload rfl rfl ?_
        refine jr.aload_n rfl rfl ?_
        refine jr.iload_n rfl rfl ?_
        refine jr_v rfl rfl (Or.inl rfl) rfl rfl (by decide) rfl ⟨rfl, Nat.le_of_ble_eq_true rfl, Nat.le_of_ble_eq_true rfl⟩ rfl (jc.deep (r_longOf_x hI_M hH_M hS_M  (by omega) (by rw [hea]; omega) (by rw [hea, e14]; omega) (fun r19 z19 w19_0 => ?_)) (by decide))
        refine jr.iadd rfl ?_
        refine jr.iw (j_w ((j_w r15) + r19)) (j_w_eq _) ?_
        have b20 : -2147483648 ≤ j_w ((j_w r15) + r19) ∧ j_w ((j_w r15) + r19) ≤ 2147483647 := jb_any _
        refine jr.aload_n rfl rfl ?_
        refine jr.getf (i := 45) (v := .ref 633) rfl rfl (by decide) rfl (by decide) rfl rfl rfl rfl ?_
        refine jr.iload rfl rfl ?_
        refine jr.iald (i := ((2 * f) + v1)) (x := v17) rfl (by decide) rfl (by decide) (by omega) (by omega) e17 ?_
        refine jr.isub rfl ?_
        refine jr.iw (j_w ((j_w ((j_w r15) + r19)) - v17)) (j_w_eq _) ?_
        have b21 : -2147483648 ≤ j_w ((j_w ((j_w r15) + r19)) - v17) ∧ j_w ((j_w ((j_w r15) + r19)) - v17) ≤ 2147483647 := jb_any _
        refine jr.istore (ls' := [_, _, _, _, _, _, _, _, _]) rfl (by decide) rfl ?_
        refine jr.iload rfl rfl ?_
        refine jr.ldcw (x := (-66000)) rfl rfl (by decide) ?_
        refine jr.icmp_lt rfl rfl (by omega) (by omega) (fun h98 => ?_) (fun h98 => ?_)
        · refine jr.iconst rfl ?_
          refine jr.goto rfl rfl ?_
          exact jr.ireturn rfl rfl rfl (q _ (by omega) (by rw [io6_1 (l := v17) (by rw [e1]; omega) (show sq6 M x = j_w r15 from by unfold sq6; rw [hea, e14, ← w15_0]) w19_0.symm (by rw [e1]; exact e17) (by rw [e1]; omega)]))
        · refine jr.aload_n rfl rfl ?_
          refine jr.getf (i := 46) (v := .ref 634) rfl rfl (by decide) rfl (by decide) rfl rfl rfl rfl ?_
          refine jr.iload rfl rfl ?_
          obtain ⟨v22, e22⟩ : ∃ z, M 634 (((2 * f) + 1) - v1) = z := ⟨_, rfl⟩
          have b22 : 0 ≤ v22 ∧ v22 ≤ 1 := by rw [← e22]; exact (by have q := hI_M 634 (((2 * f) + 1) - v1) (by decide); rw [xri_row rfl rfl] at q; exact q)
          refine jr.zald (i := (((2 * f) + 1) - v1)) (x := v22) rfl (by decide) rfl (by decide) (by omega) (by omega) e22 ?_
          refine jr.if_eq rfl rfl (by omega) (fun h108 => ?_) (fun h108 => ?_)
          · refine jr.iconst rfl ?_
            exact jr.ireturn rfl rfl rfl (q _ (by omega) (by rw [io6_2 (l := v17) (by rw [e1]; omega) (show sq6 M x = j_w r15 from by unfold sq6; rw [hea, e14, ← w15_0]) w19_0.symm (by rw [e1]; exact e17) (by rw [e1]; omega)]))
          · have sx108 : (1 : Int) ≤ v22 := by omega
            clear h108
            refine jr.iload rfl rfl ?_
            refine jr.aload_n rfl rfl ?_
            refine jr.getf (i := 47) (v := .ref 635) rfl rfl (by decide) rfl (by decide) rfl rfl rfl rfl ?_
            refine jr.iload rfl rfl ?_
            obtain ⟨v23, e23⟩ : ∃ z, M 635 (((2 * f) + 1) - v1) = z := ⟨_, rfl⟩
            have b23 : 0 ≤ v23 ∧ v23 ≤ 65535 := by rw [← e23]; exact (by have q := hI_M 635 (((2 * f) + 1) - v1) (by decide); rw [xri_row rfl rfl] at q; exact q)
            refine jr.iald (i := (((2 * f) + 1) - v1)) (x := v23) rfl (by decide) rfl (by decide) (by omega) (by omega) e23 ?_
            refine jr.icmp_le rfl rfl (by omega) (by omega) (fun h120 => ?_) (fun h120 => ?_)
            · refine jr.iconst rfl ?_
              exact jr.ireturn rfl rfl rfl (q _ (by omega) (by rw [io6_2 (l := v17) (by rw [e1]; omega) (show sq6 M x = j_w r15 from by unfold sq6; rw [hea, e14, ← w15_0]) w19_0.symm (by rw [e1]; exact e17) (by rw [e1]; omega)]))
            · refine jr.iconst rfl ?_
              refine jr.goto rfl rfl ?_
              exact jr.ireturn rfl rfl rfl (q _ (by omega) (by rw [io6_1 (l := v17) (by rw [e1]; omega) (show sq6 M x = j_w r15 from by unfold sq6; rw [hea, e14, ← w15_0]) w19_0.symm (by rw [e1]; exact e17) (by rw [e1]; omega)]))
      · refine jr.iconst rfl ?_
        exact jr.ireturn rfl rfl rfl (q _ (by omega) (by rw [io6_0 (by rw [e1]; omega)]))
end
section
end
