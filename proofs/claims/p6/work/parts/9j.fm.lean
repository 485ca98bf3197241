/-! ===== the reference: spans ===== -/
def lg6 (M : jm) (x : Int) : Int := M 600 x - M 604 (M 598 65) - M 605 (M 598 65) + M 601 (400 * x + (M 604 (M 598 65) + 13)) / 2 % 2 + M 601 (400 * x + (M 604 (M 598 65) + 13)) % 2
def sq6 (M : jm) (x : Int) : Int := j_w (nbs (rf M x) (M 604 (M 598 65) + 4) 4)
def io6 (M : jm) (x f c : Int) : Int := if (c ≠ 2 ∧ c ≠ 4) ∨ M 632 (2 * f + M 598 66) = 0 then 0 else if j_w (sq6 M x - M 633 (2 * f + M 598 66)) < -66000 ∨ (M 634 (2 * f + 1 - M 598 66) ≠ 0 ∧ M 635 (2 * f + 1 - M 598 66) < j_w (j_w (sq6 M x + lg6 M x) - M 633 (2 * f + M 598 66))) then 1 else 0
theorem io6_0 {M : jm} {x f c : Int} (h : (c ≠ 2 ∧ c ≠ 4) ∨ M 632 (2 * f + M 598 66) = 0) : io6 M x f c = 0 := by
  unfold io6
  rw [if_pos h]
theorem io6_1 {M : jm} {x f c q n l : Int} (h : ¬ ((c ≠ 2 ∧ c ≠ 4) ∨ M 632 (2 * f + M 598 66) = 0)) (hq : sq6 M x = q) (hn : lg6 M x = n) (hl : M 633 (2 * f + M 598 66) = l) (h1 : j_w (q - l) < -66000 ∨ (M 634 (2 * f + 1 - M 598 66) ≠ 0 ∧ M 635 (2 * f + 1 - M 598 66) < j_w (j_w (q + n) - l))) : io6 M x f c = 1 := by
  unfold io6
  rw [if_neg h, hq, hn, hl, if_pos h1]
theorem io6_2 {M : jm} {x f c q n l : Int} (h : ¬ ((c ≠ 2 ∧ c ≠ 4) ∨ M 632 (2 * f + M 598 66) = 0)) (hq : sq6 M x = q) (hn : lg6 M x = n) (hl : M 633 (2 * f + M 598 66) = l) (h1 : ¬ (j_w (q - l) < -66000 ∨ (M 634 (2 * f + 1 - M 598 66) ≠ 0 ∧ M 635 (2 * f + 1 - M 598 66) < j_w (j_w (q + n) - l)))) : io6 M x f c = 0 := by
  unfold io6
  rw [if_neg h, hq, hn, hl, if_neg h1]
theorem r_longOf_x {A : Nat → Option (Nat × (Nat → Int32))} {Q : Option Value → jm → Prop} {M : jm} (hI_M : RI M) (hH_M : RH M) (hS_M : RF M) {x : Int} (h_x : 0 ≤ x ∧ x ≤ 23) (p0 : (0 ≤ M 598 65 ∧ M 598 65 ≤ 11)) (p1 : M 604 (M 598 65) ≤ 380) (q : ∀ (r : Int), (-2000) ≤ r ∧ r ≤ 2000 → r = lg6 M x → Q (some (.int (Int32.ofInt r))) M) : jc A 2 311 [.ref (598), .int (Int32.ofInt (x))] M Q := by
  obtain ⟨ea, hea⟩ : ∃ z, M 598 65 = z := ⟨_, rfl⟩
  rw [hea] at p0 p1
  refine jc_of (m := xm_311) rfl (Nat.le_of_ble_eq_true rfl) rfl ?_
  refine jr.aload_n rfl rfl ?_
  refine jr.getf (i := 65) (x := ea) (v := .int (Int32.ofInt (ea))) rfl rfl (by decide) rfl (by decide) rfl rfl hea rfl ?_
  refine jr.istore_n rfl (by decide) rfl ?_
  refine jr.aload_n rfl rfl ?_
  refine jr.iload_n rfl rfl ?_
  refine jr.aload_n rfl rfl ?_
  refine jr.getf (i := 8) (v := .ref 604) rfl rfl (by decide) rfl (by decide) rfl rfl rfl rfl ?_
  refine jr.iload_n rfl rfl ?_
  obtain ⟨v1, e1⟩ : ∃ z, M 604 ea = z := ⟨_, rfl⟩
  have b1 : 0 ≤ v1 ∧ v1 ≤ 400 := by rw [← e1]; exact (by have q := hI_M 604 ea (by decide); rw [xri_row rfl rfl] at q; exact q)
  refine jr.iald (i := ea) (x := v1) rfl (by decide) rfl (by decide) (by omega) (by omega) e1 ?_
  refine jr.bipush rfl (by decide) ?_
  refine jr.iadd rfl ?_
  refine jr_v rfl rfl (Or.inl rfl) rfl rfl (by decide) rfl ⟨rfl, Nat.le_of_ble_eq_true rfl, Nat.le_of_ble_eq_true rfl⟩ rfl (jc.deep (r_one hI_M hH_M hS_M (Kp.rfl _) (by omega) (by omega)  (fun r2 z2 w2_0 => ?_)) (by decide))
  refine jr.istore_n rfl (by decide) rfl ?_
  refine jr.aload_n rfl rfl ?_
  refine jr.getf (i := 3) (v := .ref 600) rfl rfl (by decide) rfl (by decide) rfl rfl rfl rfl ?_
  refine jr.iload_n rfl rfl ?_
  obtain ⟨v3, e3⟩ : ∃ z, M 600 x = z := ⟨_, rfl⟩
  have b3 : (-1) ≤ v3 ∧ v3 ≤ 400 := by rw [← e3]; exact (by have q := hI_M 600 x (by decide); rw [xri_row rfl rfl] at q; exact q)
  refine jr.iald (i := x) (x := v3) rfl (by decide) rfl (by decide) (by omega) (by omega) e3 ?_
  refine jr.aload_n rfl rfl ?_
  refine jr.getf (i := 8) (v := .ref 604) rfl rfl (by decide) rfl (by decide) rfl rfl rfl rfl ?_
  refine jr.iload_n rfl rfl ?_
  refine jr.iald (i := ea) (x := v1) rfl (by decide) rfl (by decide) (by omega) (by omega) e1 ?_
  refine jr.isub rfl ?_
  refine jr.aload_n rfl rfl ?_
  refine jr.getf (i := 9) (v := .ref 605) rfl rfl (by decide) rfl (by decide) rfl rfl rfl rfl ?_
  refine jr.iload_n rfl rfl ?_
  obtain ⟨v4, e4⟩ : ∃ z, M 605 ea = z := ⟨_, rfl⟩
  have b4 : 0 ≤ v4 ∧ v4 ≤ 400 := by rw [← e4]; exact (by have q := hI_M 605 ea (by decide); rw [xri_row rfl rfl] at q; exact q)
  refine jr.iald (i := ea) (x := v4) rfl (by decide) rfl (by decide) (by omega) (by omega) e4 ?_
  refine jr.isub rfl ?_
  refine jr.iload_n rfl rfl ?_
  refine jr.iconst rfl ?_
  refine jr.ishr rfl ?_
  have b5 : j_shr r2 1 = r2 / 2 := j_shr_ex 1 (by decide) (by omega) (by omega)
  generalize j_shr r2 1 = v5 at b5 ⊢
  refine jr.iconst rfl ?_
  refine jr.iand rfl ?_
  have b6 : j_and v5 1 = v5 % 2 := j_and_m 1 (by decide) _
  generalize j_and v5 1 = v6 at b6 ⊢
  refine jr.iadd rfl ?_
  refine jr.iload_n rfl rfl ?_
  refine jr.iconst rfl ?_
  refine jr.iand rfl ?_
  have b7 : j_and r2 1 = r2 % 2 := j_and_m 1 (by decide) _
  generalize j_and r2 1 = v7 at b7 ⊢
  refine jr.iadd rfl ?_
  exact jr.ireturn rfl rfl rfl (q _ (by omega) (by unfold lg6; rw [hea, e1, e4]; omega))
theorem r_isOut_x {A : Nat → Option (Nat × (Nat → Int32))} {Q : Option Value → jm → Prop} {M : jm} (hI_M : RI M) (hH_M : RH M) (hS_M : RF M) {x : Int} (h_x : 0 ≤ x ∧ x ≤ 23) {f : Int} (h_f : 0 ≤ f ∧ f ≤ 23) {c : Int} (h_c : 0 ≤ c ∧ c ≤ 5) (p0 : (0 ≤ M 598 65 ∧ M 598 65 ≤ 11)) (p1 : M 604 (M 598 65) ≤ 380) (p2 : 0 ≤ M 598 66) (q : ∀ (r : Int), 0 ≤ r ∧ r ≤ 1 → r = io6 M x f c → Q (some (.int (Int32.ofInt r))) M) : jc A 4 312 [.ref (598), .int (Int32.ofInt (x)), .int (Int32.ofInt (f)), .int (Int32.ofInt (c))] M Q := by
  obtain ⟨ea, hea⟩ : ∃ z, M 598 65 = z := ⟨_, rfl⟩
  rw [hea] at p0 p1
  refine jc_of (m := xm_312) rfl (Nat.le_of_ble_eq_true rfl) rfl ?_
  refine jr.iconst rfl ?_
  refine jr.iload_n rfl rfl ?_
  refine jr.imul rfl ?_
  refine jr.aload_n rfl rfl ?_
  obtain ⟨v1, e1⟩ : ∃ z, M 598 66 = z := ⟨_, rfl⟩
  have b1 : (-1) ≤ v1 ∧ v1 ≤ 1 := by rw [← e1]; exact hI_M 598 66 (by decide)
  refine jr.getf (i := 66) (x := v1) (v := .int (Int32.ofInt (v1))) rfl rfl (by decide) rfl (by decide) rfl rfl e1 rfl ?_
  refine jr.iadd rfl ?_
  refine jr.istore rfl (by decide) rfl ?_
  refine jr.iconst rfl ?_
  refine jr.iload_n rfl rfl ?_
  refine jr.imul rfl ?_
  refine jr.iconst rfl ?_
  refine jr.iadd rfl ?_
  refine jr.aload_n rfl rfl ?_
  refine jr.getf (i := 66) (x := v1) (v := .int (Int32.ofInt (v1))) rfl rfl (by decide) rfl (by decide) rfl rfl e1 rfl ?_
  refine jr.isub rfl ?_
  refine jr.istore rfl (by decide) rfl ?_
  refine jr.iload_n rfl rfl ?_
  refine jr.iconst rfl ?_
  refine jr.icmp_eq rfl rfl (by omega) (by omega) (fun h24 => ?_) (fun h24 => ?_)
  · refine jr.aload_n rfl rfl ?_
    refine jr.getf (i := 44) (v := .ref 632) rfl rfl (by decide) rfl (by decide) rfl rfl rfl rfl ?_
    refine jr.iload rfl rfl ?_
    obtain ⟨v2, e2⟩ : ∃ z, M 632 ((2 * f) + v1) = z := ⟨_, rfl⟩
    have b2 : 0 ≤ v2 ∧ v2 ≤ 1 := by rw [← e2]; exact (by have q := hI_M 632 ((2 * f) + v1) (by decide); rw [xri_row rfl rfl] at q; exact q)
    refine jr.zald (i := ((2 * f) + v1)) (x := v2) rfl (by decide) rfl (by decide) (by omega) (by omega) e2 ?_
    refine jr.if_ne rfl rfl (by omega) (fun h39 => ?_) (fun h39 => ?_)
    · refine jr.aload_n rfl rfl ?_
      refine jr.iload_n rfl rfl ?_
      refine jr.aload_n rfl rfl ?_
      refine jr.getf (i := 8) (v := .ref 604) rfl rfl (by decide) rfl (by decide) rfl rfl rfl rfl ?_
      refine jr.aload_n rfl rfl ?_
      refine jr.getf (i := 65) (x := ea) (v := .int (Int32.ofInt (ea))) rfl rfl (by decide) rfl (by decide) rfl rfl hea rfl ?_
      obtain ⟨v3, e3⟩ : ∃ z, M 604 ea = z := ⟨_, rfl⟩
      have b3 : 0 ≤ v3 ∧ v3 ≤ 400 := by rw [← e3]; exact (by have q := hI_M 604 ea (by decide); rw [xri_row rfl rfl] at q; exact q)
      refine jr.iald (i := ea) (x := v3) rfl (by decide) rfl (by decide) (by omega) (by omega) e3 ?_
      refine jr.iconst rfl ?_
      refine jr.iadd rfl ?_
      refine jr_v rfl rfl (Or.inl rfl) rfl rfl (by decide) rfl ⟨rfl, Nat.le_of_ble_eq_true rfl, Nat.le_of_ble_eq_true rfl⟩ rfl (jc.deep (r_four_x hI_M hH_M hS_M  (by omega) (by omega)  (fun r4 z4 w4_0 => ?_)) (by decide))
      refine jr.l2i rfl ?_
      refine jr.iw (j_w r4) (j_w_eq _) ?_
      have b5 : -2147483648 ≤ j_w r4 ∧ j_w r4 ≤ 2147483647 := jb_any _
      refine jr.istore rfl (by decide) rfl ?_
      refine jr.iload rfl rfl ?_
      refine jr.aload_n rfl rfl ?_
      refine jr.getf (i := 45) (v := .ref 633) rfl rfl (by decide) rfl (by decide) rfl rfl rfl rfl ?_
      refine jr.iload rfl rfl ?_
      obtain ⟨v6, e6⟩ : ∃ z, M 633 ((2 * f) + v1) = z := ⟨_, rfl⟩
      have b6 : (-2147483648) ≤ v6 ∧ v6 ≤ 2147483647 := by rw [← e6]; exact (by have q := hI_M 633 ((2 * f) + v1) (by decide); rw [xri_row rfl rfl] at q; exact q)
      refine jr.iald (i := ((2 * f) + v1)) (x := v6) rfl (by decide) rfl (by decide) (by omega) (by omega) e6 ?_
      refine jr.isub rfl ?_
      refine jr.iw (j_w ((j_w r4) - v6)) (j_w_eq _) ?_
      have b7 : -2147483648 ≤ j_w ((j_w r4) - v6) ∧ j_w ((j_w r4) - v6) ≤ 2147483647 := jb_any _
      refine jr.istore rfl (by decide) rfl ?_
      refine jr.iload rfl rfl ?_
      refine jr.aload_n rfl rfl ?_
      refine jr.iload_n rfl rfl ?_
      refine jr_v rfl rfl (Or.inl rfl) rfl rfl (by decide) rfl ⟨rfl, Nat.le_of_ble_eq_true rfl, Nat.le_of_ble_eq_true rfl⟩ rfl (jc.deep (r_longOf_x hI_M hH_M hS_M  (by omega) (by rw [hea]; omega) (by rw [hea, e3]; omega) (fun r8 z8 w8_0 => ?_)) (by decide))
      refine jr.iadd rfl ?_
      refine jr.iw (j_w ((j_w r4) + r8)) (j_w_eq _) ?_
      have b9 : -2147483648 ≤ j_w ((j_w r4) + r8) ∧ j_w ((j_w r4) + r8) ≤ 2147483647 := jb_any _
      refine jr.aload_n rfl rfl ?_
      refine jr.getf (i := 45) (v := .ref 633) rfl rfl (by decide) rfl (by decide) rfl rfl rfl rfl ?_
      refine jr.iload rfl rfl ?_
      refine jr.iald (i := ((2 * f) + v1)) (x := v6) rfl (by decide) rfl (by decide) (by omega) (by omega) e6 ?_
      refine jr.isub rfl ?_
      refine jr.iw (j_w ((j_w ((j_w r4) + r8)) - v6)) (j_w_eq _) ?_
      have b10 : -2147483648 ≤ j_w ((j_w ((j_w r4) + r8)) - v6) ∧ j_w ((j_w ((j_w r4) + r8)) - v6) ≤ 2147483647 := jb_any _
      refine jr.istore rfl (by decide) rfl ?_
      refine jr.iload rfl rfl ?_
      refine jr.ldcw (x := (-66000)) rfl rfl (by decide) ?_
      refine jr.icmp_lt rfl rfl (by omega) (by omega) (fun h98 => ?_) (fun h98 => ?_)
      · refine jr.iconst rfl ?_
        refine jr.goto rfl rfl ?_
        exact jr.ireturn rfl rfl rfl (q _ (by omega) (by rw [io6_1 (l := v6) (by rw [e1]; omega) (show sq6 M x = j_w r4 from by unfold sq6; rw [hea, e3, ← w4_0]) w8_0.symm (by rw [e1]; exact e6) (by rw [e1]; omega)]))
      · refine jr.aload_n rfl rfl ?_
        refine jr.getf (i := 46) (v := .ref 634) rfl rfl (by decide) rfl (by decide) rfl rfl rfl rfl ?_
        refine jr.iload rfl rfl ?_
        obtain ⟨v11, e11⟩ : ∃ z, M 634 (((2 * f) + 1) - v1) = z := ⟨_, rfl⟩
        have b11 : 0 ≤ v11 ∧ v11 ≤ 1 := by rw [← e11]; exact (by have q := hI_M 634 (((2 * f) + 1) - v1) (by decide); rw [xri_row rfl rfl] at q; exact q)
        refine jr.zald (i := (((2 * f) + 1) - v1)) (x := v11) rfl (by decide) rfl (by decide) (by omega) (by omega) e11 ?_
        refine jr.if_eq rfl rfl (by omega) (fun h108 => ?_) (fun h108 => ?_)
        · refine jr.iconst rfl ?_
          exact jr.ireturn rfl rfl rfl (q _ (by omega) (by rw [io6_2 (l := v6) (by rw [e1]; omega) (show sq6 M x = j_w r4 from by unfold sq6; rw [hea, e3, ← w4_0]) w8_0.symm (by rw [e1]; exact e6) (by rw [e1]; omega)]))
        · refine jr.iload rfl rfl ?_
          refine jr.aload_n rfl rfl ?_
          refine jr.getf (i := 47) (v := .ref 635) rfl rfl (by decide) rfl (by decide) rfl rfl rfl rfl ?_
          refine jr.iload rfl rfl ?_
          obtain ⟨v12, e12⟩ : ∃ z, M 635 (((2 * f) + 1) - v1) = z := ⟨_, rfl⟩
          have b12 : 0 ≤ v12 ∧ v12 ≤ 65535 := by rw [← e12]; exact (by have q := hI_M 635 (((2 * f) + 1) - v1) (by decide); rw [xri_row rfl rfl] at q; exact q)
          refine jr.iald (i := (((2 * f) + 1) - v1)) (x := v12) rfl (by decide) rfl (by decide) (by omega) (by omega) e12 ?_
          refine jr.icmp_le rfl rfl (by omega) (by omega) (fun h120 => ?_) (fun h120 => ?_)
          · refine jr.iconst rfl ?_
            exact jr.ireturn rfl rfl rfl (q _ (by omega) (by rw [io6_2 (l := v6) (by rw [e1]; omega) (show sq6 M x = j_w r4 from by unfold sq6; rw [hea, e3, ← w4_0]) w8_0.symm (by rw [e1]; exact e6) (by rw [e1]; omega)]))
          · refine jr.iconst rfl ?_
            refine jr.goto rfl rfl ?_
            exact jr.ireturn rfl rfl rfl (q _ (by omega) (by rw [io6_1 (l := v6) (by rw [e1]; omega) (show sq6 M x = j_w r4 from by unfold sq6; rw [hea, e3, ← w4_0]) w8_0.symm (by rw [e1]; exact e6) (by rw [e1]; omega)]))
    · refine jr.iconst rfl ?_
      exact jr.ireturn rfl rfl rfl (q _ (by omega) (by rw [io6_0 (by rw [e1]; omega)]))
  · refine jr.iload_n rfl rfl ?_
    refine jr.iconst rfl ?_
    refine jr.icmp_ne rfl rfl (by omega) (by omega) (fun h29 => ?_) (fun h29 => ?_)
    · refine jr.iconst rfl ?_
      exact jr.ireturn rfl rfl rfl (q _ (by omega) (by rw [io6_0 (by rw [e1]; omega)]))
    · refine jr.aload_n rfl rfl ?_
      refine jr.getf (i := 44) (v := .ref 632) rfl rfl (by decide) rfl (by decide) rfl rfl rfl rfl ?_
      refine jr.iload rfl rfl ?_
      obtain ⟨v13, e13⟩ : ∃ z, M 632 ((2 * f) + v1) = z := ⟨_, rfl⟩
      have b13 : 0 ≤ v13 ∧ v13 ≤ 1 := by rw [← e13]; exact (by have q := hI_M 632 ((2 * f) + v1) (by decide); rw [xri_row rfl rfl] at q; exact q)
      refine jr.zald (i := ((2 * f) + v1)) (x := v13) rfl (by decide) rfl (by decide) (by omega) (by omega) e13 ?_
      refine jr.if_ne rfl rfl (by omega) (fun h39 => ?_) (fun h39 => ?_)
      · refine jr.aload_n rfl rfl ?_
        refine jr.iload_n rfl rfl ?_
        refine jr.aload_n rfl rfl ?_
        refine jr.getf (i := 8) (v := .ref 604) rfl rfl (by decide) rfl (by decide) rfl rfl rfl rfl ?_
        refine jr.aload_n rfl rfl ?_
        refine jr.getf (i := 65) (x := ea) (v := .int (Int32.ofInt (ea))) rfl rfl (by decide) rfl (by decide) rfl rfl hea rfl ?_
        obtain ⟨v14, e14⟩ : ∃ z, M 604 ea = z := ⟨_, rfl⟩
        have b14 : 0 ≤ v14 ∧ v14 ≤ 400 := by rw [← e14]; exact (by have q := hI_M 604 ea (by decide); rw [xri_row rfl rfl] at q; exact q)
        refine jr.iald (i := ea) (x := v14) rfl (by decide) rfl (by decide) (by omega) (by omega) e14 ?_
        refine jr.iconst rfl ?_
        refine jr.iadd rfl ?_
        refine jr_v rfl rfl (Or.inl rfl) rfl rfl (by decide) rfl ⟨rfl, Nat.le_of_ble_eq_true rfl, Nat.le_of_ble_eq_true rfl⟩ rfl (jc.deep (r_four_x hI_M hH_M hS_M  (by omega) (by omega)  (fun r15 z15 w15_0 => ?_)) (by decide))
        refine jr.l2i rfl ?_
        refine jr.iw (j_w r15) (j_w_eq _) ?_
        have b16 : -2147483648 ≤ j_w r15 ∧ j_w r15 ≤ 2147483647 := jb_any _
        refine jr.istore rfl (by decide) rfl ?_
        refine jr.iload rfl rfl ?_
        refine jr.aload_n rfl rfl ?_
        refine jr.getf (i := 45) (v := .ref 633) rfl rfl (by decide) rfl (by decide) rfl rfl rfl rfl ?_
        refine jr.iload rfl rfl ?_
        obtain ⟨v17, e17⟩ : ∃ z, M 633 ((2 * f) + v1) = z := ⟨_, rfl⟩
        have b17 : (-2147483648) ≤ v17 ∧ v17 ≤ 2147483647 := by rw [← e17]; exact (by have q := hI_M 633 ((2 * f) + v1) (by decide); rw [xri_row rfl rfl] at q; exact q)
        refine jr.iald (i := ((2 * f) + v1)) (x := v17) rfl (by decide) rfl (by decide) (by omega) (by omega) e17 ?_
        refine jr.isub rfl ?_
        refine jr.iw (j_w ((j_w r15) - v17)) (j_w_eq _) ?_
        have b18 : -2147483648 ≤ j_w ((j_w r15) - v17) ∧ j_w ((j_w r15) - v17) ≤ 2147483647 := jb_any _
        refine jr.istore rfl (by decide) rfl ?_
        refine jr.iload rfl rfl ?_
        refine jr.aload_n rfl rfl ?_
        refine jr.iload_n rfl rfl ?_
        refine jr_v rfl rfl (Or.inl rfl) rfl rfl (by decide) rfl ⟨rfl, Nat.le_of_ble_eq_true rfl, Nat.le_of_ble_eq_true rfl⟩ rfl (jc.deep (r_longOf_x hI_M hH_M hS_M  (by omega) (by rw [hea]; omega) (by rw [hea, e14]; omega) (fun r19 z19 w19_0 => ?_)) (by decide))
        refine jr.iadd rfl ?_
        refine jr.iw (j_w ((j_w r15) + r19)) (j_w_eq _) ?_
        have b20 : -2147483648 ≤ j_w ((j_w r15) + r19) ∧ j_w ((j_w r15) + r19) ≤ 2147483647 := jb_any _
        refine jr.aload_n rfl rfl ?_
        refine jr.getf (i := 45) (v := .ref 633) rfl rfl (by decide) rfl (by decide) rfl rfl rfl rfl ?_
        refine jr.iload rfl rfl ?_
        refine jr.iald (i := ((2 * f) + v1)) (x := v17) rfl (by decide) rfl (by decide) (by omega) (by omega) e17 ?_
        refine jr.isub rfl ?_
        refine jr.iw (j_w ((j_w ((j_w r15) + r19)) - v17)) (j_w_eq _) ?_
        have b21 : -2147483648 ≤ j_w ((j_w ((j_w r15) + r19)) - v17) ∧ j_w ((j_w ((j_w r15) + r19)) - v17) ≤ 2147483647 := jb_any _
        refine jr.istore rfl (by decide) rfl ?_
        refine jr.iload rfl rfl ?_
        refine jr.ldcw (x := (-66000)) rfl rfl (by decide) ?_
        refine jr.icmp_lt rfl rfl (by omega) (by omega) (fun h98 => ?_) (fun h98 => ?_)
        · refine jr.iconst rfl ?_
          refine jr.goto rfl rfl ?_
          exact jr.ireturn rfl rfl rfl (q _ (by omega) (by rw [io6_1 (l := v17) (by rw [e1]; omega) (show sq6 M x = j_w r15 from by unfold sq6; rw [hea, e14, ← w15_0]) w19_0.symm (by rw [e1]; exact e17) (by rw [e1]; omega)]))
        · refine jr.aload_n rfl rfl ?_
          refine jr.getf (i := 46) (v := .ref 634) rfl rfl (by decide) rfl (by decide) rfl rfl rfl rfl ?_
          refine jr.iload rfl rfl ?_
          obtain ⟨v22, e22⟩ : ∃ z, M 634 (((2 * f) + 1) - v1) = z := ⟨_, rfl⟩
          have b22 : 0 ≤ v22 ∧ v22 ≤ 1 := by rw [← e22]; exact (by have q := hI_M 634 (((2 * f) + 1) - v1) (by decide); rw [xri_row rfl rfl] at q; exact q)
          refine jr.zald (i := (((2 * f) + 1) - v1)) (x := v22) rfl (by decide) rfl (by decide) (by omega) (by omega) e22 ?_
          refine jr.if_eq rfl rfl (by omega) (fun h108 => ?_) (fun h108 => ?_)
          · refine jr.iconst rfl ?_
            exact jr.ireturn rfl rfl rfl (q _ (by omega) (by rw [io6_2 (l := v17) (by rw [e1]; omega) (show sq6 M x = j_w r15 from by unfold sq6; rw [hea, e14, ← w15_0]) w19_0.symm (by rw [e1]; exact e17) (by rw [e1]; omega)]))
          · refine jr.iload rfl rfl ?_
            refine jr.aload_n rfl rfl ?_
            refine jr.getf (i := 47) (v := .ref 635) rfl rfl (by decide) rfl (by decide) rfl rfl rfl rfl ?_
            refine jr.iload rfl rfl ?_
            obtain ⟨v23, e23⟩ : ∃ z, M 635 (((2 * f) + 1) - v1) = z := ⟨_, rfl⟩
            have b23 : 0 ≤ v23 ∧ v23 ≤ 65535 := by rw [← e23]; exact (by have q := hI_M 635 (((2 * f) + 1) - v1) (by decide); rw [xri_row rfl rfl] at q; exact q)
            refine jr.iald (i := (((2 * f) + 1) - v1)) (x := v23) rfl (by decide) rfl (by decide) (by omega) (by omega) e23 ?_
            refine jr.icmp_le rfl rfl (by omega) (by omega) (fun h120 => ?_) (fun h120 => ?_)
            · refine jr.iconst rfl ?_
              exact jr.ireturn rfl rfl rfl (q _ (by omega) (by rw [io6_2 (l := v17) (by rw [e1]; omega) (show sq6 M x = j_w r15 from by unfold sq6; rw [hea, e14, ← w15_0]) w19_0.symm (by rw [e1]; exact e17) (by rw [e1]; omega)]))
            · refine jr.iconst rfl ?_
              refine jr.goto rfl rfl ?_
              exact jr.ireturn rfl rfl rfl (q _ (by omega) (by rw [io6_1 (l := v17) (by rw [e1]; omega) (show sq6 M x = j_w r15 from by unfold sq6; rw [hea, e14, ← w15_0]) w19_0.symm (by rw [e1]; exact e17) (by rw [e1]; omega)]))
      · refine jr.iconst rfl ?_
        exact jr.ireturn rfl rfl rfl (q _ (by omega) (by rw [io6_0 (by rw [e1]; omega)]))
