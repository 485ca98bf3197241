section
theorem r_sideOf_x {A : Nat → Option (Nat × (Nat → Int32))} {Q : Option Value → jm → Prop} {M : jm} (hI_M : RI M) (hH_M : RH M) (hS_M : RF M) {f : Int} (h_f : 0 ≤ f ∧ f ≤ 23) (q : ∀ (r : Int), (-1) ≤ r ∧ r ≤ 1 → (r = -1 ∨ M 629 f = M 598 60) → r = sd6 M f → Q (some (.int (Int32.ofInt r))) M) : jc A 1 303 [.ref (598), .int (Int32.ofInt (f))] M Q := by
  refine jc_of (m := xm_303) rfl (Nat.le_of_ble_eq_true rfl) rfl ?_
  refine jr.aload_n rfl rfl ?_
  refine jr.getf (i := 39) (v := .ref 627) rfl rfl (by decide) rfl (by decide) rfl rfl rfl rfl ?_
  refine jr.iload_n rfl rfl ?_
  obtain ⟨v1, e1⟩ : ∃ z, M 627 f = z := ⟨_, rfl⟩
  have b1 : 0 ≤ v1 ∧ v1 ≤ 1 := by rw [← e1]; exact (by have q := hI_M 627 f (by decide); rw [xri_row rfl rfl] at q; exact q)
  refine jr.zald (i := f) (x := v1) rfl (by decide) rfl (by decide) (by omega) (by omega) e1 ?_
  refine jr.if_eq rfl rfl (by omega) (fun h6 => ?_) (fun h6 => ?_)
  · refine jr.iconst rfl ?_
    exact jr.ireturn rfl rfl rfl (q _ (by omega) (by omega) (by rw [sd6_n (by omega)]))
  · refine jr.aload_n rfl rfl ?_
    refine jr.getf (i := 40) (v := .ref 628) rfl rfl (by decide) rfl (by decide) rfl rfl rfl rfl ?_
    refine jr.iload_n rfl rfl ?_
    obtain ⟨v2, e2⟩ : ∃ z, M 628 f = z := ⟨_, rfl⟩
    have b2 : 0 ≤ v2 ∧ v2 ≤ 1 := by rw [← e2]; exact (by have q := hI_M 628 f (by decide); rw [xri_row rfl rfl] at q; exact q)
    refine jr.zald (i := f) (x := v2) rfl (by decide) rfl (by decide) (by omega) (by omega) e2 ?_
    refine jr.aload_n rfl rfl ?_
    obtain ⟨v3, e3⟩ : ∃ z, M 598 59 = z := ⟨_, rfl⟩
    have b3 : 0 ≤ v3 ∧ v3 ≤ 1 := by rw [← e3]; exact hI_M 598 59 (by decide)
    refine jr.getf (i := 59) (x := v3) (v := .int (Int32.ofInt (v3))) rfl rfl (by decide) rfl (by decide) rfl rfl e3 rfl ?_
    refine jr.icmp_ne rfl rfl (by omega) (by omega) (fun h19 => ?_) (fun h19 => ?_)
    · refine jr.iconst rfl ?_
      exact jr.ireturn rfl rfl rfl (q _ (by omega) (by omega) (by rw [sd6_n (by omega)]))
    · refine jr.aload_n rfl rfl ?_
      refine jr.getf (i := 41) (v := .ref 629) rfl rfl (by decide) rfl (by decide) rfl rfl rfl rfl ?_
      refine jr.iload_n rfl rfl ?_
      obtain ⟨v4, e4⟩ : ∃ z, M 629 f = z := ⟨_, rfl⟩
      have b4 : 0 ≤ v4 ∧ v4 ≤ 255 := by rw [← e4]; exact (by have q := hI_M 629 f (by decide); rw [xri_row rfl rfl] at q; exact q)
      refine jr.iald (i := f) (x := v4) rfl (by decide) rfl (by decide) (by omega) (by omega) e4 ?_
      refine jr.aload_n rfl rfl ?_
      obtain ⟨v5, e5⟩ : ∃ z, M 598 60 = z := ⟨_, rfl⟩
      have b5 : 0 ≤ v5 ∧ v5 ≤ 255 := by rw [← e5]; exact hI_M 598 60 (by decide)
      refine jr.getf (i := 60) (x := v5) (v := .int (Int32.ofInt (v5))) rfl rfl (by decide) rfl (by decide) rfl rfl e5 rfl ?_
      refine jr.icmp_eq rfl rfl (by omega) (by omega) (fun h32 => ?_) (fun h32 => ?_)
      · refine jr.iconst rfl ?_
        refine jr.iload_n rfl rfl ?_
        refine jr.imul rfl ?_
        refine jr.istore_n (ls' := [_, _, _]) rfl (by decide) rfl ?_
        refine jr.iload_n rfl rfl ?_
        refine jr.iconst rfl ?_
        refine jr.iadd rfl ?_
        refine jr.istore_n (ls' := [_, _, _, _]) rfl (by decide) rfl ?_
        refine jr.aload_n rfl rfl ?_
        obtain ⟨v6, e6⟩ : ∃ z, M 598 61 = z := ⟨_, rfl⟩
        have b6 : (-9223372036854775808) ≤ v6 ∧ v6 ≤ 9223372036854775807 := by rw [← e6]; exact hI_M 598 61 (by decide)
        refine jr.getf (i := 61) (x := v6) (v := .long (Int64.ofInt (v6))) rfl rfl (by decide) rfl (by decide) rfl rfl e6 rfl ?_
        refine jr.aload_n rfl rfl ?_
        refine jr.getf (i := 42) (v := .ref 630) rfl rfl (by decide) rfl (by decide) rfl rfl rfl rfl ?_
        refine jr.iload_n rfl rfl ?_
        obtain ⟨v7, e7⟩ : ∃ z, M 630 (2 * f) = z := ⟨_, rfl⟩
        have b7 : (-9223372036854775808) ≤ v7 ∧ v7 ≤ 9223372036854775807 := by rw [← e7]; exact (by have q := hI_M 630 (2 * f) (by decide); rw [xri_row rfl rfl] at q; exact q)
        refine jr.lald (i := (2 * f)) (x := v7) rfl (by decide) rfl (by decide) (by omega) (by omega) e7 ?_
        refine jr.lcmp_ne rfl rfl rfl (by omega) (by omega) (fun h55 => ?_) (fun h55 => ?_)
        · refine jr.aload_n rfl rfl ?_
          refine jr.getf (i := 52) (v := .ref 640) rfl rfl (by decide) rfl (by decide) rfl rfl rfl rfl ?_
          refine jr.iload_n rfl rfl ?_
          obtain ⟨v8, e8⟩ : ∃ z, M 640 f = z := ⟨_, rfl⟩
          have b8 : (-1) ≤ v8 ∧ v8 ≤ 3 := by rw [← e8]; exact (by have q := hI_M 640 f (by decide); rw [xri_row rfl rfl] at q; exact q)
          refine jr.iald (i := f) (x := v8) rfl (by decide) rfl (by decide) (by omega) (by omega) e8 ?_
          refine jr.iconst rfl ?_
          refine jr.icmp_ne rfl rfl (by omega) (by omega) (fun h108 => ?_) (fun h108 => ?_)
          · refine jr.aload_n rfl rfl ?_
            refine jr.getf (i := 53) (v := .ref 641) rfl rfl (by decide) rfl (by decide) rfl rfl rfl rfl ?_
            refine jr.iload_n rfl rfl ?_
            obtain ⟨v9, e9⟩ : ∃ z, M 641 f = z := ⟨_, rfl⟩
            have b9 : (-9223372036854775808) ≤ v9 ∧ v9 ≤ 9223372036854775807 := by rw [← e9]; exact (by have q := hI_M 641 f (by decide); rw [xri_row rfl rfl] at q; exact q)
            refine jr.lald (i := f) (x := v9) rfl (by decide) rfl (by decide) (by omega) (by omega) e9 ?_
            refine jr.lstore (ls' := [_, _, _, _, _]) rfl (by decide) rfl ?_
            refine jr.aload_n rfl rfl ?_
            refine jr.getf (i := 52) (v := .ref 640) rfl rfl (by decide) rfl (by decide) rfl rfl rfl rfl ?_
            refine jr.iload_n rfl rfl ?_
            refine jr.iald (i := f) (x := v8) rfl (by decide) rfl (by decide) (by omega) (by omega) e8 ?_
            refine jr.iconst rfl ?_
            refine jr.icmp_ne rfl rfl (by omega) (by omega) (fun h135 => ?_) (fun h135 => ?_)
            · refine jr.aload_n rfl rfl ?_
              refine jr.getf (i := 54) (v := .ref 642) rfl rfl (by decide) rfl (by decide) rfl rfl rfl rfl ?_
              refine jr.iload_n rfl rfl ?_
              obtain ⟨v10, e10⟩ : ∃ z, M 642 f = z := ⟨_, rfl⟩
              have b10 : 0 ≤ v10 ∧ v10 ≤ 70000 := by rw [← e10]; exact (by have q := hI_M 642 f (by decide); rw [xri_row rfl rfl] at q; exact q)
              refine jr.iald (i := f) (x := v10) rfl (by decide) rfl (by decide) (by omega) (by omega) e10 ?_
              refine jr.istore (ls' := [_, _, _, _, _, _]) rfl (by decide) rfl ?_
              refine jr.aload_n rfl rfl ?_
              refine jr.getf (i := 61) (x := v6) (v := .long (Int64.ofInt (v6))) rfl rfl (by decide) rfl (by decide) rfl rfl e6 rfl ?_
              refine jr.aload_n rfl rfl ?_
              refine jr.getf (i := 42) (v := .ref 630) rfl rfl (by decide) rfl (by decide) rfl rfl rfl rfl ?_
              refine jr.iload_n rfl rfl ?_
              obtain ⟨v11, e11⟩ : ∃ z, M 630 ((2 * f) + 1) = z := ⟨_, rfl⟩
              have b11 : (-9223372036854775808) ≤ v11 ∧ v11 ≤ 9223372036854775807 := by rw [← e11]; exact (by have q := hI_M 630 ((2 * f) + 1) (by decide); rw [xri_row rfl rfl] at q; exact q)
              refine jr.lald (i := ((2 * f) + 1)) (x := v11) rfl (by decide) rfl (by decide) (by omega) (by omega) e11 ?_
              refine jr.lcmp_ne rfl rfl rfl (by omega) (by omega) (fun h165 => ?_) (fun h165 => ?_)
              · refine jr.iconst rfl ?_
                exact jr.ireturn rfl rfl rfl (q _ (by omega) (by omega) (by have x0 : M 630 (2 * f) = v7 := e7; have x1 : M 630 (2 * f + 1) = v11 := e11; rw [sd6_m (by omega) (by omega) (by omega)]))
              · refine jr.aload_n rfl rfl ?_
                obtain ⟨v12, e12⟩ : ∃ z, M 598 63 = z := ⟨_, rfl⟩
                have b12 : 0 ≤ v12 ∧ v12 ≤ 65535 := by rw [← e12]; exact hI_M 598 63 (by decide)
                refine jr.getf (i := 63) (x := v12) (v := .int (Int32.ofInt (v12))) rfl rfl (by decide) rfl (by decide) rfl rfl e12 rfl ?_
                refine jr.aload_n rfl rfl ?_
                refine jr.getf (i := 43) (v := .ref 631) rfl rfl (by decide) rfl (by decide) rfl rfl rfl rfl ?_
                refine jr.iload_n rfl rfl ?_
                obtain ⟨v13, e13⟩ : ∃ z, M 631 ((2 * f) + 1) = z := ⟨_, rfl⟩
                have b13 : 0 ≤ v13 ∧ v13 ≤ 65535 := by rw [← e13]; exact (by have q := hI_M 631 ((2 * f) + 1) (by decide); rw [xri_row rfl rfl] at q; exact q)
                refine jr.iald (i := ((2 * f) + 1)) (x := v13) rfl (by decide) rfl (by decide) (by omega) (by omega) e13 ?_
                refine jr.icmp_ne rfl rfl (by omega) (by omega) (fun h179 => ?_) (fun h179 => ?_)
                · refine jr.iconst rfl ?_
                  exact jr.ireturn rfl rfl rfl (q _ (by omega) (by omega) (by have x0 : M 630 (2 * f) = v7 := e7; have x1 : M 630 (2 * f + 1) = v11 := e11; have x2 : M 631 (2 * f + 1) = v13 := e13; rw [sd6_m (by omega) (by omega) (by omega)]))
                · refine jr.aload_n rfl rfl ?_
                  obtain ⟨v14, e14⟩ : ∃ z, M 598 62 = z := ⟨_, rfl⟩
                  have b14 : (-9223372036854775808) ≤ v14 ∧ v14 ≤ 9223372036854775807 := by rw [← e14]; exact hI_M 598 62 (by decide)
                  refine jr.getf (i := 62) (x := v14) (v := .long (Int64.ofInt (v14))) rfl rfl (by decide) rfl (by decide) rfl rfl e14 rfl ?_
                  refine jr.lload rfl rfl ?_
                  refine jr.lcmp_ne rfl rfl rfl (by omega) (by omega) (fun h188 => ?_) (fun h188 => ?_)
                  · refine jr.iconst rfl ?_
                    exact jr.ireturn rfl rfl rfl (q _ (by omega) (by omega) (by have x0 : M 630 (2 * f) = v7 := e7; have x1 : M 630 (2 * f + 1) = v11 := e11; have x2 : M 631 (2 * f + 1) = v13 := e13; rw [sd6_m (by omega) (by omega) (by omega)]))
                  · refine jr.aload_n rfl rfl ?_
                    obtain ⟨v15, e15⟩ : ∃ z, M 598 64 = z := ⟨_, rfl⟩
                    have b15 : 0 ≤ v15 ∧ v15 ≤ 65535 := by rw [← e15]; exact hI_M 598 64 (by decide)
                    refine jr.getf (i := 64) (x := v15) (v := .int (Int32.ofInt (v15))) rfl rfl (by decide) rfl (by decide) rfl rfl e15 rfl ?_
                    refine jr.iload rfl rfl ?_
                    refine jr.icmp_ne rfl rfl (by omega) (by omega) (fun h198 => ?_) (fun h198 => ?_)
                    · refine jr.iconst rfl ?_
                      exact jr.ireturn rfl rfl rfl (q _ (by omega) (by omega) (by have x0 : M 630 (2 * f) = v7 := e7; have x1 : M 630 (2 * f + 1) = v11 := e11; have x2 : M 631 (2 * f + 1) = v13 := e13; rw [sd6_m (by omega) (by omega) (by omega)]))
                    · refine jr.iconst rfl ?_
                      refine jr.goto rfl rfl ?_
                      exact jr.ireturn rfl rfl rfl (q _ (by omega) (by omega) (by have x0 : M 630 (2 * f) = v7 := e7; have x1 : M 630 (2 * f + 1) = v11 := e11; have x2 : M 631 (2 * f + 1) = v13 := e13; rw [sd6_1 (by omega) (by omega) (by omega) (by omega)]))
            · exact absurd (by omega) h135
          · refine jr.aload_n rfl rfl ?_
            refine jr.getf (i := 42) (v := .ref 630) rfl rfl (by decide) rfl (by decide) rfl rfl rfl rfl ?_
            refine jr.iload_n rfl rfl ?_
            refine jr.lald (i := (2 * f)) (x := v7) rfl (by decide) rfl (by decide) (by omega) (by omega) e7 ?_
            refine jr.goto rfl rfl ?_
            refine jr.lstore (ls' := [_, _, _, _, _]) rfl (by decide) rfl ?_
            refine jr.aload_n rfl rfl ?_
            refine jr.getf (i := 52) (v := .ref 640) rfl rfl (by decide) rfl (by decide) rfl rfl rfl rfl ?_
            refine jr.iload_n rfl rfl ?_
            refine jr.iald (i := f) (x := v8) rfl (by decide) rfl (by decide) (by omega) (by omega) e8 ?_
            refine jr.iconst rfl ?_
            refine jr.icmp_ne rfl rfl (by omega) (by omega) (fun h135 => ?_) (fun h135 => ?_)
            · exact absurd h135 (by omega)
            · refine jr.aload_n rfl rfl ?_
              refine jr.getf (i := 43) (v := .ref 631) rfl rfl (by decide) rfl (by decide) rfl rfl rfl rfl ?_
              refine jr.iload_n rfl rfl ?_
              obtain ⟨v16, e16⟩ : ∃ z, M 631 (2 * f) = z := ⟨_, rfl⟩
              have b16 : 0 ≤ v16 ∧ v16 ≤ 65535 := by rw [← e16]; exact (by have q := hI_M 631 (2 * f) (by decide); rw [xri_row rfl rfl] at q; exact q)
              refine jr.iald (i := (2 * f)) (x := v16) rfl (by decide) rfl (by decide) (by omega) (by omega) e16 ?_
              refine jr.goto rfl rfl ?_
              refine jr.istore (ls' := [_, _, _, _, _, _]) rfl (by decide) rfl ?_
              refine jr.aload_n rfl rfl ?_
              refine jr.getf (i := 61) (x := v6) (v := .long (Int64.ofInt (v6))) rfl rfl (by decide) rfl (by decide) rfl rfl e6 rfl ?_
              refine jr.aload_n rfl rfl ?_
              refine jr.getf (i := 42) (v := .ref 630) rfl rfl (by decide) rfl (by decide) rfl rfl rfl rfl ?_
              refine jr.iload_n rfl rfl ?_
              obtain ⟨v17, e17⟩ : ∃ z, M 630 ((2 * f) + 1) = z := ⟨_, rfl⟩
              have b17 : (-9223372036854775808) ≤ v17 ∧ v17 ≤ 9223372036854775807 := by rw [← e17]; exact (by have q := hI_M 630 ((2 * f) + 1) (by decide); rw [xri_row rfl rfl] at q; exact q)
              refine jr.lald (i := ((2 * f) + 1)) (x := v17) rfl (by decide) rfl (by decide) (by omega) (by omega) e17 ?_
              refine jr.lcmp_ne rfl rfl rfl (by omega) (by omega) (fun h165 => ?_) (fun h165 => ?_)
              · refine jr.iconst rfl ?_
                exact jr.ireturn rfl rfl rfl (q _ (by omega) (by omega) (by have x0 : M 630 (2 * f) = v7 := e7; have x1 : M 631 (2 * f) = v16 := e16; have x2 : M 630 (2 * f + 1) = v17 := e17; rw [sd6_m (by omega) (by omega) (by omega)]))
              · refine jr.aload_n rfl rfl ?_
                obtain ⟨v18, e18⟩ : ∃ z, M 598 63 = z := ⟨_, rfl⟩
                have b18 : 0 ≤ v18 ∧ v18 ≤ 65535 := by rw [← e18]; exact hI_M 598 63 (by decide)
                refine jr.getf (i := 63) (x := v18) (v := .int (Int32.ofInt (v18))) rfl rfl (by decide) rfl (by decide) rfl rfl e18 rfl ?_
                refine jr.aload_n rfl rfl ?_
                refine jr.getf (i := 43) (v := .ref 631) rfl rfl (by decide) rfl (by decide) rfl rfl rfl rfl ?_
                refine jr.iload_n rfl rfl ?_
                obtain ⟨v19, e19⟩ : ∃ z, M 631 ((2 * f) + 1) = z := ⟨_, rfl⟩
                have b19 : 0 ≤ v19 ∧ v19 ≤ 65535 := by rw [← e19]; exact (by have q := hI_M 631 ((2 * f) + 1) (by decide); rw [xri_row rfl rfl] at q; exact q)
                refine jr.iald (i := ((2 * f) + 1)) (x := v19) rfl (by decide) rfl (by decide) (by omega) (by omega) e19 ?_
                refine jr.icmp_ne rfl rfl (by omega) (by omega) (fun h179 => ?_) (fun h179 => ?_)
                · refine jr.iconst rfl ?_
                  exact jr.ireturn rfl rfl rfl (q _ (by omega) (by omega) (by have x0 : M 630 (2 * f) = v7 := e7; have x1 : M 631 (2 * f) = v16 := e16; have x2 : M 630 (2 * f + 1) = v17 := e17; have x3 : M 631 (2 * f + 1) = v19 := e19; rw [sd6_m (by omega) (by omega) (by omega)]))
                · refine jr.aload_n rfl rfl ?_
                  obtain ⟨v20, e20⟩ : ∃ z, M 598 62 = z := ⟨_, rfl⟩
                  have b20 : (-9223372036854775808) ≤ v20 ∧ v20 ≤ 9223372036854775807 := by rw [← e20]; exact hI_M 598 62 (by decide)
                  refine jr.getf (i := 62) (x := v20) (v := .long (Int64.ofInt (v20))) rfl rfl (by decide) rfl (by decide) rfl rfl e20 rfl ?_
                  refine jr.lload rfl rfl ?_
                  refine jr.lcmp_ne rfl rfl rfl (by omega) (by omega) (fun h188 => ?_) (fun h188 => ?_)
                  · refine jr.iconst rfl ?_
                    exact jr.ireturn rfl rfl rfl (q _ (by omega) (by omega) (by have x0 : M 630 (2 * f) = v7 := e7; have x1 : M 631 (2 * f) = v16 := e16; have x2 : M 630 (2 * f + 1) = v17 := e17; have x3 : M 631 (2 * f + 1) = v19 := e19; rw [sd6_m (by omega) (by omega) (by omega)]))
                  · refine jr.aload_n rfl rfl ?_
                    obtain ⟨v21, e21⟩ : ∃ z, M 598 64 = z := ⟨_, rfl⟩
                    have b21 : 0 ≤ v21 ∧ v21 ≤ 65535 := by rw [← e21]; exact hI_M 598 64 (by decide)
                    refine jr.getf (i := 64) (x := v21) (v := .int (Int32.ofInt (v21))) rfl rfl (by decide) rfl (by decide) rfl rfl e21 rfl ?_
                    refine jr.iload rfl rfl ?_
                    refine jr.icmp_ne rfl rfl (by omega) (by omega) (fun h198 => ?_) (fun h198 => ?_)
                    · refine jr.iconst rfl ?_
                      exact jr.ireturn rfl rfl rfl (q _ (by omega) (by omega) (by have x0 : M 630 (2 * f) = v7 := e7; have x1 : M 631 (2 * f) = v16 := e16; have x2 : M 630 (2 * f + 1) = v17 := e17; have x3 : M 631 (2 * f + 1) = v19 := e19; rw [sd6_m (by omega) (by omega) (by omega)]))
                    · refine jr.iconst rfl ?_
                      refine jr.goto rfl rfl ?_
                      exact jr.ireturn rfl rfl rfl (q _ (by omega) (by omega) (by have x0 : M 630 (2 * f) = v7 := e7; have x1 : M 631 (2 * f) = v16 := e16; have x2 : M 630 (2 * f + 1) = v17 := e17; have x3 : M 631 (2 * f + 1) = v19 := e19; rw [sd6_1 (by omega) (by omega) (by omega) (by omega)]))
        · refine jr.aload_n rfl rfl ?_
          obtain ⟨v22, e22⟩ : ∃ z, M 598 63 = z := ⟨_, rfl⟩
          have b22 : 0 ≤ v22 ∧ v22 ≤ 65535 := by rw [← e22]; exact hI_M 598 63 (by decide)
          refine jr.getf (i := 63) (x := v22) (v := .int (Int32.ofInt (v22))) rfl rfl (by decide) rfl (by decide) rfl rfl e22 rfl ?_
          refine jr.aload_n rfl rfl ?_
          refine jr.getf (i := 43) (v := .ref 631) rfl rfl (by decide) rfl (by decide) rfl rfl rfl rfl ?_
          refine jr.iload_n rfl rfl ?_
          obtain ⟨v23, e23⟩ : ∃ z, M 631 (2 * f) = z := ⟨_, rfl⟩
          have b23 : 0 ≤ v23 ∧ v23 ≤ 65535 := by rw [← e23]; exact (by have q := hI_M 631 (2 * f) (by decide); rw [xri_row rfl rfl] at q; exact q)
          refine jr.iald (i := (2 * f)) (x := v23) rfl (by decide) rfl (by decide) (by omega) (by omega) e23 ?_
          refine jr.icmp_ne rfl rfl (by omega) (by omega) (fun h69 => ?_) (fun h69 => ?_)
          · refine jr.aload_n rfl rfl ?_
            refine jr.getf (i := 52) (v := .ref 640) rfl rfl (by decide) rfl (by decide) rfl rfl rfl rfl ?_
            refine jr.iload_n rfl rfl ?_
            obtain ⟨v24, e24⟩ : ∃ z, M 640 f = z := ⟨_, rfl⟩
            have b24 : (-1) ≤ v24 ∧ v24 ≤ 3 := by rw [← e24]; exact (by have q := hI_M 640 f (by decide); rw [xri_row rfl rfl] at q; exact q)
            refine jr.iald (i := f) (x := v24) rfl (by decide) rfl (by decide) (by omega) (by omega) e24 ?_
            refine jr.iconst rfl ?_
            refine jr.icmp_ne rfl rfl (by omega) (by omega) (fun h108 => ?_) (fun h108 => ?_)
            · refine jr.aload_n rfl rfl ?_
              refine jr.getf (i := 53) (v := .ref 641) rfl rfl (by decide) rfl (by decide) rfl rfl rfl rfl ?_
              refine jr.iload_n rfl rfl ?_
              obtain ⟨v25, e25⟩ : ∃ z, M 641 f = z := ⟨_, rfl⟩
              have b25 : (-9223372036854775808) ≤ v25 ∧ v25 ≤ 9223372036854775807 := by rw [← e25]; exact (by have q := hI_M 641 f (by decide); rw [xri_row rfl rfl] at q; exact q)
              refine jr.lald (i := f) (x := v25) rfl (by decide) rfl (by decide) (by omega) (by omega) e25 ?_
              refine jr.lstore (ls' := [_, _, _, _, _]) rfl (by decide) rfl ?_
              refine jr.aload_n rfl rfl ?_
              refine jr.getf (i := 52) (v := .ref 640) rfl rfl (by decide) rfl (by decide) rfl rfl rfl rfl ?_
              refine jr.iload_n rfl rfl ?_
              refine jr.iald (i := f) (x := v24) rfl (by decide) rfl (by decide) (by omega) (by omega) e24 ?_
              refine jr.iconst rfl ?_
              refine jr.icmp_ne rfl rfl (by omega) (by omega) (fun h135 => ?_) (fun h135 => ?_)
              · refine jr.aload_n rfl rfl ?_
                refine jr.getf (i := 54) (v := .ref 642) rfl rfl (by decide) rfl (by decide) rfl rfl rfl rfl ?_
                refine jr.iload_n rfl rfl ?_
                obtain ⟨v26, e26⟩ : ∃ z, M 642 f = z := ⟨_, rfl⟩
                have b26 : 0 ≤ v26 ∧ v26 ≤ 70000 := by rw [← e26]; exact (by have q := hI_M 642 f (by decide); rw [xri_row rfl rfl] at q; exact q)
                refine jr.iald (i := f) (x := v26) rfl (by decide) rfl (by decide) (by omega) (by omega) e26 ?_
                refine jr.istore (ls' := [_, _, _, _, _, _]) rfl (by decide) rfl ?_
                refine jr.aload_n rfl rfl ?_
                refine jr.getf (i := 61) (x := v6) (v := .long (Int64.ofInt (v6))) rfl rfl (by decide) rfl (by decide) rfl rfl e6 rfl ?_
                refine jr.aload_n rfl rfl ?_
                refine jr.getf (i := 42) (v := .ref 630) rfl rfl (by decide) rfl (by decide) rfl rfl rfl rfl ?_
                refine jr.iload_n rfl rfl ?_
                obtain ⟨v27, e27⟩ : ∃ z, M 630 ((2 * f) + 1) = z := ⟨_, rfl⟩
                have b27 : (-9223372036854775808) ≤ v27 ∧ v27 ≤ 9223372036854775807 := by rw [← e27]; exact (by have q := hI_M 630 ((2 * f) + 1) (by decide); rw [xri_row rfl rfl] at q; exact q)
                refine jr.lald (i := ((2 * f) + 1)) (x := v27) rfl (by decide) rfl (by decide) (by omega) (by omega) e27 ?_
                refine jr.lcmp_ne rfl rfl rfl (by omega) (by omega) (fun h165 => ?_) (fun h165 => ?_)
                · refine jr.iconst rfl ?_
                  exact jr.ireturn rfl rfl rfl (q _ (by omega) (by omega) (by have x0 : M 630 (2 * f) = v7 := e7; have x1 : M 631 (2 * f) = v23 := e23; have x2 : M 630 (2 * f + 1) = v27 := e27; rw [sd6_m (by omega) (by omega) (by omega)]))
                · refine jr.aload_n rfl rfl ?_
                  refine jr.getf (i := 63) (x := v22) (v := .int (Int32.ofInt (v22))) rfl rfl (by decide) rfl (by decide) rfl rfl e22 rfl ?_
                  refine jr.aload_n rfl rfl ?_
                  refine jr.getf (i := 43) (v := .ref 631) rfl rfl (by decide) rfl (by decide) rfl rfl rfl rfl ?_
                  refine jr.iload_n rfl rfl ?_
                  obtain ⟨v28, e28⟩ : ∃ z, M 631 ((2 * f) + 1) = z := ⟨_, rfl⟩
                  have b28 : 0 ≤ v28 ∧ v28 ≤ 65535 := by rw [← e28]; exact (by have q := hI_M 631 ((2 * f) + 1) (by decide); rw [xri_row rfl rfl] at q; exact q)
                  refine jr.iald (i := ((2 * f) + 1)) (x := v28) rfl (by decide) rfl (by decide) (by omega) (by omega) e28 ?_
                  refine jr.icmp_ne rfl rfl (by omega) (by omega) (fun h179 => ?_) (fun h179 => ?_)
                  · refine jr.iconst rfl ?_
                    exact jr.ireturn rfl rfl rfl (q _ (by omega) (by omega) (by have x0 : M 630 (2 * f) = v7 := e7; have x1 : M 631 (2 * f) = v23 := e23; have x2 : M 630 (2 * f + 1) = v27 := e27; have x3 : M 631 (2 * f + 1) = v28 := e28; rw [sd6_m (by omega) (by omega) (by omega)]))
                  · refine jr.aload_n rfl rfl ?_
                    obtain ⟨v29, e29⟩ : ∃ z, M 598 62 = z := ⟨_, rfl⟩
                    have b29 : (-9223372036854775808) ≤ v29 ∧ v29 ≤ 9223372036854775807 := by rw [← e29]; exact hI_M 598 62 (by decide)
                    refine jr.getf (i := 62) (x := v29) (v := .long (Int64.ofInt (v29))) rfl rfl (by decide) rfl (by decide) rfl rfl e29 rfl ?_
                    refine jr.lload rfl rfl ?_
                    refine jr.lcmp_ne rfl rfl rfl (by omega) (by omega) (fun h188 => ?_) (fun h188 => ?_)
                    · refine jr.iconst rfl ?_
                      exact jr.ireturn rfl rfl rfl (q _ (by omega) (by omega) (by have x0 : M 630 (2 * f) = v7 := e7; have x1 : M 631 (2 * f) = v23 := e23; have x2 : M 630 (2 * f + 1) = v27 := e27; have x3 : M 631 (2 * f + 1) = v28 := e28; rw [sd6_m (by omega) (by omega) (by omega)]))
                    · refine jr.aload_n rfl rfl ?_
                      obtain ⟨v30, e30⟩ : ∃ z, M 598 64 = z := ⟨_, rfl⟩
                      have b30 : 0 ≤ v30 ∧ v30 ≤ 65535 := by rw [← e30]; exact hI_M 598 64 (by decide)
                      refine jr.getf (i := 64) (x := v30) (v := .int (Int32.ofInt (v30))) rfl rfl (by decide) rfl (by decide) rfl rfl e30 rfl ?_
                      refine jr.iload rfl rfl ?_
                      refine jr.icmp_ne rfl rfl (by omega) (by omega) (fun h198 => ?_) (fun h198 => ?_)
                      · refine jr.iconst rfl ?_
                        exact jr.ireturn rfl rfl rfl (q _ (by omega) (by omega) (by have x0 : M 630 (2 * f) = v7 := e7; have x1 : M 631 (2 * f) = v23 := e23; have x2 : M 630 (2 * f + 1) = v27 := e27; have x3 : M 631 (2 * f + 1) = v28 := e28; rw [sd6_m (by omega) (by omega) (by omega)]))
                      · refine jr.iconst rfl ?_
                        refine jr.goto rfl rfl ?_
                        exact jr.ireturn rfl rfl rfl (q _ (by omega) (by omega) (by have x0 : M 630 (2 * f) = v7 := e7; have x1 : M 631 (2 * f) = v23 := e23; have x2 : M 630 (2 * f + 1) = v27 := e27; have x3 : M 631 (2 * f + 1) = v28 := e28; rw [sd6_1 (by omega) (by omega) (by omega) (by omega)]))
              · exact absurd (by omega) h135
            · refine jr.aload_n rfl rfl ?_
              refine jr.getf (i := 42) (v := .ref 630) rfl rfl (by decide) rfl (by decide) rfl rfl rfl rfl ?_
              refine jr.iload_n rfl rfl ?_
              refine jr.lald (i := (2 * f)) (x := v7) rfl (by decide) rfl (by decide) (by omega) (by omega) e7 ?_
              refine jr.goto rfl rfl ?_
              refine jr.lstore (ls' := [_, _, _, _, _]) rfl (by decide) rfl ?_
              refine jr.aload_n rfl rfl ?_
              refine jr.getf (i := 52) (v := .ref 640) rfl rfl (by decide) rfl (by decide) rfl rfl rfl rfl ?_
              refine jr.iload_n rfl rfl ?_
              refine jr.iald (i := f) (x := v24) rfl (by decide) rfl (by decide) (by omega) (by omega) e24 ?_
              refine jr.iconst rfl ?_
              refine jr.icmp_ne rfl rfl (by omega) (by omega) (fun h135 => ?_) (fun h135 => ?_)
              · exact absurd h135 (by omega)
              · refine jr.aload_n rfl rfl ?_
                refine jr.getf (i := 43) (v := .ref 631) rfl rfl (by decide) rfl (by decide) rfl rfl rfl rfl ?_
                refine jr.iload_n rfl rfl ?_
                refine jr.iald (i := (2 * f)) (x := v23) rfl (by decide) rfl (by decide) (by omega) (by omega) e23 ?_
                refine jr.goto rfl rfl ?_
                refine jr.istore (ls' := [_, _, _, _, _, _]) rfl (by decide) rfl ?_
                refine jr.aload_n rfl rfl ?_
                refine jr.getf (i := 61) (x := v6) (v := .long (Int64.ofInt (v6))) rfl rfl (by decide) rfl (by decide) rfl rfl e6 rfl ?_
                refine jr.aload_n rfl rfl ?_
                refine jr.getf (i := 42) (v := .ref 630) rfl rfl (by decide) rfl (by decide) rfl rfl rfl rfl ?_
                refine jr.iload_n rfl rfl ?_
                obtain ⟨v31, e31⟩ : ∃ z, M 630 ((2 * f) + 1) = z := ⟨_, rfl⟩
                have b31 : (-9223372036854775808) ≤ v31 ∧ v31 ≤ 9223372036854775807 := by rw [← e31]; exact (by have q := hI_M 630 ((2 * f) + 1) (by decide); rw [xri_row rfl rfl] at q; exact q)
                refine jr.lald (i := ((2 * f) + 1)) (x := v31) rfl (by decide) rfl (by decide) (by omega) (by omega) e31 ?_
                refine jr.lcmp_ne rfl rfl rfl (by omega) (by omega) (fun h165 => ?_) (fun h165 => ?_)
                · refine jr.iconst rfl ?_
                  exact jr.ireturn rfl rfl rfl (q _ (by omega) (by omega) (by have x0 : M 630 (2 * f) = v7 := e7; have x1 : M 631 (2 * f) = v23 := e23; have x2 : M 630 (2 * f + 1) = v31 := e31; rw [sd6_m (by omega) (by omega) (by omega)]))
                · refine jr.aload_n rfl rfl ?_
                  refine jr.getf (i := 63) (x := v22) (v := .int (Int32.ofInt (v22))) rfl rfl (by decide) rfl (by decide) rfl rfl e22 rfl ?_
                  refine jr.aload_n rfl rfl ?_
                  refine jr.getf (i := 43) (v := .ref 631) rfl rfl (by decide) rfl (by decide) rfl rfl rfl rfl ?_
                  refine jr.iload_n rfl rfl ?_
                  obtain ⟨v32, e32⟩ : ∃ z, M 631 ((2 * f) + 1) = z := ⟨_, rfl⟩
                  have b32 : 0 ≤ v32 ∧ v32 ≤ 65535 := by rw [← e32]; exact (by have q := hI_M 631 ((2 * f) + 1) (by decide); rw [xri_row rfl rfl] at q; exact q)
                  refine jr.iald (i := ((2 * f) + 1)) (x := v32) rfl (by decide) rfl (by decide) (by omega) (by omega) e32 ?_
                  refine jr.icmp_ne rfl rfl (by omega) (by omega) (fun h179 => ?_) (fun h179 => ?_)
                  · refine jr.iconst rfl ?_
                    exact jr.ireturn rfl rfl rfl (q _ (by omega) (by omega) (by have x0 : M 630 (2 * f) = v7 := e7; have x1 : M 631 (2 * f) = v23 := e23; have x2 : M 630 (2 * f + 1) = v31 := e31; have x3 : M 631 (2 * f + 1) = v32 := e32; rw [sd6_m (by omega) (by omega) (by omega)]))
                  · refine jr.aload_n rfl rfl ?_
                    obtain ⟨v33, e33⟩ : ∃ z, M 598 62 = z := ⟨_, rfl⟩
                    have b33 : (-9223372036854775808) ≤ v33 ∧ v33 ≤ 9223372036854775807 := by rw [← e33]; exact hI_M 598 62 (by decide)
                    refine jr.getf (i := 62) (x := v33) (v := .long (Int64.ofInt (v33))) rfl rfl (by decide) rfl (by decide) rfl rfl e33 rfl ?_
                    refine jr.lload rfl rfl ?_
                    refine jr.lcmp_ne rfl rfl rfl (by omega) (by omega) (fun h188 => ?_) (fun h188 => ?_)
                    · refine jr.iconst rfl ?_
                      exact jr.ireturn rfl rfl rfl (q _ (by omega) (by omega) (by have x0 : M 630 (2 * f) = v7 := e7; have x1 : M 631 (2 * f) = v23 := e23; have x2 : M 630 (2 * f + 1) = v31 := e31; have x3 : M 631 (2 * f + 1) = v32 := e32; rw [sd6_m (by omega) (by omega) (by omega)]))
                    · refine jr.aload_n rfl rfl ?_
                      obtain ⟨v34, e34⟩ : ∃ z, M 598 64 = z := ⟨_, rfl⟩
                      have b34 : 0 ≤ v34 ∧ v34 ≤ 65535 := by rw [← e34]; exact hI_M 598 64 (by decide)
                      refine jr.getf (i := 64) (x := v34) (v := .int (Int32.ofInt (v34))) rfl rfl (by decide) rfl (by decide) rfl rfl e34 rfl ?_
                      refine jr.iload rfl rfl ?_
                      refine jr.icmp_ne rfl rfl (by omega) (by omega) (fun h198 => ?_) (fun h198 => ?_)
                      · refine jr.iconst rfl ?_
                        exact jr.ireturn rfl rfl rfl (q _ (by omega) (by omega) (by have x0 : M 630 (2 * f) = v7 := e7; have x1 : M 631 (2 * f) = v23 := e23; have x2 : M 630 (2 * f + 1) = v31 := e31; have x3 : M 631 (2 * f + 1) = v32 := e32; rw [sd6_m (by omega) (by omega) (by omega)]))
                      · refine jr.iconst rfl ?_
                        refine jr.goto rfl rfl ?_
                        exact jr.ireturn rfl rfl rfl (q _ (by omega) (by omega) (by have x0 : M 630 (2 * f) = v7 := e7; have x1 : M 631 (2 * f) = v23 := e23; have x2 : M 630 (2 * f + 1) = v31 := e31; have x3 : M 631 (2 * f + 1) = v32 := e32; rw [sd6_1 (by omega) (by omega) (by omega) (by omega)]))
          · refine jr.aload_n rfl rfl ?_
            obtain ⟨v35, e35⟩ : ∃ z, M 598 62 = z := ⟨_, rfl⟩
            have b35 : (-9223372036854775808) ≤ v35 ∧ v35 ≤ 9223372036854775807 := by rw [← e35]; exact hI_M 598 62 (by decide)
            refine jr.getf (i := 62) (x := v35) (v := .long (Int64.ofInt (v35))) rfl rfl (by decide) rfl (by decide) rfl rfl e35 rfl ?_
            refine jr.aload_n rfl rfl ?_
            refine jr.getf (i := 42) (v := .ref 630) rfl rfl (by decide) rfl (by decide) rfl rfl rfl rfl ?_
            refine jr.iload_n rfl rfl ?_
            obtain ⟨v36, e36⟩ : ∃ z, M 630 ((2 * f) + 1) = z := ⟨_, rfl⟩
            have b36 : (-9223372036854775808) ≤ v36 ∧ v36 ≤ 9223372036854775807 := by rw [← e36]; exact (by have q := hI_M 630 ((2 * f) + 1) (by decide); rw [xri_row rfl rfl] at q; exact q)
            refine jr.lald (i := ((2 * f) + 1)) (x := v36) rfl (by decide) rfl (by decide) (by omega) (by omega) e36 ?_
            refine jr.lcmp_ne rfl rfl rfl (by omega) (by omega) (fun h82 => ?_) (fun h82 => ?_)
            · refine jr.aload_n rfl rfl ?_
              refine jr.getf (i := 52) (v := .ref 640) rfl rfl (by decide) rfl (by decide) rfl rfl rfl rfl ?_
              refine jr.iload_n rfl rfl ?_
              obtain ⟨v37, e37⟩ : ∃ z, M 640 f = z := ⟨_, rfl⟩
              have b37 : (-1) ≤ v37 ∧ v37 ≤ 3 := by rw [← e37]; exact (by have q := hI_M 640 f (by decide); rw [xri_row rfl rfl] at q; exact q)
              refine jr.iald (i := f) (x := v37) rfl (by decide) rfl (by decide) (by omega) (by omega) e37 ?_
              refine jr.iconst rfl ?_
              refine jr.icmp_ne rfl rfl (by omega) (by omega) (fun h108 => ?_) (fun h108 => ?_)
              · refine jr.aload_n rfl rfl ?_
                refine jr.getf (i := 53) (v := .ref 641) rfl rfl (by decide) rfl (by decide) rfl rfl rfl rfl ?_
                refine jr.iload_n rfl rfl ?_
                obtain ⟨v38, e38⟩ : ∃ z, M 641 f = z := ⟨_, rfl⟩
                have b38 : (-9223372036854775808) ≤ v38 ∧ v38 ≤ 9223372036854775807 := by rw [← e38]; exact (by have q := hI_M 641 f (by decide); rw [xri_row rfl rfl] at q; exact q)
                refine jr.lald (i := f) (x := v38) rfl (by decide) rfl (by decide) (by omega) (by omega) e38 ?_
                refine jr.lstore (ls' := [_, _, _, _, _]) rfl (by decide) rfl ?_
                refine jr.aload_n rfl rfl ?_
                refine jr.getf (i := 52) (v := .ref 640) rfl rfl (by decide) rfl (by decide) rfl rfl rfl rfl ?_
                refine jr.iload_n rfl rfl ?_
                refine jr.iald (i := f) (x := v37) rfl (by decide) rfl (by decide) (by omega) (by omega) e37 ?_
                refine jr.iconst rfl ?_
                refine jr.icmp_ne rfl rfl (by omega) (by omega) (fun h135 => ?_) (fun h135 => ?_)
                · refine jr.aload_n rfl rfl ?_
                  refine jr.getf (i := 54) (v := .ref 642) rfl rfl (by decide) rfl (by decide) rfl rfl rfl rfl ?_
                  refine jr.iload_n rfl rfl ?_
                  obtain ⟨v39, e39⟩ : ∃ z, M 642 f = z := ⟨_, rfl⟩
                  have b39 : 0 ≤ v39 ∧ v39 ≤ 70000 := by rw [← e39]; exact (by have q := hI_M 642 f (by decide); rw [xri_row rfl rfl] at q; exact q)
                  refine jr.iald (i := f) (x := v39) rfl (by decide) rfl (by decide) (by omega) (by omega) e39 ?_
                  refine jr.istore (ls' := [_, _, _, _, _, _]) rfl (by decide) rfl ?_
                  refine jr.aload_n rfl rfl ?_
                  refine jr.getf (i := 61) (x := v6) (v := .long (Int64.ofInt (v6))) rfl rfl (by decide) rfl (by decide) rfl rfl e6 rfl ?_
                  refine jr.aload_n rfl rfl ?_
                  refine jr.getf (i := 42) (v := .ref 630) rfl rfl (by decide) rfl (by decide) rfl rfl rfl rfl ?_
                  refine jr.iload_n rfl rfl ?_
                  refine jr.lald (i := ((2 * f) + 1)) (x := v36) rfl (by decide) rfl (by decide) (by omega) (by omega) e36 ?_
                  refine jr.lcmp_ne rfl rfl rfl (by omega) (by omega) (fun h165 => ?_) (fun h165 => ?_)
                  · refine jr.iconst rfl ?_
                    exact jr.ireturn rfl rfl rfl (q _ (by omega) (by omega) (by have x0 : M 630 (2 * f) = v7 := e7; have x1 : M 631 (2 * f) = v23 := e23; have x2 : M 630 (2 * f + 1) = v36 := e36; rw [sd6_m (by omega) (by omega) (by omega)]))
                  · refine jr.aload_n rfl rfl ?_
                    refine jr.getf (i := 63) (x := v22) (v := .int (Int32.ofInt (v22))) rfl rfl (by decide) rfl (by decide) rfl rfl e22 rfl ?_
                    refine jr.aload_n rfl rfl ?_
                    refine jr.getf (i := 43) (v := .ref 631) rfl rfl (by decide) rfl (by decide) rfl rfl rfl rfl ?_
                    refine jr.iload_n rfl rfl ?_
                    obtain ⟨v40, e40⟩ : ∃ z, M 631 ((2 * f) + 1) = z := ⟨_, rfl⟩
                    have b40 : 0 ≤ v40 ∧ v40 ≤ 65535 := by rw [← e40]; exact (by have q := hI_M 631 ((2 * f) + 1) (by decide); rw [xri_row rfl rfl] at q; exact q)
                    refine jr.iald (i := ((2 * f) + 1)) (x := v40) rfl (by decide) rfl (by decide) (by omega) (by omega) e40 ?_
                    refine jr.icmp_ne rfl rfl (by omega) (by omega) (fun h179 => ?_) (fun h179 => ?_)
                    · refine jr.iconst rfl ?_
                      exact jr.ireturn rfl rfl rfl (q _ (by omega) (by omega) (by have x0 : M 630 (2 * f) = v7 := e7; have x1 : M 631 (2 * f) = v23 := e23; have x2 : M 630 (2 * f + 1) = v36 := e36; have x3 : M 631 (2 * f + 1) = v40 := e40; rw [sd6_m (by omega) (by omega) (by omega)]))
                    · refine jr.aload_n rfl rfl ?_
                      refine jr.getf (i := 62) (x := v35) (v := .long (Int64.ofInt (v35))) rfl rfl (by decide) rfl (by decide) rfl rfl e35 rfl ?_
                      refine jr.lload rfl rfl ?_
                      refine jr.lcmp_ne rfl rfl rfl (by omega) (by omega) (fun h188 => ?_) (fun h188 => ?_)
                      · refine jr.iconst rfl ?_
                        exact jr.ireturn rfl rfl rfl (q _ (by omega) (by omega) (by have x0 : M 630 (2 * f) = v7 := e7; have x1 : M 631 (2 * f) = v23 := e23; have x2 : M 630 (2 * f + 1) = v36 := e36; have x3 : M 631 (2 * f + 1) = v40 := e40; rw [sd6_m (by omega) (by omega) (by omega)]))
                      · refine jr.aload_n rfl rfl ?_
                        obtain ⟨v41, e41⟩ : ∃ z, M 598 64 = z := ⟨_, rfl⟩
                        have b41 : 0 ≤ v41 ∧ v41 ≤ 65535 := by rw [← e41]; exact hI_M 598 64 (by decide)
                        refine jr.getf (i := 64) (x := v41) (v := .int (Int32.ofInt (v41))) rfl rfl (by decide) rfl (by decide) rfl rfl e41 rfl ?_
                        refine jr.iload rfl rfl ?_
                        refine jr.icmp_ne rfl rfl (by omega) (by omega) (fun h198 => ?_) (fun h198 => ?_)
                        · refine jr.iconst rfl ?_
                          exact jr.ireturn rfl rfl rfl (q _ (by omega) (by omega) (by have x0 : M 630 (2 * f) = v7 := e7; have x1 : M 631 (2 * f) = v23 := e23; have x2 : M 630 (2 * f + 1) = v36 := e36; have x3 : M 631 (2 * f + 1) = v40 := e40; rw [sd6_m (by omega) (by omega) (by omega)]))
                        · refine jr.iconst rfl ?_
                          refine jr.goto rfl rfl ?_
                          exact jr.ireturn rfl rfl rfl (q _ (by omega) (by omega) (by have x0 : M 630 (2 * f) = v7 := e7; have x1 : M 631 (2 * f) = v23 := e23; have x2 : M 630 (2 * f + 1) = v36 := e36; have x3 : M 631 (2 * f + 1) = v40 := e40; rw [sd6_1 (by omega) (by omega) (by omega) (by omega)]))
                · exact absurd (by omega) h135
              · refine jr.aload_n rfl rfl ?_
                refine jr.getf (i := 42) (v := .ref 630) rfl rfl (by decide) rfl (by decide) rfl rfl rfl rfl ?_
                refine jr.iload_n rfl rfl ?_
                refine jr.lald (i := (2 * f)) (x := v7) rfl (by decide) rfl (by decide) (by omega) (by omega) e7 ?_
                refine jr.goto rfl rfl ?_
                refine jr.lstore (ls' := [_, _, _, _, _]) rfl (by decide) rfl ?_
                refine jr.aload_n rfl rfl ?_
                refine jr.getf (i := 52) (v := .ref 640) rfl rfl (by decide) rfl (by decide) rfl rfl rfl rfl ?_
                refine jr.iload_n rfl rfl ?_
                refine jr.iald (i := f) (x := v37) rfl (by decide) rfl (by decide) (by omega) (by omega) e37 ?_
                refine jr.iconst rfl ?_
                refine jr.icmp_ne rfl rfl (by omega) (by omega) (fun h135 => ?_) (fun h135 => ?_)
                · exact absurd h135 (by omega)
                · refine jr.aload_n rfl rfl ?_
                  refine jr.getf (i := 43) (v := .ref 631) rfl rfl (by decide) rfl (by decide) rfl rfl rfl rfl ?_
                  refine jr.iload_n rfl rfl ?_
                  refine jr.iald (i := (2 * f)) (x := v23) rfl (by decide) rfl (by decide) (by omega) (by omega) e23 ?_
                  refine jr.goto rfl rfl ?_
                  refine jr.istore (ls' := [_, _, _, _, _, _]) rfl (by decide) rfl ?_
                  refine jr.aload_n rfl rfl ?_
                  refine jr.getf (i := 61) (x := v6) (v := .long (Int64.ofInt (v6))) rfl rfl (by decide) rfl (by decide) rfl rfl e6 rfl ?_
                  refine jr.aload_n rfl rfl ?_
                  refine jr.getf (i := 42) (v := .ref 630) rfl rfl (by decide) rfl (by decide) rfl rfl rfl rfl ?_
                  refine jr.iload_n rfl rfl ?_
                  refine jr.lald (i := ((2 * f) + 1)) (x := v36) rfl (by decide) rfl (by decide) (by omega) (by omega) e36 ?_
                  refine jr.lcmp_ne rfl rfl rfl (by omega) (by omega) (fun h165 => ?_) (fun h165 => ?_)
                  · refine jr.iconst rfl ?_
                    exact jr.ireturn rfl rfl rfl (q _ (by omega) (by omega) (by have x0 : M 630 (2 * f) = v7 := e7; have x1 : M 631 (2 * f) = v23 := e23; have x2 : M 630 (2 * f + 1) = v36 := e36; rw [sd6_m (by omega) (by omega) (by omega)]))
                  · refine jr.aload_n rfl rfl ?_
                    refine jr.getf (i := 63) (x := v22) (v := .int (Int32.ofInt (v22))) rfl rfl (by decide) rfl (by decide) rfl rfl e22 rfl ?_
                    refine jr.aload_n rfl rfl ?_
                    refine jr.getf (i := 43) (v := .ref 631) rfl rfl (by decide) rfl (by decide) rfl rfl rfl rfl ?_
                    refine jr.iload_n rfl rfl ?_
                    obtain ⟨v42, e42⟩ : ∃ z, M 631 ((2 * f) + 1) = z := ⟨_, rfl⟩
                    have b42 : 0 ≤ v42 ∧ v42 ≤ 65535 := by rw [← e42]; exact (by have q := hI_M 631 ((2 * f) + 1) (by decide); rw [xri_row rfl rfl] at q; exact q)
                    refine jr.iald (i := ((2 * f) + 1)) (x := v42) rfl (by decide) rfl (by decide) (by omega) (by omega) e42 ?_
                    refine jr.icmp_ne rfl rfl (by omega) (by omega) (fun h179 => ?_) (fun h179 => ?_)
                    · refine jr.iconst rfl ?_
                      exact jr.ireturn rfl rfl rfl (q _ (by omega) (by omega) (by have x0 : M 630 (2 * f) = v7 := e7; have x1 : M 631 (2 * f) = v23 := e23; have x2 : M 630 (2 * f + 1) = v36 := e36; have x3 : M 631 (2 * f + 1) = v42 := e42; rw [sd6_m (by omega) (by omega) (by omega)]))
                    · refine jr.aload_n rfl rfl ?_
                      refine jr.getf (i := 62) (x := v35) (v := .long (Int64.ofInt (v35))) rfl rfl (by decide) rfl (by decide) rfl rfl e35 rfl ?_
                      refine jr.lload rfl rfl ?_
                      refine jr.lcmp_ne rfl rfl rfl (by omega) (by omega) (fun h188 => ?_) (fun h188 => ?_)
                      · refine jr.iconst rfl ?_
                        exact jr.ireturn rfl rfl rfl (q _ (by omega) (by omega) (by have x0 : M 630 (2 * f) = v7 := e7; have x1 : M 631 (2 * f) = v23 := e23; have x2 : M 630 (2 * f + 1) = v36 := e36; have x3 : M 631 (2 * f + 1) = v42 := e42; rw [sd6_m (by omega) (by omega) (by omega)]))
                      · refine jr.aload_n rfl rfl ?_
                        obtain ⟨v43, e43⟩ : ∃ z, M 598 64 = z := ⟨_, rfl⟩
                        have b43 : 0 ≤ v43 ∧ v43 ≤ 65535 := by rw [← e43]; exact hI_M 598 64 (by decide)
                        refine jr.getf (i := 64) (x := v43) (v := .int (Int32.ofInt (v43))) rfl rfl (by decide) rfl (by decide) rfl rfl e43 rfl ?_
                        refine jr.iload rfl rfl ?_
                        refine jr.icmp_ne rfl rfl (by omega) (by omega) (fun h198 => ?_) (fun h198 => ?_)
                        · refine jr.iconst rfl ?_
                          exact jr.ireturn rfl rfl rfl (q _ (by omega) (by omega) (by have x0 : M 630 (2 * f) = v7 := e7; have x1 : M 631 (2 * f) = v23 := e23; have x2 : M 630 (2 * f + 1) = v36 := e36; have x3 : M 631 (2 * f + 1) = v42 := e42; rw [sd6_m (by omega) (by omega) (by omega)]))
                        · refine jr.iconst rfl ?_
                          refine jr.goto rfl rfl ?_
                          exact jr.ireturn rfl rfl rfl (q _ (by omega) (by omega) (by have x0 : M 630 (2 * f) = v7 := e7; have x1 : M 631 (2 * f) = v23 := e23; have x2 : M 630 (2 * f + 1) = v36 := e36; have x3 : M 631 (2 * f + 1) = v42 := e42; rw [sd6_1 (by omega) (by omega) (by omega) (by omega)]))
            · refine jr.aload_n rfl rfl ?_
              obtain ⟨v44, e44⟩ : ∃ z, M 598 64 = z := ⟨_, rfl⟩
              have b44 : 0 ≤ v44 ∧ v44 ≤ 65535 := by rw [← e44]; exact hI_M 598 64 (by decide)
              refine jr.getf (i := 64) (x := v44) (v := .int (Int32.ofInt (v44))) rfl rfl (by decide) rfl (by decide) rfl rfl e44 rfl ?_
              refine jr.aload_n rfl rfl ?_
              refine jr.getf (i := 43) (v := .ref 631) rfl rfl (by decide) rfl (by decide) rfl rfl rfl rfl ?_
              refine jr.iload_n rfl rfl ?_
              obtain ⟨v45, e45⟩ : ∃ z, M 631 ((2 * f) + 1) = z := ⟨_, rfl⟩
              have b45 : 0 ≤ v45 ∧ v45 ≤ 65535 := by rw [← e45]; exact (by have q := hI_M 631 ((2 * f) + 1) (by decide); rw [xri_row rfl rfl] at q; exact q)
              refine jr.iald (i := ((2 * f) + 1)) (x := v45) rfl (by decide) rfl (by decide) (by omega) (by omega) e45 ?_
              refine jr.icmp_ne rfl rfl (by omega) (by omega) (fun h96 => ?_) (fun h96 => ?_)
              · refine jr.aload_n rfl rfl ?_
                refine jr.getf (i := 52) (v := .ref 640) rfl rfl (by decide) rfl (by decide) rfl rfl rfl rfl ?_
                refine jr.iload_n rfl rfl ?_
                obtain ⟨v46, e46⟩ : ∃ z, M 640 f = z := ⟨_, rfl⟩
                have b46 : (-1) ≤ v46 ∧ v46 ≤ 3 := by rw [← e46]; exact (by have q := hI_M 640 f (by decide); rw [xri_row rfl rfl] at q; exact q)
                refine jr.iald (i := f) (x := v46) rfl (by decide) rfl (by decide) (by omega) (by omega) e46 ?_
                refine jr.iconst rfl ?_
                refine jr.icmp_ne rfl rfl (by omega) (by omega) (fun h108 => ?_) (fun h108 => ?_)
                · refine jr.aload_n rfl rfl ?_
                  refine jr.getf (i := 53) (v := .ref 641) rfl rfl (by decide) rfl (by decide) rfl rfl rfl rfl ?_
                  refine jr.iload_n rfl rfl ?_
                  obtain ⟨v47, e47⟩ : ∃ z, M 641 f = z := ⟨_, rfl⟩
                  have b47 : (-9223372036854775808) ≤ v47 ∧ v47 ≤ 9223372036854775807 := by rw [← e47]; exact (by have q := hI_M 641 f (by decide); rw [xri_row rfl rfl] at q; exact q)
                  refine jr.lald (i := f) (x := v47) rfl (by decide) rfl (by decide) (by omega) (by omega) e47 ?_
                  refine jr.lstore (ls' := [_, _, _, _, _]) rfl (by decide) rfl ?_
                  refine jr.aload_n rfl rfl ?_
                  refine jr.getf (i := 52) (v := .ref 640) rfl rfl (by decide) rfl (by decide) rfl rfl rfl rfl ?_
                  refine jr.iload_n rfl rfl ?_
                  refine jr.iald (i := f) (x := v46) rfl (by decide) rfl (by decide) (by omega) (by omega) e46 ?_
                  refine jr.iconst rfl ?_
                  refine jr.icmp_ne rfl rfl (by omega) (by omega) (fun h135 => ?_) (fun h135 => ?_)
                  · refine jr.aload_n rfl rfl ?_
                    refine jr.getf (i := 54) (v := .ref 642) rfl rfl (by decide) rfl (by decide) rfl rfl rfl rfl ?_
                    refine jr.iload_n rfl rfl ?_
                    obtain ⟨v48, e48⟩ : ∃ z, M 642 f = z := ⟨_, rfl⟩
                    have b48 : 0 ≤ v48 ∧ v48 ≤ 70000 := by rw [← e48]; exact (by have q := hI_M 642 f (by decide); rw [xri_row rfl rfl] at q; exact q)
                    refine jr.iald (i := f) (x := v48) rfl (by decide) rfl (by decide) (by omega) (by omega) e48 ?_
                    refine jr.istore (ls' := [_, _, _, _, _, _]) rfl (by decide) rfl ?_
                    refine jr.aload_n rfl rfl ?_
                    refine jr.getf (i := 61) (x := v6) (v := .long (Int64.ofInt (v6))) rfl rfl (by decide) rfl (by decide) rfl rfl e6 rfl ?_
                    refine jr.aload_n rfl rfl ?_
                    refine jr.getf (i := 42) (v := .ref 630) rfl rfl (by decide) rfl (by decide) rfl rfl rfl rfl ?_
                    refine jr.iload_n rfl rfl ?_
                    refine jr.lald (i := ((2 * f) + 1)) (x := v36) rfl (by decide) rfl (by decide) (by omega) (by omega) e36 ?_
                    refine jr.lcmp_ne rfl rfl rfl (by omega) (by omega) (fun h165 => ?_) (fun h165 => ?_)
                    · refine jr.iconst rfl ?_
                      exact jr.ireturn rfl rfl rfl (q _ (by omega) (by omega) (by have x0 : M 630 (2 * f) = v7 := e7; have x1 : M 631 (2 * f) = v23 := e23; have x2 : M 630 (2 * f + 1) = v36 := e36; have x3 : M 631 (2 * f + 1) = v45 := e45; rw [sd6_m (by omega) (by omega) (by omega)]))
                    · refine jr.aload_n rfl rfl ?_
                      refine jr.getf (i := 63) (x := v22) (v := .int (Int32.ofInt (v22))) rfl rfl (by decide) rfl (by decide) rfl rfl e22 rfl ?_
                      refine jr.aload_n rfl rfl ?_
                      refine jr.getf (i := 43) (v := .ref 631) rfl rfl (by decide) rfl (by decide) rfl rfl rfl rfl ?_
                      refine jr.iload_n rfl rfl ?_
                      refine jr.iald (i := ((2 * f) + 1)) (x := v45) rfl (by decide) rfl (by decide) (by omega) (by omega) e45 ?_
                      refine jr.icmp_ne rfl rfl (by omega) (by omega) (fun h179 => ?_) (fun h179 => ?_)
                      · refine jr.iconst rfl ?_
                        exact jr.ireturn rfl rfl rfl (q _ (by omega) (by omega) (by have x0 : M 630 (2 * f) = v7 := e7; have x1 : M 631 (2 * f) = v23 := e23; have x2 : M 630 (2 * f + 1) = v36 := e36; have x3 : M 631 (2 * f + 1) = v45 := e45; rw [sd6_m (by omega) (by omega) (by omega)]))
                      · refine jr.aload_n rfl rfl ?_
                        refine jr.getf (i := 62) (x := v35) (v := .long (Int64.ofInt (v35))) rfl rfl (by decide) rfl (by decide) rfl rfl e35 rfl ?_
                        refine jr.lload rfl rfl ?_
                        refine jr.lcmp_ne rfl rfl rfl (by omega) (by omega) (fun h188 => ?_) (fun h188 => ?_)
                        · refine jr.iconst rfl ?_
                          exact jr.ireturn rfl rfl rfl (q _ (by omega) (by omega) (by have x0 : M 630 (2 * f) = v7 := e7; have x1 : M 631 (2 * f) = v23 := e23; have x2 : M 630 (2 * f + 1) = v36 := e36; have x3 : M 631 (2 * f + 1) = v45 := e45; rw [sd6_m (by omega) (by omega) (by omega)]))
                        · refine jr.aload_n rfl rfl ?_
                          refine jr.getf (i := 64) (x := v44) (v := .int (Int32.ofInt (v44))) rfl rfl (by decide) rfl (by decide) rfl rfl e44 rfl ?_
                          refine jr.iload rfl rfl ?_
                          refine jr.icmp_ne rfl rfl (by omega) (by omega) (fun h198 => ?_) (fun h198 => ?_)
                          · refine jr.iconst rfl ?_
                            exact jr.ireturn rfl rfl rfl (q _ (by omega) (by omega) (by have x0 : M 630 (2 * f) = v7 := e7; have x1 : M 631 (2 * f) = v23 := e23; have x2 : M 630 (2 * f + 1) = v36 := e36; have x3 : M 631 (2 * f + 1) = v45 := e45; rw [sd6_m (by omega) (by omega) (by omega)]))
                          · refine jr.iconst rfl ?_
                            refine jr.goto rfl rfl ?_
                            exact jr.ireturn rfl rfl rfl (q _ (by omega) (by omega) (by have x0 : M 630 (2 * f) = v7 := e7; have x1 : M 631 (2 * f) = v23 := e23; have x2 : M 630 (2 * f + 1) = v36 := e36; have x3 : M 631 (2 * f + 1) = v45 := e45; rw [sd6_1 (by omega) (by omega) (by omega) (by omega)]))
                  · exact absurd (by omega) h135
                · refine jr.aload_n rfl rfl ?_
                  refine jr.getf (i := 42) (v := .ref 630) rfl rfl (by decide) rfl (by decide) rfl rfl rfl rfl ?_
                  refine jr.iload_n rfl rfl ?_
                  refine jr.lald (i := (2 * f)) (x := v7) rfl (by decide) rfl (by decide) (by omega) (by omega) e7 ?_
                  refine jr.goto rfl rfl ?_
                  refine jr.lstore (ls' := [_, _, _, _, _]) rfl (by decide) rfl ?_
                  refine jr.aload_n rfl rfl ?_
                  refine jr.getf (i := 52) (v := .ref 640) rfl rfl (by decide) rfl (by decide) rfl rfl rfl rfl ?_
                  refine jr.iload_n rfl rfl ?_
                  refine jr.iald (i := f) (x := v46) rfl (by decide) rfl (by decide) (by omega) (by omega) e46 ?_
                  refine jr.iconst rfl ?_
                  refine jr.icmp_ne rfl rfl (by omega) (by omega) (fun h135 => ?_) (fun h135 => ?_)
                  · exact absurd h135 (by omega)
                  · refine jr.aload_n rfl rfl ?_
                    refine jr.getf (i := 43) (v := .ref 631) rfl rfl (by decide) rfl (by decide) rfl rfl rfl rfl ?_
                    refine jr.iload_n rfl rfl ?_
                    refine jr.iald (i := (2 * f)) (x := v23) rfl (by decide) rfl (by decide) (by omega) (by omega) e23 ?_
                    refine jr.goto rfl rfl ?_
                    refine jr.istore (ls' := [_, _, _, _, _, _]) rfl (by decide) rfl ?_
                    refine jr.aload_n rfl rfl ?_
                    refine jr.getf (i := 61) (x := v6) (v := .long (Int64.ofInt (v6))) rfl rfl (by decide) rfl (by decide) rfl rfl e6 rfl ?_
                    refine jr.aload_n rfl rfl ?_
                    refine jr.getf (i := 42) (v := .ref 630) rfl rfl (by decide) rfl (by decide) rfl rfl rfl rfl ?_
                    refine jr.iload_n rfl rfl ?_
                    refine jr.lald (i := ((2 * f) + 1)) (x := v36) rfl (by decide) rfl (by decide) (by omega) (by omega) e36 ?_
                    refine jr.lcmp_ne rfl rfl rfl (by omega) (by omega) (fun h165 => ?_) (fun h165 => ?_)
                    · refine jr.iconst rfl ?_
                      exact jr.ireturn rfl rfl rfl (q _ (by omega) (by omega) (by have x0 : M 630 (2 * f) = v7 := e7; have x1 : M 631 (2 * f) = v23 := e23; have x2 : M 630 (2 * f + 1) = v36 := e36; have x3 : M 631 (2 * f + 1) = v45 := e45; rw [sd6_m (by omega) (by omega) (by omega)]))
                    · refine jr.aload_n rfl rfl ?_
                      refine jr.getf (i := 63) (x := v22) (v := .int (Int32.ofInt (v22))) rfl rfl (by decide) rfl (by decide) rfl rfl e22 rfl ?_
                      refine jr.aload_n rfl rfl ?_
                      refine jr.getf (i := 43) (v := .ref 631) rfl rfl (by decide) rfl (by decide) rfl rfl rfl rfl ?_
                      refine jr.iload_n rfl rfl ?_
                      refine jr.iald (i := ((2 * f) + 1)) (x := v45) rfl (by decide) rfl (by decide) (by omega) (by omega) e45 ?_
                      refine jr.icmp_ne rfl rfl (by omega) (by omega) (fun h179 => ?_) (fun h179 => ?_)
                      · refine jr.iconst rfl ?_
                        exact jr.ireturn rfl rfl rfl (q _ (by omega) (by omega) (by have x0 : M 630 (2 * f) = v7 := e7; have x1 : M 631 (2 * f) = v23 := e23; have x2 : M 630 (2 * f + 1) = v36 := e36; have x3 : M 631 (2 * f + 1) = v45 := e45; rw [sd6_m (by omega) (by omega) (by omega)]))
                      · refine jr.aload_n rfl rfl ?_
                        refine jr.getf (i := 62) (x := v35) (v := .long (Int64.ofInt (v35))) rfl rfl (by decide) rfl (by decide) rfl rfl e35 rfl ?_
                        refine jr.lload rfl rfl ?_
                        refine jr.lcmp_ne rfl rfl rfl (by omega) (by omega) (fun h188 => ?_) (fun h188 => ?_)
                        · refine jr.iconst rfl ?_
                          exact jr.ireturn rfl rfl rfl (q _ (by omega) (by omega) (by have x0 : M 630 (2 * f) = v7 := e7; have x1 : M 631 (2 * f) = v23 := e23; have x2 : M 630 (2 * f + 1) = v36 := e36; have x3 : M 631 (2 * f + 1) = v45 := e45; rw [sd6_m (by omega) (by omega) (by omega)]))
                        · refine jr.aload_n rfl rfl ?_
                          refine jr.getf (i := 64) (x := v44) (v := .int (Int32.ofInt (v44))) rfl rfl (by decide) rfl (by decide) rfl rfl e44 rfl ?_
                          refine jr.iload rfl rfl ?_
                          refine jr.icmp_ne rfl rfl (by omega) (by omega) (fun h198 => ?_) (fun h198 => ?_)
                          · refine jr.iconst rfl ?_
                            exact jr.ireturn rfl rfl rfl (q _ (by omega) (by omega) (by have x0 : M 630 (2 * f) = v7 := e7; have x1 : M 631 (2 * f) = v23 := e23; have x2 : M 630 (2 * f + 1) = v36 := e36; have x3 : M 631 (2 * f + 1) = v45 := e45; rw [sd6_m (by omega) (by omega) (by omega)]))
                          · refine jr.iconst rfl ?_
                            refine jr.goto rfl rfl ?_
                            exact jr.ireturn rfl rfl rfl (q _ (by omega) (by omega) (by have x0 : M 630 (2 * f) = v7 := e7; have x1 : M 631 (2 * f) = v23 := e23; have x2 : M 630 (2 * f + 1) = v36 := e36; have x3 : M 631 (2 * f + 1) = v45 := e45; rw [sd6_1 (by omega) (by omega) (by omega) (by omega)]))
              · refine jr.iconst rfl ?_
                exact jr.ireturn rfl rfl rfl (q _ (by omega) (by omega) (by have x0 : M 630 (2 * f) = v7 := e7; have x1 : M 631 (2 * f) = v23 := e23; have x2 : M 630 (2 * f + 1) = v36 := e36; have x3 : M 631 (2 * f + 1) = v45 := e45; rw [sd6_0 (by omega) (by omega)]))
      · refine jr.iconst rfl ?_
        exact jr.ireturn rfl rfl rfl (q _ (by omega) (by omega) (by rw [sd6_n (by omega)]))
end
