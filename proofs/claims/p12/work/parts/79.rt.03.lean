section
theorem r_sumOf_L61_x {A : Nat → Option (Nat × (Nat → Int32))} {Q : Option Value → jm → Prop} {f : Int → Int} {N C : Int} {x0 : Int} {h0 : Int} {M : jm} (hI_M : RI M) (hH_M : RH M) (hS_M : RF M) (q : ∀ (r : Int), (-1) ≤ r ∧ r ≤ 65535 → r = dS f (rf M x0) N C h0 → Q (some (.int (Int32.ofInt r))) M) : ∀ (nM : Nat) (t : Int) (a : Int) (k : Int) (h : Int) (x : Int), (-1) ≤ t ∧ t ≤ 10 → 0 ≤ a ∧ a ≤ 400 → 0 ≤ k ∧ k ≤ 11 → 0 ≤ h ∧ h ≤ 11 → 0 ≤ x ∧ x ≤ 23 → M 604 h = a → M 603 h = k → (k = 7 ∨ k = 8 ∨ k = 9) → HT M f N C → nxD f N h.toNat = nxD f N (t + 1).toNat → M 600 x = N → h < C → t < h → x = x0 → h = h0 → t + 1 ≤ nM → jr A 2 xm_282 61 [(5, .int (Int32.ofInt (t))), (4, .int (Int32.ofInt (a))), (3, .int (Int32.ofInt (k))), (2, .int (Int32.ofInt (h))), (1, .int (Int32.ofInt (x))), (0, .ref (598))] [] M Q := by
  intro nM
  induction nM using Nat.strongRecOn with
  | ind nM ih =>
    intro t a k h x h_t h_a h_k h_h h_x hy0 hy1 hy2 hy3 hy4 hy5 hy6 hy7 hy8 hy9 hm
    subst hy8
    subst hy9
    have hk9 : 7 ≤ k ∧ k ≤ 9 := by omega
    clear hy2
    have rt := RH.two hH_M t
    have hh0 := HT.f hy3 (x := h) (by omega)
    have hN4 := hy3.2.2.1
    refine jr.iload rfl rfl ?_
    refine jr.if_lt rfl rfl (by omega) (fun h63 => ?_) (fun h63 => ?_)
    · refine jr.iload rfl rfl ?_
      refine jr.if_ge rfl rfl (by omega) (fun h96 => ?_) (fun h96 => ?_)
      · exact absurd h96 (by omega)
      · refine jr.iconst rfl ?_
        exact jr.ireturn rfl rfl rfl (q _ (by omega) (by have hh := HT.f hy3 (x := h) (by omega); exact Or.elim (show k = 7 ∨ (k = 8 ∨ k = 9) by omega) (fun h7 => absurd (by rw [hy4, nxD_e (by omega)]) (hX_n f N h.toNat (by rw [Int.toNat_of_nonneg (by omega)]; omega))) (fun h8 => (dS_n (k := k) (by omega) (by omega) h8 (by rw [hy4, nxD_e (by omega)])).symm)))
    · refine jr.aload_n rfl rfl ?_
      refine jr.getf (i := 7) (v := .ref 603) rfl rfl (by decide) rfl (by decide) rfl rfl rfl rfl ?_
      refine jr.iload rfl rfl ?_
      obtain ⟨v1, e1⟩ : ∃ z, M 603 t = z := ⟨_, rfl⟩
      have b1 : 0 ≤ v1 ∧ v1 ≤ 11 := by rw [← e1]; exact (by have q := hI_M 603 t (by decide); rw [xri_row rfl rfl] at q; exact q)
      refine jr.iald (i := t) (x := v1) rfl (by decide) rfl (by decide) (by omega) (by omega) e1 ?_
      refine jr.iconst rfl ?_
      refine jr.icmp_eq rfl rfl (by omega) (by omega) (fun h74 => ?_) (fun h74 => ?_)
      · refine jr.iload rfl rfl ?_
        refine jr.if_ge rfl rfl (by omega) (fun h96 => ?_) (fun h96 => ?_)
        · refine jr.aload_n rfl rfl ?_
          refine jr.iload_n rfl rfl ?_
          refine jr.iload rfl rfl ?_
          refine jr.aload_n rfl rfl ?_
          refine jr.getf (i := 3) (v := .ref 600) rfl rfl (by decide) rfl (by decide) rfl rfl rfl rfl ?_
          refine jr.iload_n rfl rfl ?_
          obtain ⟨v2, e2⟩ : ∃ z, M 600 x = z := ⟨_, rfl⟩
          have b2 : (-1) ≤ v2 ∧ v2 ≤ 400 := by rw [← e2]; exact (by have q := hI_M 600 x (by decide); rw [xri_row rfl rfl] at q; exact q)
          refine jr.iald (i := x) (x := v2) rfl (by decide) rfl (by decide) (by omega) (by omega) e2 ?_
          refine jr.aload_n rfl rfl ?_
          refine jr.iload_n rfl rfl ?_
          refine jr_v rfl rfl (Or.inl rfl) rfl rfl (by decide) rfl ⟨rfl, Nat.le_of_ble_eq_true rfl, Nat.le_of_ble_eq_true rfl⟩ rfl (jc.deep (r_sumAt_x hI_M hH_M hS_M  (by omega)  (fun r3 z3 w3_0 => ?_)) (by decide))
          refine jr_v rfl rfl (Or.inl rfl) rfl rfl (by decide) rfl ⟨rfl, Nat.le_of_ble_eq_true rfl, Nat.le_of_ble_eq_true rfl⟩ rfl (jc.deep (r_added_x hI_M hH_M hS_M  (by omega) (by omega) (by omega) (by omega) (by omega) (fun r4 z4 w4_0 => ?_)) (by decide))
          refine jr.lstore (ls' := [_, _, _, _, _, _, _]) rfl (by decide) rfl ?_
          refine jr.iload_n rfl rfl ?_
          refine jr.bipush rfl (by decide) ?_
          refine jr.icmp_ne rfl rfl (by omega) (by omega) (fun h124 => ?_) (fun h124 => ?_)
          · refine jr.aload_n rfl rfl ?_
            refine jr.getf (i := 7) (v := .ref 603) rfl rfl (by decide) rfl (by decide) rfl rfl rfl rfl ?_
            refine jr.iload rfl rfl ?_
            refine jr.iald (i := t) (x := v1) rfl (by decide) rfl (by decide) (by omega) (by omega) e1 ?_
            refine jr.iconst rfl ?_
            refine jr.icmp_ne rfl rfl (by omega) (by omega) (fun h141 => ?_) (fun h141 => ?_)
            · exact absurd h141 (by omega)
            · refine jr.aload_n rfl rfl ?_
              refine jr.getf (i := 8) (v := .ref 604) rfl rfl (by decide) rfl (by decide) rfl rfl rfl rfl ?_
              refine jr.iload rfl rfl ?_
              obtain ⟨v5, e5⟩ : ∃ z, M 604 t = z := ⟨_, rfl⟩
              have b5 : 0 ≤ v5 ∧ v5 ≤ 400 := by rw [← e5]; exact (by have q := hI_M 604 t (by decide); rw [xri_row rfl rfl] at q; exact q)
              refine jr.iald (i := t) (x := v5) rfl (by decide) rfl (by decide) (by omega) (by omega) e5 ?_
              refine jr.bipush rfl (by decide) ?_
              refine jr.iadd rfl ?_
              refine jr.goto rfl rfl ?_
              refine jr.istore (ls' := [_, _, _, _, _, _, _, _]) rfl (by decide) rfl ?_
              refine jr.lload rfl rfl ?_
              refine jr.aload_n rfl rfl ?_
              refine jr.iload_n rfl rfl ?_
              refine jr.iload rfl rfl ?_
              refine jr.aload_n rfl rfl ?_
              refine jr.getf (i := 7) (v := .ref 603) rfl rfl (by decide) rfl (by decide) rfl rfl rfl rfl ?_
              refine jr.iload rfl rfl ?_
              refine jr.iald (i := t) (x := v1) rfl (by decide) rfl (by decide) (by omega) (by omega) e1 ?_
              refine jr.iconst rfl ?_
              refine jr.icmp_ne rfl rfl (by omega) (by omega) (fun h183 => ?_) (fun h183 => ?_)
              · exact absurd h183 (by omega)
              · refine jr.iload rfl rfl ?_
                refine jr.bipush rfl (by decide) ?_
                refine jr.iadd rfl ?_
                refine jr.goto rfl rfl ?_
                refine jr.bipush rfl (by decide) ?_
                refine jr_v rfl rfl (Or.inl rfl) rfl rfl (by decide) rfl ⟨rfl, Nat.le_of_ble_eq_true rfl, Nat.le_of_ble_eq_true rfl⟩ rfl (jc.deep (r_added_x hI_M hH_M hS_M  (by omega) (by omega) (by omega) (by omega) (by omega) (fun r6 z6 w6_0 => ?_)) (by decide))
                refine jr.ladd rfl ?_
                refine jr.lstore (ls' := [_, _, _, _, _, _, _, _]) rfl (by decide) rfl ?_
                refine jr.lload rfl rfl ?_
                refine jr.aload_n rfl rfl ?_
                refine jr.getf (i := 3) (v := .ref 600) rfl rfl (by decide) rfl (by decide) rfl rfl rfl rfl ?_
                refine jr.iload_n rfl rfl ?_
                refine jr.iald (i := x) (x := v2) rfl (by decide) rfl (by decide) (by omega) (by omega) e2 ?_
                refine jr.iload rfl rfl ?_
                refine jr.isub rfl ?_
                refine jr.iload_n rfl rfl ?_
                refine jr.bipush rfl (by decide) ?_
                refine jr.icmp_ne rfl rfl (by omega) (by omega) (fun h221 => ?_) (fun h221 => ?_)
                · refine jr.bipush rfl (by decide) ?_
                  refine jr.iadd rfl ?_
                  refine jr.i2l rfl (by omega) ?_
                  refine jr.ladd rfl ?_
                  refine jr.lstore (ls' := [_, _, _, _, _, _, _, _]) rfl (by decide) rfl ?_
                  refine jr.lload rfl rfl ?_
                  refine jr_s rfl rfl (Or.inl rfl) ⟨Nat.le_of_ble_eq_true rfl, Nat.le_of_ble_eq_true rfl⟩ rfl rfl (jc.deep (r_turned_x hI_M hH_M hS_M  (by omega)  (fun r7 z7 w7_0 => ?_)) (by decide))
                  refine jr.istore (ls' := [_, _, _, _, _, _, _, _, _]) rfl (by decide) rfl ?_
                  refine jr.iload_n rfl rfl ?_
                  refine jr.bipush rfl (by decide) ?_
                  refine jr.icmp_ne rfl rfl (by omega) (by omega) (fun h246 => ?_) (fun h246 => ?_)
                  · refine jr.iload rfl rfl ?_
                    exact jr.ireturn rfl rfl rfl (q _ (by omega) (by exfalso; omega))
                  · refine jr.iload rfl rfl ?_
                    refine jr.if_ne rfl rfl (by omega) (fun h251 => ?_) (fun h251 => ?_)
                    · have sx251 : (1 : Int) ≤ r7 := by omega
                      clear h251
                      refine jr.iload rfl rfl ?_
                      exact jr.ireturn rfl rfl rfl (q _ (by omega) (by have hh := HT.f hy3 (x := h) (by omega); have htt := HT.f hy3 (x := t) (by omega); have hA1 : sb (fz (rf M x) (a + sof k)) a (N - a).toNat = r4 := (by rw [show a + sof k = r3 from by have h9 := w3_0; rw [hy1] at h9; omega, ← hy5, e2]; exact w4_0.symm); (have hA2 : aD f (rf M x) N t = r6 := (by unfold aD; rw [← htt.1, ← htt.2.1, e1, e5, if_pos (by omega), if_pos (by omega)]; have h9 := w6_0; rw [sb_9 (by omega), show v5 + 12 + 8 - (v5 + 12) = 8 from by omega] at h9; exact h9.symm); rw [dS_8 (k := k) (n := t) (Y := a) (s := r4 + r6 + (v2 - a + 17)) (by omega) (by omega) (by omega) (by rw [hy4, nxD_s (by omega), if_pos (by omega)]) (by omega) (by omega) (by rw [hA1, hA2, if_neg (by omega)]; omega), ← w7_0]; unfold dsu; rw [if_neg (by omega)])))
                    · refine jr.ldcw (x := 65535) rfl rfl (by decide) ?_
                      refine jr.goto rfl rfl ?_
                      exact jr.ireturn rfl rfl rfl (q _ (by omega) (by have hh := HT.f hy3 (x := h) (by omega); have htt := HT.f hy3 (x := t) (by omega); have hA1 : sb (fz (rf M x) (a + sof k)) a (N - a).toNat = r4 := (by rw [show a + sof k = r3 from by have h9 := w3_0; rw [hy1] at h9; omega, ← hy5, e2]; exact w4_0.symm); (have hA2 : aD f (rf M x) N t = r6 := (by unfold aD; rw [← htt.1, ← htt.2.1, e1, e5, if_pos (by omega), if_pos (by omega)]; have h9 := w6_0; rw [sb_9 (by omega), show v5 + 12 + 8 - (v5 + 12) = 8 from by omega] at h9; exact h9.symm); rw [dS_8 (k := k) (n := t) (Y := a) (s := r4 + r6 + (v2 - a + 17)) (by omega) (by omega) (by omega) (by rw [hy4, nxD_s (by omega), if_pos (by omega)]) (by omega) (by omega) (by rw [hA1, hA2, if_neg (by omega)]; omega), ← w7_0]; unfold dsu; rw [if_pos (by omega)])))
                · refine jr.bipush rfl (by decide) ?_
                  refine jr.goto rfl rfl ?_
                  refine jr.iadd rfl ?_
                  refine jr.i2l rfl (by omega) ?_
                  refine jr.ladd rfl ?_
                  refine jr.lstore (ls' := [_, _, _, _, _, _, _, _]) rfl (by decide) rfl ?_
                  refine jr.lload rfl rfl ?_
                  refine jr_s rfl rfl (Or.inl rfl) ⟨Nat.le_of_ble_eq_true rfl, Nat.le_of_ble_eq_true rfl⟩ rfl rfl (jc.deep (r_turned_x hI_M hH_M hS_M  (by omega)  (fun r8 z8 w8_0 => ?_)) (by decide))
                  refine jr.istore (ls' := [_, _, _, _, _, _, _, _, _]) rfl (by decide) rfl ?_
                  refine jr.iload_n rfl rfl ?_
                  refine jr.bipush rfl (by decide) ?_
                  refine jr.icmp_ne rfl rfl (by omega) (by omega) (fun h246 => ?_) (fun h246 => ?_)
                  · refine jr.iload rfl rfl ?_
                    exact jr.ireturn rfl rfl rfl (q _ (by omega) (by have hh := HT.f hy3 (x := h) (by omega); have htt := HT.f hy3 (x := t) (by omega); have hA1 : sb (fz (rf M x) (a + sof k)) a (N - a).toNat = r4 := (by rw [show a + sof k = r3 from by have h9 := w3_0; rw [hy1] at h9; omega, ← hy5, e2]; exact w4_0.symm); (have hA2 : aD f (rf M x) N t = r6 := (by unfold aD; rw [← htt.1, ← htt.2.1, e1, e5, if_pos (by omega), if_pos (by omega)]; have h9 := w6_0; rw [sb_9 (by omega), show v5 + 12 + 8 - (v5 + 12) = 8 from by omega] at h9; exact h9.symm); rw [dS_8 (k := k) (n := t) (Y := a) (s := r4 + r6 + (v2 - a + 6)) (by omega) (by omega) (by omega) (by rw [hy4, nxD_s (by omega), if_pos (by omega)]) (by omega) (by omega) (by rw [hA1, hA2, if_pos (by omega)]; omega), ← w8_0]; unfold dsu; rw [if_neg (by omega)])))
                  · exact absurd (by omega) h246
          · refine jr.lload rfl rfl ?_
            refine jr_s rfl rfl (Or.inl rfl) ⟨Nat.le_of_ble_eq_true rfl, Nat.le_of_ble_eq_true rfl⟩ rfl rfl (jc.deep (r_turned_x hI_M hH_M hS_M  (by omega)  (fun r9 z9 w9_0 => ?_)) (by decide))
            exact jr.ireturn rfl rfl rfl (q _ (by omega) (by have hh := HT.f hy3 (x := h) (by omega); rw [dS_7 (Y := a) (by omega) (by omega) (by omega), ← show k = 7 from by omega, show a + sof k = r3 from by have h9 := w3_0; rw [hy1] at h9; omega, ← hy5, e2, ← w4_0, ← w9_0]))
        · exact absurd (by omega) h96
      · refine jr.aload_n rfl rfl ?_
        refine jr.getf (i := 7) (v := .ref 603) rfl rfl (by decide) rfl (by decide) rfl rfl rfl rfl ?_
        refine jr.iload rfl rfl ?_
        refine jr.iald (i := t) (x := v1) rfl (by decide) rfl (by decide) (by omega) (by omega) e1 ?_
        refine jr.iconst rfl ?_
        refine jr.icmp_eq rfl rfl (by omega) (by omega) (fun h85 => ?_) (fun h85 => ?_)
        · refine jr.iload rfl rfl ?_
          refine jr.if_ge rfl rfl (by omega) (fun h96 => ?_) (fun h96 => ?_)
          · refine jr.aload_n rfl rfl ?_
            refine jr.iload_n rfl rfl ?_
            refine jr.iload rfl rfl ?_
            refine jr.aload_n rfl rfl ?_
            refine jr.getf (i := 3) (v := .ref 600) rfl rfl (by decide) rfl (by decide) rfl rfl rfl rfl ?_
            refine jr.iload_n rfl rfl ?_
            obtain ⟨v10, e10⟩ : ∃ z, M 600 x = z := ⟨_, rfl⟩
            have b10 : (-1) ≤ v10 ∧ v10 ≤ 400 := by rw [← e10]; exact (by have q := hI_M 600 x (by decide); rw [xri_row rfl rfl] at q; exact q)
            refine jr.iald (i := x) (x := v10) rfl (by decide) rfl (by decide) (by omega) (by omega) e10 ?_
            refine jr.aload_n rfl rfl ?_
            refine jr.iload_n rfl rfl ?_
            refine jr_v rfl rfl (Or.inl rfl) rfl rfl (by decide) rfl ⟨rfl, Nat.le_of_ble_eq_true rfl, Nat.le_of_ble_eq_true rfl⟩ rfl (jc.deep (r_sumAt_x hI_M hH_M hS_M  (by omega)  (fun r11 z11 w11_0 => ?_)) (by decide))
            refine jr_v rfl rfl (Or.inl rfl) rfl rfl (by decide) rfl ⟨rfl, Nat.le_of_ble_eq_true rfl, Nat.le_of_ble_eq_true rfl⟩ rfl (jc.deep (r_added_x hI_M hH_M hS_M  (by omega) (by omega) (by omega) (by omega) (by omega) (fun r12 z12 w12_0 => ?_)) (by decide))
            refine jr.lstore (ls' := [_, _, _, _, _, _, _]) rfl (by decide) rfl ?_
            refine jr.iload_n rfl rfl ?_
            refine jr.bipush rfl (by decide) ?_
            refine jr.icmp_ne rfl rfl (by omega) (by omega) (fun h124 => ?_) (fun h124 => ?_)
            · refine jr.aload_n rfl rfl ?_
              refine jr.getf (i := 7) (v := .ref 603) rfl rfl (by decide) rfl (by decide) rfl rfl rfl rfl ?_
              refine jr.iload rfl rfl ?_
              refine jr.iald (i := t) (x := v1) rfl (by decide) rfl (by decide) (by omega) (by omega) e1 ?_
              refine jr.iconst rfl ?_
              refine jr.icmp_ne rfl rfl (by omega) (by omega) (fun h141 => ?_) (fun h141 => ?_)
              · refine jr.aload_n rfl rfl ?_
                refine jr.getf (i := 8) (v := .ref 604) rfl rfl (by decide) rfl (by decide) rfl rfl rfl rfl ?_
                refine jr.iload rfl rfl ?_
                obtain ⟨v13, e13⟩ : ∃ z, M 604 t = z := ⟨_, rfl⟩
                have b13 : 0 ≤ v13 ∧ v13 ≤ 400 := by rw [← e13]; exact (by have q := hI_M 604 t (by decide); rw [xri_row rfl rfl] at q; exact q)
                refine jr.iald (i := t) (x := v13) rfl (by decide) rfl (by decide) (by omega) (by omega) e13 ?_
                refine jr.bipush rfl (by decide) ?_
                refine jr.iadd rfl ?_
                refine jr.istore (ls' := [_, _, _, _, _, _, _, _]) rfl (by decide) rfl ?_
                refine jr.lload rfl rfl ?_
                refine jr.aload_n rfl rfl ?_
                refine jr.iload_n rfl rfl ?_
                refine jr.iload rfl rfl ?_
                refine jr.aload_n rfl rfl ?_
                refine jr.getf (i := 7) (v := .ref 603) rfl rfl (by decide) rfl (by decide) rfl rfl rfl rfl ?_
                refine jr.iload rfl rfl ?_
                refine jr.iald (i := t) (x := v1) rfl (by decide) rfl (by decide) (by omega) (by omega) e1 ?_
                refine jr.iconst rfl ?_
                refine jr.icmp_ne rfl rfl (by omega) (by omega) (fun h183 => ?_) (fun h183 => ?_)
                · refine jr.iload rfl rfl ?_
                  refine jr.bipush rfl (by decide) ?_
                  refine jr.iadd rfl ?_
                  refine jr.bipush rfl (by decide) ?_
                  refine jr_v rfl rfl (Or.inl rfl) rfl rfl (by decide) rfl ⟨rfl, Nat.le_of_ble_eq_true rfl, Nat.le_of_ble_eq_true rfl⟩ rfl (jc.deep (r_added_x hI_M hH_M hS_M  (by omega) (by omega) (by omega) (by omega) (by omega) (fun r14 z14 w14_0 => ?_)) (by decide))
                  refine jr.ladd rfl ?_
                  refine jr.lstore (ls' := [_, _, _, _, _, _, _, _]) rfl (by decide) rfl ?_
                  refine jr.lload rfl rfl ?_
                  refine jr.aload_n rfl rfl ?_
                  refine jr.getf (i := 3) (v := .ref 600) rfl rfl (by decide) rfl (by decide) rfl rfl rfl rfl ?_
                  refine jr.iload_n rfl rfl ?_
                  refine jr.iald (i := x) (x := v10) rfl (by decide) rfl (by decide) (by omega) (by omega) e10 ?_
                  refine jr.iload rfl rfl ?_
                  refine jr.isub rfl ?_
                  refine jr.iload_n rfl rfl ?_
                  refine jr.bipush rfl (by decide) ?_
                  refine jr.icmp_ne rfl rfl (by omega) (by omega) (fun h221 => ?_) (fun h221 => ?_)
                  · refine jr.bipush rfl (by decide) ?_
                    refine jr.iadd rfl ?_
                    refine jr.i2l rfl (by omega) ?_
                    refine jr.ladd rfl ?_
                    refine jr.lstore (ls' := [_, _, _, _, _, _, _, _]) rfl (by decide) rfl ?_
                    refine jr.lload rfl rfl ?_
                    refine jr_s rfl rfl (Or.inl rfl) ⟨Nat.le_of_ble_eq_true rfl, Nat.le_of_ble_eq_true rfl⟩ rfl rfl (jc.deep (r_turned_x hI_M hH_M hS_M  (by omega)  (fun r15 z15 w15_0 => ?_)) (by decide))
                    refine jr.istore (ls' := [_, _, _, _, _, _, _, _, _]) rfl (by decide) rfl ?_
                    refine jr.iload_n rfl rfl ?_
                    refine jr.bipush rfl (by decide) ?_
                    refine jr.icmp_ne rfl rfl (by omega) (by omega) (fun h246 => ?_) (fun h246 => ?_)
                    · refine jr.iload rfl rfl ?_
                      exact jr.ireturn rfl rfl rfl (q _ (by omega) (by exfalso; omega))
                    · refine jr.iload rfl rfl ?_
                      refine jr.if_ne rfl rfl (by omega) (fun h251 => ?_) (fun h251 => ?_)
                      · have sx251 : (1 : Int) ≤ r15 := by omega
                        clear h251
                        refine jr.iload rfl rfl ?_
                        exact jr.ireturn rfl rfl rfl (q _ (by omega) (by have hh := HT.f hy3 (x := h) (by omega); have htt := HT.f hy3 (x := t) (by omega); have hA1 : sb (fz (rf M x) (a + sof k)) a (N - a).toNat = r12 := (by rw [show a + sof k = r11 from by have h9 := w11_0; rw [hy1] at h9; omega, ← hy5, e10]; exact w12_0.symm); (have hA2 : aD f (rf M x) N t = r14 := (by unfold aD; rw [← htt.1, ← htt.2.1, e1, e13, if_neg (by omega), if_neg (by omega)]; have h9 := w14_0; rw [sb_9 (by omega), show v13 + 8 + 16 - (v13 + 8) = 16 from by omega] at h9; exact h9.symm); rw [dS_8 (k := k) (n := t) (Y := a) (s := r12 + r14 + (v10 - a + 17)) (by omega) (by omega) (by omega) (by rw [hy4, nxD_s (by omega), if_pos (by omega)]) (by omega) (by omega) (by rw [hA1, hA2, if_neg (by omega)]; omega), ← w15_0]; unfold dsu; rw [if_neg (by omega)])))
                      · refine jr.ldcw (x := 65535) rfl rfl (by decide) ?_
                        refine jr.goto rfl rfl ?_
                        exact jr.ireturn rfl rfl rfl (q _ (by omega) (by have hh := HT.f hy3 (x := h) (by omega); have htt := HT.f hy3 (x := t) (by omega); have hA1 : sb (fz (rf M x) (a + sof k)) a (N - a).toNat = r12 := (by rw [show a + sof k = r11 from by have h9 := w11_0; rw [hy1] at h9; omega, ← hy5, e10]; exact w12_0.symm); (have hA2 : aD f (rf M x) N t = r14 := (by unfold aD; rw [← htt.1, ← htt.2.1, e1, e13, if_neg (by omega), if_neg (by omega)]; have h9 := w14_0; rw [sb_9 (by omega), show v13 + 8 + 16 - (v13 + 8) = 16 from by omega] at h9; exact h9.symm); rw [dS_8 (k := k) (n := t) (Y := a) (s := r12 + r14 + (v10 - a + 17)) (by omega) (by omega) (by omega) (by rw [hy4, nxD_s (by omega), if_pos (by omega)]) (by omega) (by omega) (by rw [hA1, hA2, if_neg (by omega)]; omega), ← w15_0]; unfold dsu; rw [if_pos (by omega)])))
                  · refine jr.bipush rfl (by decide) ?_
                    refine jr.goto rfl rfl ?_
                    refine jr.iadd rfl ?_
                    refine jr.i2l rfl (by omega) ?_
                    refine jr.ladd rfl ?_
                    refine jr.lstore (ls' := [_, _, _, _, _, _, _, _]) rfl (by decide) rfl ?_
                    refine jr.lload rfl rfl ?_
                    refine jr_s rfl rfl (Or.inl rfl) ⟨Nat.le_of_ble_eq_true rfl, Nat.le_of_ble_eq_true rfl⟩ rfl rfl (jc.deep (r_turned_x hI_M hH_M hS_M  (by omega)  (fun r16 z16 w16_0 => ?_)) (by decide))
                    refine jr.istore (ls' := [_, _, _, _, _, _, _, _, _]) rfl (by decide) rfl ?_
                    refine jr.iload_n rfl rfl ?_
                    refine jr.bipush rfl (by decide) ?_
                    refine jr.icmp_ne rfl rfl (by omega) (by omega) (fun h246 => ?_) (fun h246 => ?_)
                    · refine jr.iload rfl rfl ?_
                      exact jr.ireturn rfl rfl rfl (q _ (by omega) (by have hh := HT.f hy3 (x := h) (by omega); have htt := HT.f hy3 (x := t) (by omega); have hA1 : sb (fz (rf M x) (a + sof k)) a (N - a).toNat = r12 := (by rw [show a + sof k = r11 from by have h9 := w11_0; rw [hy1] at h9; omega, ← hy5, e10]; exact w12_0.symm); (have hA2 : aD f (rf M x) N t = r14 := (by unfold aD; rw [← htt.1, ← htt.2.1, e1, e13, if_neg (by omega), if_neg (by omega)]; have h9 := w14_0; rw [sb_9 (by omega), show v13 + 8 + 16 - (v13 + 8) = 16 from by omega] at h9; exact h9.symm); rw [dS_8 (k := k) (n := t) (Y := a) (s := r12 + r14 + (v10 - a + 6)) (by omega) (by omega) (by omega) (by rw [hy4, nxD_s (by omega), if_pos (by omega)]) (by omega) (by omega) (by rw [hA1, hA2, if_pos (by omega)]; omega), ← w16_0]; unfold dsu; rw [if_neg (by omega)])))
                    · exact absurd (by omega) h246
                · exact absurd (by omega) h183
              · exact absurd (by omega) h141
            · refine jr.lload rfl rfl ?_
              refine jr_s rfl rfl (Or.inl rfl) ⟨Nat.le_of_ble_eq_true rfl, Nat.le_of_ble_eq_true rfl⟩ rfl rfl (jc.deep (r_turned_x hI_M hH_M hS_M  (by omega)  (fun r17 z17 w17_0 => ?_)) (by decide))
              exact jr.ireturn rfl rfl rfl (q _ (by omega) (by have hh := HT.f hy3 (x := h) (by omega); rw [dS_7 (Y := a) (by omega) (by omega) (by omega), ← show k = 7 from by omega, show a + sof k = r11 from by have h9 := w11_0; rw [hy1] at h9; omega, ← hy5, e10, ← w12_0, ← w17_0]))
          · exact absurd (by omega) h96
        · refine jr.iinc (ls' := [_, _, _, _, _, _]) rfl rfl (by decide) rfl ?_
          refine jr.goto rfl rfl ?_
          refine jr.pick (ls := [_, _, _, _, _, _]) [0, 1, 2, 3, 4, 5] rfl rfl ?_
          exact ih (nM - 1) (by omega) (t + (-1)) a k h x (by omega) (by omega) (by omega) (by omega) (by omega) (by omega) (by omega) (by omega) hy3 (by have htt := HT.f hy3 (x := t) (by omega); rw [hy4, nxD_s (by omega), if_neg (by omega), show t + -1 + 1 = t from by omega]) (by omega) (by omega) (by omega) (by omega) (by omega) (by omega)
end
