section
/-! ===== the reference: pieces, exactly ===== -/
theorem r_net_L2_x {A : Nat → Option (Nat × (Nat → Int32))} {Q : Option Value → jm → Prop} {f : Int → Int} {N C : Int} {M : jm} (hI_M : RI M) (hH_M : RH M) (hS_M : RF M) (q : ∀ (r : Int), (-1) ≤ r ∧ r ≤ 11 → (r = -1 ∨ (0 ≤ r ∧ r < M 598 6 ∧ (M 603 r = 2 ∧ M 604 r ≤ 380 ∨ M 603 r = 3 ∧ M 604 r ≤ 376))) → (r = -1 → (∀ j : Int, 0 ≤ j → j < M 598 6 → M 603 j ≠ 2 ∧ M 603 j ≠ 3)) → (∀ j : Int, 0 ≤ j → j < r → M 603 j ≠ 2 ∧ M 603 j ≠ 3) → r = ntf f N C → Q (some (.int (Int32.ofInt r))) M) : ∀ (nM : Nat) (h : Int), 0 ≤ h ∧ h ≤ 12 → h ≤ M 598 6 → (∀ j : Int, 0 ≤ j → j < h → M 603 j ≠ 2 ∧ M 603 j ≠ 3) → HT M f N C → ntf f N C = nxN f N (C - h).toNat h → 12 - h ≤ nM → jr A 0 xm_286 2 [(1, .int (Int32.ofInt (h))), (0, .ref (598))] [] M Q := by
  intro nM
  induction nM using Nat.strongRecOn with
  | ind nM ih =>
    intro h h_h hy0 hy1 hy2 hy3 hm
    have rt := RH.two hH_M h
    refine jr.iload_n rfl rfl ?_
    refine jr.aload_n rfl rfl ?_
    obtain ⟨v1, e1⟩ : ∃ z, M 598 6 = z := ⟨_, rfl⟩
    have b1 : 0 ≤ v1 ∧ v1 ≤ 12 := by rw [← e1]; exact hI_M 598 6 (by decide)
    refine jr.getf (i := 6) (x := v1) (v := .int (Int32.ofInt (v1))) rfl rfl (by decide) rfl (by decide) rfl rfl e1 rfl ?_
    refine jr.icmp_ge rfl rfl (by omega) (by omega) (fun h7 => ?_) (fun h7 => ?_)
    · refine jr.iload_n rfl rfl ?_
      refine jr.aload_n rfl rfl ?_
      refine jr.getf (i := 6) (x := v1) (v := .int (Int32.ofInt (v1))) rfl rfl (by decide) rfl (by decide) rfl rfl e1 rfl ?_
      refine jr.icmp_ge rfl rfl (by omega) (by omega) (fun h41 => ?_) (fun h41 => ?_)
      · refine jr.iconst rfl ?_
        exact jr.ireturn rfl rfl rfl (q _ (by omega) (by omega) (fun _ j j0 j1 => hy1 j j0 (by omega)) (fun j j0 j1 => hy1 j j0 (by omega)) (by rw [hy3, nxN_e (by have h9 := hy2.1; omega)]))
      · refine jr.iload_n rfl rfl ?_
        refine jr.goto rfl rfl ?_
        exact jr.ireturn rfl rfl rfl (q _ (by omega) (by omega) (fun q => absurd q (by omega)) (fun j j0 j1 => hy1 j j0 (by omega)) (by have hh := HT.f hy2 (x := h) (by have h9 := hy2.1; omega); rw [hy3, nxN_s (by have h9 := hy2.1; omega), if_pos (by omega)]))
    · refine jr.aload_n rfl rfl ?_
      refine jr.getf (i := 7) (v := .ref 603) rfl rfl (by decide) rfl (by decide) rfl rfl rfl rfl ?_
      refine jr.iload_n rfl rfl ?_
      obtain ⟨v2, e2⟩ : ∃ z, M 603 h = z := ⟨_, rfl⟩
      have b2 : 0 ≤ v2 ∧ v2 ≤ 11 := by rw [← e2]; exact (by have q := hI_M 603 h (by decide); rw [xri_row rfl rfl] at q; exact q)
      refine jr.iald (i := h) (x := v2) rfl (by decide) rfl (by decide) (by omega) (by omega) e2 ?_
      refine jr.iconst rfl ?_
      refine jr.icmp_eq rfl rfl (by omega) (by omega) (fun h17 => ?_) (fun h17 => ?_)
      · refine jr.iload_n rfl rfl ?_
        refine jr.aload_n rfl rfl ?_
        refine jr.getf (i := 6) (x := v1) (v := .int (Int32.ofInt (v1))) rfl rfl (by decide) rfl (by decide) rfl rfl e1 rfl ?_
        refine jr.icmp_ge rfl rfl (by omega) (by omega) (fun h41 => ?_) (fun h41 => ?_)
        · refine jr.iconst rfl ?_
          exact jr.ireturn rfl rfl rfl (q _ (by omega) (by omega) (fun _ j j0 j1 => hy1 j j0 (by omega)) (fun j j0 j1 => hy1 j j0 (by omega)) (by rw [hy3, nxN_e (by have h9 := hy2.1; omega)]))
        · refine jr.iload_n rfl rfl ?_
          refine jr.goto rfl rfl ?_
          exact jr.ireturn rfl rfl rfl (q _ (by omega) (by omega) (fun q => absurd q (by omega)) (fun j j0 j1 => hy1 j j0 (by omega)) (by have hh := HT.f hy2 (x := h) (by have h9 := hy2.1; omega); rw [hy3, nxN_s (by have h9 := hy2.1; omega), if_pos (by omega)]))
      · refine jr.aload_n rfl rfl ?_
        refine jr.getf (i := 7) (v := .ref 603) rfl rfl (by decide) rfl (by decide) rfl rfl rfl rfl ?_
        refine jr.iload_n rfl rfl ?_
        refine jr.iald (i := h) (x := v2) rfl (by decide) rfl (by decide) (by omega) (by omega) e2 ?_
        refine jr.iconst rfl ?_
        refine jr.icmp_eq rfl rfl (by omega) (by omega) (fun h27 => ?_) (fun h27 => ?_)
        · refine jr.iload_n rfl rfl ?_
          refine jr.aload_n rfl rfl ?_
          refine jr.getf (i := 6) (x := v1) (v := .int (Int32.ofInt (v1))) rfl rfl (by decide) rfl (by decide) rfl rfl e1 rfl ?_
          refine jr.icmp_ge rfl rfl (by omega) (by omega) (fun h41 => ?_) (fun h41 => ?_)
          · refine jr.iconst rfl ?_
            exact jr.ireturn rfl rfl rfl (q _ (by omega) (by omega) (fun _ j j0 j1 => hy1 j j0 (by omega)) (fun j j0 j1 => hy1 j j0 (by omega)) (by rw [hy3, nxN_e (by have h9 := hy2.1; omega)]))
          · refine jr.iload_n rfl rfl ?_
            refine jr.goto rfl rfl ?_
            exact jr.ireturn rfl rfl rfl (q _ (by omega) (by omega) (fun q => absurd q (by omega)) (fun j j0 j1 => hy1 j j0 (by omega)) (by have hh := HT.f hy2 (x := h) (by have h9 := hy2.1; omega); rw [hy3, nxN_s (by have h9 := hy2.1; omega), if_pos (by omega)]))
        · refine jr.iinc rfl rfl (by decide) rfl ?_
          refine jr.goto rfl rfl ?_
          refine jr.pick [0, 1] rfl rfl ?_
          exact ih (nM - 1) (by omega) (h + 1) (by omega) (by omega) (fun j j0 j1 => by by_cases q : j = h; (subst q; omega); exact hy1 j j0 (by omega)) hy2 (by have hh := HT.f hy2 (x := h) (by have h9 := hy2.1; omega); rw [hy3, nxN_s (by have h9 := hy2.1; omega), if_neg (by omega)]) (by omega)
theorem r_net_x {A : Nat → Option (Nat × (Nat → Int32))} {Q : Option Value → jm → Prop} {f : Int → Int} {N C : Int} {M : jm} (hI_M : RI M) (hH_M : RH M) (hS_M : RF M) (p0 : HT M f N C) (q : ∀ (r : Int), (-1) ≤ r ∧ r ≤ 11 → (r = -1 ∨ (0 ≤ r ∧ r < M 598 6 ∧ (M 603 r = 2 ∧ M 604 r ≤ 380 ∨ M 603 r = 3 ∧ M 604 r ≤ 376))) → (r = -1 → (∀ j : Int, 0 ≤ j → j < M 598 6 → M 603 j ≠ 2 ∧ M 603 j ≠ 3)) → (∀ j : Int, 0 ≤ j → j < r → M 603 j ≠ 2 ∧ M 603 j ≠ 3) → r = ntf f N C → Q (some (.int (Int32.ofInt r))) M) : jc A 1 286 [.ref (598)] M Q := by
  have bh : (0 : Int) ≤ M 598 6 ∧ M 598 6 ≤ 12 := hI_M 598 6 (by decide)
  refine jc_of (m := xm_286) rfl (Nat.le_of_ble_eq_true rfl) rfl ?_
  refine jr.iconst rfl ?_
  refine jr.istore_n rfl (by decide) rfl ?_
  refine jr.pick [0, 1] rfl rfl ?_
  exact r_net_L2_x hI_M hH_M hS_M q 12 0 (by omega) (by omega) (fun j j0 j1 => by omega) p0 (by unfold ntf; rw [show C - 0 = C from by omega]) (by omega)
theorem r_piece_L67_x {A : Nat → Option (Nat × (Nat → Int32))} {Q : Option Value → jm → Prop} {f : Int → Int} {N C : Int} {M : jm} (hI_M : RI M) (hH_M : RH M) (hS_M : RF M) (q : ∀ (r : Int), (-1) ≤ r ∧ r ≤ 11 → (r = -1 ∨ (0 ≤ r ∧ r < M 598 6 ∧ (M 603 r = 2 ∧ M 604 r ≤ 380 ∨ M 603 r = 6 ∧ M 604 r ≤ 392 ∧ 1 ≤ r))) → (r ≠ -1 → (∃ t : Int, 0 ≤ t ∧ t < M 598 6 ∧ (M 603 t = 2 ∨ M 603 t = 3) ∧ (∀ j : Int, 0 ≤ j → j < t → M 603 j ≠ 2 ∧ M 603 j ≠ 3) ∧ ((M 603 r = 2 ∧ t = r) ∨ (M 603 r = 6 ∧ M 603 t = 3)))) → r = pcf f N C → Q (some (.int (Int32.ofInt r))) M) : ∀ (nM : Nat) (h : Int) (x : Int), 1 ≤ h ∧ h ≤ 13 → 0 ≤ x ∧ x ≤ 23 → (∃ t : Int, 0 ≤ t ∧ t < M 598 6 ∧ M 603 t = 3 ∧ (∀ j : Int, 0 ≤ j → j < t → M 603 j ≠ 2 ∧ M 603 j ≠ 3)) → HT M f N C → rf M x = f → pcf f N C = (if kA f N C (nxI f N (C - h).toNat h) = 6 then nxI f N (C - h).toNat h else -1) → 13 - h ≤ nM → jr A 4 xm_287 67 [(2, .int (Int32.ofInt (h))), (1, .int (Int32.ofInt (x))), (0, .ref (598))] [] M Q := by
  intro nM
  induction nM using Nat.strongRecOn with
  | ind nM ih =>
    intro h x h_h h_x hy0 hy1 hy2 hy3 hm
    have rt := RH.part hH_M h
    refine jr.iload_n rfl rfl ?_
    refine jr.aload_n rfl rfl ?_
    obtain ⟨v1, e1⟩ : ∃ z, M 598 6 = z := ⟨_, rfl⟩
    have b1 : 0 ≤ v1 ∧ v1 ≤ 12 := by rw [← e1]; exact hI_M 598 6 (by decide)
    refine jr.getf (i := 6) (x := v1) (v := .int (Int32.ofInt (v1))) rfl rfl (by decide) rfl (by decide) rfl rfl e1 rfl ?_
    refine jr.icmp_ge rfl rfl (by omega) (by omega) (fun h72 => ?_) (fun h72 => ?_)
    · refine jr.iload_n rfl rfl ?_
      refine jr.aload_n rfl rfl ?_
      refine jr.getf (i := 6) (x := v1) (v := .int (Int32.ofInt (v1))) rfl rfl (by decide) rfl (by decide) rfl rfl e1 rfl ?_
      refine jr.icmp_ge rfl rfl (by omega) (by omega) (fun h106 => ?_) (fun h106 => ?_)
      · refine jr.iconst rfl ?_
        exact jr.ireturn rfl rfl rfl (q _ (by omega) (by omega) (fun q => by first | exact absurd rfl q | (obtain ⟨t, z1, z2, z3, z4⟩ := hy0; exact ⟨t, z1, z2, Or.inr z3, z4, Or.inr ⟨by omega, z3⟩⟩) | exact ⟨r1, by omega, by omega, by omega, w1_2, Or.inl ⟨by omega, rfl⟩⟩) (by first | (exfalso; omega) | (rw [hy3, nxI_e (by have h9 := hy1.1; omega)]; split <;> rfl) | (have hc : 0 ≤ h ∧ h < C := (by have h9 := hy1.1; omega); have hh := HT.f hy1 hc; have e : nxI f N (C - h).toNat h = h := (by rw [nxI_s hc.2, if_neg (by omega)]); rw [hy3, e, kA_i hc, if_neg (by omega)])))
      · refine jr.aload_n rfl rfl ?_
        refine jr.getf (i := 7) (v := .ref 603) rfl rfl (by decide) rfl (by decide) rfl rfl rfl rfl ?_
        refine jr.iload_n rfl rfl ?_
        obtain ⟨v2, e2⟩ : ∃ z, M 603 h = z := ⟨_, rfl⟩
        have b2 : 0 ≤ v2 ∧ v2 ≤ 11 := by rw [← e2]; exact (by have q := hI_M 603 h (by decide); rw [xri_row rfl rfl] at q; exact q)
        refine jr.iald (i := h) (x := v2) rfl (by decide) rfl (by decide) (by omega) (by omega) e2 ?_
        refine jr.bipush rfl (by decide) ?_
        refine jr.icmp_ne rfl rfl (by omega) (by omega) (fun h117 => ?_) (fun h117 => ?_)
        · refine jr.iconst rfl ?_
          exact jr.ireturn rfl rfl rfl (q _ (by omega) (by omega) (fun q => by first | exact absurd rfl q | (obtain ⟨t, z1, z2, z3, z4⟩ := hy0; exact ⟨t, z1, z2, Or.inr z3, z4, Or.inr ⟨by omega, z3⟩⟩) | exact ⟨r1, by omega, by omega, by omega, w1_2, Or.inl ⟨by omega, rfl⟩⟩) (by first | (exfalso; omega) | (rw [hy3, nxI_e (by have h9 := hy1.1; omega)]; split <;> rfl) | (have hc : 0 ≤ h ∧ h < C := (by have h9 := hy1.1; omega); have hh := HT.f hy1 hc; have e : nxI f N (C - h).toNat h = h := (by rw [nxI_s hc.2, if_neg (by omega)]); rw [hy3, e, kA_i hc, if_neg (by omega)])))
        · refine jr.iload_n rfl rfl ?_
          refine jr.goto rfl rfl ?_
          exact jr.ireturn rfl rfl rfl (q _ (by omega) (by omega) (fun q => by first | exact absurd rfl q | (obtain ⟨t, z1, z2, z3, z4⟩ := hy0; exact ⟨t, z1, z2, Or.inr z3, z4, Or.inr ⟨by omega, z3⟩⟩) | exact ⟨r1, by omega, by omega, by omega, w1_2, Or.inl ⟨by omega, rfl⟩⟩) (by have hc : 0 ≤ h ∧ h < C := (by have h9 := hy1.1; omega); have hh := HT.f hy1 hc; have e : nxI f N (C - h).toNat h = h := (by rw [nxI_s hc.2, if_neg (by omega)]); rw [hy3, e, kA_i hc, if_pos (by omega)]))
    · refine jr.aload_n rfl rfl ?_
      refine jr.getf (i := 7) (v := .ref 603) rfl rfl (by decide) rfl (by decide) rfl rfl rfl rfl ?_
      refine jr.iload_n rfl rfl ?_
      obtain ⟨v3, e3⟩ : ∃ z, M 603 h = z := ⟨_, rfl⟩
      have b3 : 0 ≤ v3 ∧ v3 ≤ 11 := by rw [← e3]; exact (by have q := hI_M 603 h (by decide); rw [xri_row rfl rfl] at q; exact q)
      refine jr.iald (i := h) (x := v3) rfl (by decide) rfl (by decide) (by omega) (by omega) e3 ?_
      refine jr.iconst rfl ?_
      refine jr.icmp_eq rfl rfl (by omega) (by omega) (fun h82 => ?_) (fun h82 => ?_)
      · refine jr.iinc rfl rfl (by decide) rfl ?_
        refine jr.goto rfl rfl ?_
        refine jr.pick [0, 1, 2] rfl rfl ?_
        exact ih (nM - 1) (by omega) (h + 1) x (by omega) (by omega) hy0 hy1 hy2 (by have hc : 0 ≤ h ∧ h < C := (by have h9 := hy1.1; omega); have hh := HT.f hy1 hc; have e : nxI f N (C - h).toNat h = nxI f N (C - (h + 1)).toNat (h + 1) := (by rw [nxI_s hc.2, if_pos (by omega)]); rw [hy3, e]) (by omega)
      · refine jr.aload_n rfl rfl ?_
        refine jr.getf (i := 7) (v := .ref 603) rfl rfl (by decide) rfl (by decide) rfl rfl rfl rfl ?_
        refine jr.iload_n rfl rfl ?_
        refine jr.iald (i := h) (x := v3) rfl (by decide) rfl (by decide) (by omega) (by omega) e3 ?_
        refine jr.iconst rfl ?_
        refine jr.icmp_ne rfl rfl (by omega) (by omega) (fun h92 => ?_) (fun h92 => ?_)
        · refine jr.iload_n rfl rfl ?_
          refine jr.aload_n rfl rfl ?_
          refine jr.getf (i := 6) (x := v1) (v := .int (Int32.ofInt (v1))) rfl rfl (by decide) rfl (by decide) rfl rfl e1 rfl ?_
          refine jr.icmp_ge rfl rfl (by omega) (by omega) (fun h106 => ?_) (fun h106 => ?_)
          · refine jr.iconst rfl ?_
            exact jr.ireturn rfl rfl rfl (q _ (by omega) (by omega) (fun q => by first | exact absurd rfl q | (obtain ⟨t, z1, z2, z3, z4⟩ := hy0; exact ⟨t, z1, z2, Or.inr z3, z4, Or.inr ⟨by omega, z3⟩⟩) | exact ⟨r1, by omega, by omega, by omega, w1_2, Or.inl ⟨by omega, rfl⟩⟩) (by first | (exfalso; omega) | (rw [hy3, nxI_e (by have h9 := hy1.1; omega)]; split <;> rfl) | (have hc : 0 ≤ h ∧ h < C := (by have h9 := hy1.1; omega); have hh := HT.f hy1 hc; have e : nxI f N (C - h).toNat h = h := (by rw [nxI_s hc.2, if_neg (by omega)]); rw [hy3, e, kA_i hc, if_neg (by omega)])))
          · refine jr.aload_n rfl rfl ?_
            refine jr.getf (i := 7) (v := .ref 603) rfl rfl (by decide) rfl (by decide) rfl rfl rfl rfl ?_
            refine jr.iload_n rfl rfl ?_
            refine jr.iald (i := h) (x := v3) rfl (by decide) rfl (by decide) (by omega) (by omega) e3 ?_
            refine jr.bipush rfl (by decide) ?_
            refine jr.icmp_ne rfl rfl (by omega) (by omega) (fun h117 => ?_) (fun h117 => ?_)
            · refine jr.iconst rfl ?_
              exact jr.ireturn rfl rfl rfl (q _ (by omega) (by omega) (fun q => by first | exact absurd rfl q | (obtain ⟨t, z1, z2, z3, z4⟩ := hy0; exact ⟨t, z1, z2, Or.inr z3, z4, Or.inr ⟨by omega, z3⟩⟩) | exact ⟨r1, by omega, by omega, by omega, w1_2, Or.inl ⟨by omega, rfl⟩⟩) (by first | (exfalso; omega) | (rw [hy3, nxI_e (by have h9 := hy1.1; omega)]; split <;> rfl) | (have hc : 0 ≤ h ∧ h < C := (by have h9 := hy1.1; omega); have hh := HT.f hy1 hc; have e : nxI f N (C - h).toNat h = h := (by rw [nxI_s hc.2, if_neg (by omega)]); rw [hy3, e, kA_i hc, if_neg (by omega)])))
            · refine jr.iload_n rfl rfl ?_
              refine jr.goto rfl rfl ?_
              exact jr.ireturn rfl rfl rfl (q _ (by omega) (by omega) (fun q => by first | exact absurd rfl q | (obtain ⟨t, z1, z2, z3, z4⟩ := hy0; exact ⟨t, z1, z2, Or.inr z3, z4, Or.inr ⟨by omega, z3⟩⟩) | exact ⟨r1, by omega, by omega, by omega, w1_2, Or.inl ⟨by omega, rfl⟩⟩) (by have hc : 0 ≤ h ∧ h < C := (by have h9 := hy1.1; omega); have hh := HT.f hy1 hc; have e : nxI f N (C - h).toNat h = h := (by rw [nxI_s hc.2, if_neg (by omega)]); rw [hy3, e, kA_i hc, if_pos (by omega)]))
        · refine jr.iinc rfl rfl (by decide) rfl ?_
          refine jr.goto rfl rfl ?_
          refine jr.pick [0, 1, 2] rfl rfl ?_
          exact ih (nM - 1) (by omega) (h + 1) x (by omega) (by omega) hy0 hy1 hy2 (by have hc : 0 ≤ h ∧ h < C := (by have h9 := hy1.1; omega); have hh := HT.f hy1 hc; have e : nxI f N (C - h).toNat h = nxI f N (C - (h + 1)).toNat (h + 1) := (by rw [nxI_s hc.2, if_pos (by omega)]); rw [hy3, e]) (by omega)
theorem r_piece_x {A : Nat → Option (Nat × (Nat → Int32))} {Q : Option Value → jm → Prop} {f : Int → Int} {N C : Int} {M : jm} (hI_M : RI M) (hH_M : RH M) (hS_M : RF M) {x : Int} (h_x : 0 ≤ x ∧ x ≤ 23) (p0 : HT M f N C) (p1 : rf M x = f) (q : ∀ (r : Int), (-1) ≤ r ∧ r ≤ 11 → (r = -1 ∨ (0 ≤ r ∧ r < M 598 6 ∧ (M 603 r = 2 ∧ M 604 r ≤ 380 ∨ M 603 r = 6 ∧ M 604 r ≤ 392 ∧ 1 ≤ r))) → (r ≠ -1 → (∃ t : Int, 0 ≤ t ∧ t < M 598 6 ∧ (M 603 t = 2 ∨ M 603 t = 3) ∧ (∀ j : Int, 0 ≤ j → j < t → M 603 j ≠ 2 ∧ M 603 j ≠ 3) ∧ ((M 603 r = 2 ∧ t = r) ∨ (M 603 r = 6 ∧ M 603 t = 3)))) → r = pcf f N C → Q (some (.int (Int32.ofInt r))) M) : jc A 5 287 [.ref (598), .int (Int32.ofInt (x))] M Q := by
  refine jc_of (m := xm_287) rfl (Nat.le_of_ble_eq_true rfl) rfl ?_
  refine jr.aload_n rfl rfl ?_
  refine jr_v rfl rfl (Or.inl rfl) rfl rfl (by decide) rfl ⟨rfl, Nat.le_of_ble_eq_true rfl, Nat.le_of_ble_eq_true rfl⟩ rfl (jc.deep (r_net_x hI_M hH_M hS_M   p0 (fun r1 z1 w1_0 w1_1 w1_2 w1_3 => ?_)) (by decide))
  refine jr.istore_n rfl (by decide) rfl ?_
  refine jr.iload_n rfl rfl ?_
  refine jr.iconst rfl ?_
  refine jr.icmp_ne rfl rfl (by omega) (by omega) (fun h7 => ?_) (fun h7 => ?_)
  · refine jr.aload_n rfl rfl ?_
    refine jr.getf (i := 7) (v := .ref 603) rfl rfl (by decide) rfl (by decide) rfl rfl rfl rfl ?_
    refine jr.iload_n rfl rfl ?_
    obtain ⟨v2, e2⟩ : ∃ z, M 603 r1 = z := ⟨_, rfl⟩
    have b2 : 0 ≤ v2 ∧ v2 ≤ 11 := by rw [← e2]; exact (by have q := hI_M 603 r1 (by decide); rw [xri_row rfl rfl] at q; exact q)
    refine jr.iald (i := r1) (x := v2) rfl (by decide) rfl (by decide) (by omega) (by omega) e2 ?_
    refine jr.iconst rfl ?_
    refine jr.icmp_ne rfl rfl (by omega) (by omega) (fun h19 => ?_) (fun h19 => ?_)
    · refine jr.iinc rfl rfl (by decide) rfl ?_
      refine jr.pick [0, 2, 1] rfl rfl ?_
      exact r_piece_L67_x hI_M hH_M hS_M q 13 (r1 + 1) x (by omega) (by omega) ⟨r1, by omega, by omega, by omega, w1_2⟩ p0 p1 (by have h6 := p0.1; have hc : 0 ≤ r1 ∧ r1 < C := (by omega); have hh := HT.f p0 hc; unfold pcf; rw [← w1_3, if_neg (by omega), if_neg (by rw [kA_i hc]; omega)]; rfl) (by omega)
    · refine jr.aload_n rfl rfl ?_
      refine jr.iload_n rfl rfl ?_
      refine jr.aload_n rfl rfl ?_
      refine jr.getf (i := 8) (v := .ref 604) rfl rfl (by decide) rfl (by decide) rfl rfl rfl rfl ?_
      refine jr.iload_n rfl rfl ?_
      obtain ⟨v3, e3⟩ : ∃ z, M 604 r1 = z := ⟨_, rfl⟩
      have b3 : 0 ≤ v3 ∧ v3 ≤ 400 := by rw [← e3]; exact (by have q := hI_M 604 r1 (by decide); rw [xri_row rfl rfl] at q; exact q)
      refine jr.iald (i := r1) (x := v3) rfl (by decide) rfl (by decide) (by omega) (by omega) e3 ?_
      refine jr.iconst rfl ?_
      refine jr_v rfl rfl (Or.inl rfl) rfl rfl (by decide) rfl ⟨rfl, Nat.le_of_ble_eq_true rfl, Nat.le_of_ble_eq_true rfl⟩ rfl (jc.deep (r_ofFour_x hI_M hH_M hS_M  (by omega) (by omega) (by omega)  (fun r4 z4 w4_0 => ?_)) (by decide))
      refine jr.lconst (x := 0) rfl (by decide) ?_
      refine jr.lcmp_gt rfl rfl rfl (by omega) (by omega) (fun h35 => ?_) (fun h35 => ?_)
      · refine jr.iload_n rfl rfl ?_
        refine jr.goto rfl rfl ?_
        exact jr.ireturn rfl rfl rfl (q _ (by omega) (by omega) (fun q => by first | exact absurd rfl q | (obtain ⟨t, z1, z2, z3, z4⟩ := hy0; exact ⟨t, z1, z2, Or.inr z3, z4, Or.inr ⟨by omega, z3⟩⟩) | exact ⟨r1, by omega, by omega, by omega, w1_2, Or.inl ⟨by omega, rfl⟩⟩) (by have h6 := p0.1; have hc : 0 ≤ r1 ∧ r1 < C := (by omega); have hh := HT.f p0 hc; have hk : hX f N r1 = 2 := (by omega); have hka : kA f N C r1 = 2 := (by rw [kA_i hc]; exact hk); have v5 := vA_k (j := 5) hc hk (by decide +kernel); have v4 := vA_k (j := 4) hc hk (by decide +kernel); rw [← hh.2.1, e3] at v5 v4; have o5 : ofs f N C r1 = 8 * r4 := (by unfold ofs; rw [if_pos hka, v5, ← p1, ← w4_0 _]); unfold pcf; rw [← w1_3, if_neg (by omega), if_pos hka]; first | (rw [if_pos (Or.inr (by omega))]; done) | (rw [if_pos (Or.inl (by omega))])))
      · refine jr.aload_n rfl rfl ?_
        refine jr.iload_n rfl rfl ?_
        refine jr.aload_n rfl rfl ?_
        refine jr.getf (i := 8) (v := .ref 604) rfl rfl (by decide) rfl (by decide) rfl rfl rfl rfl ?_
        refine jr.iload_n rfl rfl ?_
        refine jr.iald (i := r1) (x := v3) rfl (by decide) rfl (by decide) (by omega) (by omega) e3 ?_
        refine jr.iconst rfl ?_
        refine jr_v rfl rfl (Or.inl rfl) rfl rfl (by decide) rfl ⟨rfl, Nat.le_of_ble_eq_true rfl, Nat.le_of_ble_eq_true rfl⟩ rfl (jc.deep (r_ofFour_x hI_M hH_M hS_M  (by omega) (by omega) (by omega)  (fun r5 z5 w5_0 => ?_)) (by decide))
        refine jr.lconst (x := 1) rfl (by decide) ?_
        refine jr.land rfl ?_
        have b6 : jl_and r5 1 = r5 % 2 ∧ 0 ≤ jl_and r5 1 ∧ jl_and r5 1 ≤ 1 := ⟨jl_and_1 _, by rw [jl_and_1]; omega⟩
        generalize jl_and r5 1 = v6 at b6 ⊢
        refine jr.lconst (x := 1) rfl (by decide) ?_
        refine jr.lcmp_ne rfl rfl rfl (by omega) (by omega) (fun h54 => ?_) (fun h54 => ?_)
        · refine jr.iconst rfl ?_
          exact jr.ireturn rfl rfl rfl (q _ (by omega) (by omega) (fun q => by first | exact absurd rfl q | (obtain ⟨t, z1, z2, z3, z4⟩ := hy0; exact ⟨t, z1, z2, Or.inr z3, z4, Or.inr ⟨by omega, z3⟩⟩) | exact ⟨r1, by omega, by omega, by omega, w1_2, Or.inl ⟨by omega, rfl⟩⟩) (by have h6 := p0.1; have hc : 0 ≤ r1 ∧ r1 < C := (by omega); have hh := HT.f p0 hc; have hk : hX f N r1 = 2 := (by omega); have hka : kA f N C r1 = 2 := (by rw [kA_i hc]; exact hk); have v5 := vA_k (j := 5) hc hk (by decide +kernel); have v4 := vA_k (j := 4) hc hk (by decide +kernel); rw [← hh.2.1, e3] at v5 v4; have o5 : ofs f N C r1 = 8 * r4 := (by unfold ofs; rw [if_pos hka, v5, ← p1, ← w4_0 _]); have m4 : mrf f N C r1 = r5 % 2 := (by unfold mrf; rw [if_pos hka, v4, ← p1, ← w5_0 _]); unfold pcf; rw [← w1_3, if_neg (by omega), if_pos hka]; rw [if_neg (by omega)]))
        · refine jr.iload_n rfl rfl ?_
          refine jr.goto rfl rfl ?_
          exact jr.ireturn rfl rfl rfl (q _ (by omega) (by omega) (fun q => by first | exact absurd rfl q | (obtain ⟨t, z1, z2, z3, z4⟩ := hy0; exact ⟨t, z1, z2, Or.inr z3, z4, Or.inr ⟨by omega, z3⟩⟩) | exact ⟨r1, by omega, by omega, by omega, w1_2, Or.inl ⟨by omega, rfl⟩⟩) (by have h6 := p0.1; have hc : 0 ≤ r1 ∧ r1 < C := (by omega); have hh := HT.f p0 hc; have hk : hX f N r1 = 2 := (by omega); have hka : kA f N C r1 = 2 := (by rw [kA_i hc]; exact hk); have v5 := vA_k (j := 5) hc hk (by decide +kernel); have v4 := vA_k (j := 4) hc hk (by decide +kernel); rw [← hh.2.1, e3] at v5 v4; have o5 : ofs f N C r1 = 8 * r4 := (by unfold ofs; rw [if_pos hka, v5, ← p1, ← w4_0 _]); unfold pcf; rw [← w1_3, if_neg (by omega), if_pos hka]; first | (rw [if_pos (Or.inr (by omega))]; done) | (have m4 : mrf f N C r1 = r5 % 2 := (by unfold mrf; rw [if_pos hka, v4, ← p1, ← w5_0 _]); rw [if_pos (Or.inl (by omega))])))
  · refine jr.iconst rfl ?_
    exact jr.ireturn rfl rfl rfl (q _ (by omega) (by omega) (fun q => by first | exact absurd rfl q | (obtain ⟨t, z1, z2, z3, z4⟩ := hy0; exact ⟨t, z1, z2, Or.inr z3, z4, Or.inr ⟨by omega, z3⟩⟩) | exact ⟨r1, by omega, by omega, by omega, w1_2, Or.inl ⟨by omega, rfl⟩⟩) (by unfold pcf; rw [← w1_3, if_pos (by omega)]))
/-! ===== the reference: gatherings, exactly ===== -/
/-- the last gathering of that name below n -/
noncomputable def gL (M : jm) (k a b c o : Int) : Nat → Int
  | 0 => -1
  | n + 1 => if M 606 (n : Int) ≠ 0 ∧ M 607 (n : Int) = k ∧ M 608 (n : Int) = a ∧ M 609 (n : Int) = b ∧ M 610 (n : Int) = c ∧ M 611 (n : Int) = o then (n : Int) else gL M k a b c o n
theorem gL_s {M : jm} {k a b c o i : Int} (h : 0 ≤ i) : gL M k a b c o (i + 1).toNat = if M 606 i ≠ 0 ∧ M 607 i = k ∧ M 608 i = a ∧ M 609 i = b ∧ M 610 i = c ∧ M 611 i = o then i else gL M k a b c o i.toNat := by
  obtain ⟨n, rfl⟩ := Int.eq_ofNat_of_zero_le h
  rw [show ((n : Int) + 1).toNat = n + 1 by omega, show ((n : Int)).toNat = n by omega]
  rfl
noncomputable def gE (M : jm) : Nat → Int → Int
  | 0, _ => -1
  | n + 1, i => if M 606 i = 0 then i else gE M n (i + 1)
theorem gE_s {M : jm} {i : Int} (h : i < 8) : gE M (8 - i).toNat i = if M 606 i = 0 then i else gE M (8 - (i + 1)).toNat (i + 1) := by
  obtain ⟨n, hn⟩ : ∃ n : Nat, i = 7 - n := ⟨(7 - i).toNat, by omega⟩
  subst hn
  rw [show (8 - (7 - (n : Int))).toNat = n + 1 by omega, show (8 - (7 - (n : Int) + 1)).toNat = n by omega]
  rfl
end
