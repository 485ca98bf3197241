/-! ===== the reference: pieces, exactly ===== -/
theorem r_net_L2_x {A : Nat → Option (Nat × (Nat → Int32))} {Q : Option Value → jm → Prop} {f : Int → Int} {N C : Int} {M : jm} (hI_M : RI M) (hH_M : RH M) (hS_M : RF M) (q : ∀ (r : Int), (-1) ≤ r ∧ r ≤ 11 → (r = -1 ∨ (0 ≤ r ∧ r < M 598 6 ∧ (M 603 r = 2 ∧ M 604 r ≤ 380 ∨ M 603 r = 3 ∧ M 604 r ≤ 376))) → (r = -1 → (∀ j : Int, 0 ≤ j → j < M 598 6 → M 603 j ≠ 2 ∧ M 603 j ≠ 3)) → (∀ j : Int, 0 ≤ j → j < r → M 603 j ≠ 2 ∧ M 603 j ≠ 3) → r = ntf f N C → Q (some (.int (Int32.ofInt r))) M) : ∀ (nM : Nat) (h : Int), 0 ≤ h ∧ h ≤ 12 → h ≤ M 598 6 → (∀ j : Int, 0 ≤ j → j < h → M 603 j ≠ 2 ∧ M 603 j ≠ 3) → HT M f N C → ntf f N C = nxN f N (C - h).toNat h → 12 - h ≤ nM → jr A 0 xm_286 2 [(1, .int (Int32.ofInt (h))), (0, .ref (598))] [] M Q := by
  intro nM
  induction nM using Nat.strongRecOn with
  | ind nM ih =>
    intro h h_h hy0 hy1 hy2 hy3 hm
    have rt := RH.two hH_M h
    refine jr.iload_n rfl rfl ?_
    refine jr.aload_n rfl rfl ?_
    obtain ⟨v1, e1⟩ : ∃ z, M 598 6 = z := ⟨_, rfl⟩
    have b1 : 0 ≤ v1 ∧ v1 ≤ 12 := by rw [← e1]; exact hI_M 598 6 (by decide)
    refine jr.getf (i := 6) (x := v1) (v := .int (Int32.ofInt (v1))) rfl rfl (by decide) rfl (by decide) rfl rfl e1 rfl ?_
    refine jr.icmp_ge rfl rfl (by omega) (by omega) (fun h7 => ?_) (fun h7 => ?_)
    · refine jr.iload_n rfl rfl ?_
      refine jr.aload_n rfl rfl ?_
      refine jr.getf (i := 6) (x := v1) (v := .int (Int32.ofInt (v1))) rfl rfl (by decide) rfl (by decide) rfl rfl e1 rfl ?_
      refine jr.icmp_ge rfl rfl (by omega) (by omega) (fun h41 => ?_) (fun h41 => ?_)
      · refine jr.iconst rfl ?_
        exact jr.ireturn rfl rfl rfl (q _ (by omega) (by omega) (fun _ j j0 j1 => hy1 j j0 (by omega)) (fun j j0 j1 => hy1 j j0 (by omega)) (by rw [hy3, nxN_e (by have h9 := hy2.1; omega)]))
      · refine jr.iload_n rfl rfl ?_
        refine jr.goto rfl rfl ?_
        exact jr.ireturn rfl rfl rfl (q _ (by omega) (by omega) (fun q => absurd q (by omega)) (fun j j0 j1 => hy1 j j0 (by omega)) (by have hh := HT.f hy2 (x := h) (by have h9 := hy2.1; omega); rw [hy3, nxN_s (by have h9 := hy2.1; omega), if_pos (by omega)]))
    · refine jr.aload_n rfl rfl ?_
      refine jr.getf (i := 7) (v := .ref 603) rfl rfl (by decide) rfl (by decide) rfl rfl rfl rfl ?_
      refine jr.iload_n rfl rfl ?_
      obtain ⟨v2, e2⟩ : ∃ z, M 603 h = z := ⟨_, rfl⟩
      have b2 : 0 ≤ v2 ∧ v2 ≤ 11 := by rw [← e2]; exact (by have q := hI_M 603 h (by decide); rw [xri_row rfl rfl] at q; exact q)
      refine jr.iald (i := h) (x := v2) rfl (by decide) rfl (by decide) (by omega) (by omega) e2 ?_
      refine jr.iconst rfl ?_
      refine jr.icmp_eq rfl rfl (by omega) (by omega) (fun h17 => ?_) (fun h17 => ?_)
      · refine jr.iload_n rfl rfl ?_
        refine jr.aload_n rfl rfl ?_
        refine jr.getf (i := 6) (x := v1) (v := .int (Int32.ofInt (v1))) rfl rfl (by decide) rfl (by decide) rfl rfl e1 rfl ?_
        refine jr.icmp_ge rfl rfl (by omega) (by omega) (fun h41 => ?_) (fun h41 => ?_)
        · refine jr.iconst rfl ?_
          exact jr.ireturn rfl rfl rfl (q _ (by omega) (by omega) (fun _ j j0 j1 => hy1 j j0 (by omega)) (fun j j0 j1 => hy1 j j0 (by omega)) (by rw [hy3, nxN_e (by have h9 := hy2.1; omega)]))
        · refine jr.iload_n rfl rfl ?_
          refine jr.goto rfl rfl ?_
          exact jr.ireturn rfl rfl rfl (q _ (by omega) (by omega) (fun q => absurd q (by omega)) (fun j j0 j1 => hy1 j j0 (by omega)) (by have hh := HT.f hy2 (x := h) (by have h9 := hy2.1; omega); rw [hy3, nxN_s (by have h9 := hy2.1; omega), if_pos (by omega)]))
      · refine jr.aload_n rfl rfl ?_
        refine jr.getf (i := 7) (v := .ref 603) rfl rfl (by decide) rfl (by decide) rfl rfl rfl rfl ?_
        refine jr.iload_n rfl rfl ?_
        refine jr.iald (i := h) (x := v2) rfl (by decide) rfl (by decide) (by omega) (by omega) e2 ?_
        refine jr.iconst rfl ?_
        refine jr.icmp_eq rfl rfl (by omega) (by omega) (fun h27 => ?_) (fun h27 => ?_)
        · refine jr.iload_n rfl rfl ?_
          refine jr.aload_n rfl rfl ?_
          refine jr.getf (i := 6) (x := v1) (v := .int (Int32.ofInt (v1))) rfl rfl (by decide) rfl (by decide) rfl rfl e1 rfl ?_
          refine jr.icmp_ge rfl rfl (by omega) (by omega) (fun h41 => ?_) (fun h41 => ?_)
          · refine jr.iconst rfl ?_
            exact jr.ireturn rfl rfl rfl (q _ (by omega) (by omega) (fun _ j j0 j1 => hy1 j j0 (by omega)) (fun j j0 j1 => hy1 j j0 (by omega)) (by rw [hy3, nxN_e (by have h9 := hy2.1; omega)]))
          · refine jr.iload_n rfl rfl ?_
            refine jr.goto rfl rfl ?_
            exact jr.ireturn rfl rfl rfl (q _ (by omega) (by omega) (fun q => absurd q (by omega)) (fun j j0 j1 => hy1 j j0 (by omega)) (by have hh := HT.f hy2 (x := h) (by have h9 := hy2.1; omega); rw [hy3, nxN_s (by have h9 := hy2.1; omega), if_pos (by omega)]))
        · refine jr.iinc rfl rfl (by decide) rfl ?_
          refine jr.goto rfl rfl ?_
          refine jr.pick [0, 1] rfl rfl ?_
          exact ih (nM - 1) (by omega) (h + 1) (by omega) (by omega) (fun j j0 j1 => by by_cases q : j = h; (subst q; omega); exact hy1 j j0 (by omega)) hy2 (by have hh := HT.f hy2 (x := h) (by have h9 := hy2.1; omega); rw [hy3, nxN_s (by have h9 := hy2.1; omega), if_neg (by omega)]) (by omega)
theorem r_net_x {A : Nat → Option (Nat × (Nat → Int32))} {Q : Option Value → jm → Prop} {f : Int → Int} {N C : Int} {M : jm} (hI_M : RI M) (hH_M : RH M) (hS_M : RF M) (p0 : HT M f N C) (q : ∀ (r : Int), (-1) ≤ r ∧ r ≤ 11 → (r = -1 ∨ (0 ≤ r ∧ r < M 598 6 ∧ (M 603 r = 2 ∧ M 604 r ≤ 380 ∨ M 603 r = 3 ∧ M 604 r ≤ 376))) → (r = -1 → (∀ j : Int, 0 ≤ j → j < M 598 6 → M 603 j ≠ 2 ∧ M 603 j ≠ 3)) → (∀ j : Int, 0 ≤ j → j < r → M 603 j ≠ 2 ∧ M 603 j ≠ 3) → r = ntf f N C → Q (some (.int (Int32.ofInt r))) M) : jc A 1 286 [.ref (598)] M Q := by
  have bh : (0 : Int) ≤ M 598 6 ∧ M 598 6 ≤ 12 := hI_M 598 6 (by decide)
  refine jc_of (m := xm_286) rfl (Nat.le_of_ble_eq_true rfl) rfl ?_
  refine jr.iconst rfl ?_
  refine jr.istore_n rfl (by decide) rfl ?_
  refine jr.pick [0, 1] rfl rfl ?_
  exact r_net_L2_x hI_M hH_M hS_M q 12 0 (by omega) (by omega) (fun j j0 j1 => by omega) p0 (by unfold ntf; rw [show C - 0 = C from by omega]) (by omega)
theorem r_piece_L67_x {A : Nat → Option (Nat × (Nat → Int32))} {Q : Option Value → jm → Prop} {f : Int → Int} {N C : Int} {M : jm} (hI_M : RI M) (hH_M : RH M) (hS_M : RF M) (q : ∀ (r : Int), (-1) ≤ r ∧ r ≤ 11 → (r = -1 ∨ (0 ≤ r ∧ r < M 598 6 ∧ (M 603 r = 2 ∧ M 604 r ≤ 380 ∨ M 603 r = 6 ∧ M 604 r ≤ 392 ∧ 1 ≤ r))) → (r ≠ -1 → (∃ t : Int, 0 ≤ t ∧ t < M 598 6 ∧ (M 603 t = 2 ∨ M 603 t = 3) ∧ (∀ j : Int, 0 ≤ j → j < t → M 603 j ≠ 2 ∧ M 603 j ≠ 3) ∧ ((M 603 r = 2 ∧ t = r) ∨ (M 603 r = 6 ∧ M 603 t = 3)))) → r = pcf f N C → Q (some (.int (Int32.ofInt r))) M) : ∀ (nM : Nat) (h : Int) (x : Int), 1 ≤ h ∧ h ≤ 13 → 0 ≤ x ∧ x ≤ 23 → (∃ t : Int, 0 ≤ t ∧ t < M 598 6 ∧ M 603 t = 3 ∧ (∀ j : Int, 0 ≤ j → j < t → M 603 j ≠ 2 ∧ M 603 j ≠ 3)) → HT M f N C → rf M x = f → pcf f N C = (if kA f N C (nxI f N (C - h).toNat h) = 6 then nxI f N (C - h).toNat h else -1) → 13 - h ≤ nM → jr A 4 xm_287 67 [(2, .int (Int32.ofInt (h))), (1, .int (Int32.ofInt (x))), (0, .ref (598))] [] M Q := by
  intro nM
  induction nM using Nat.strongRecOn with
  | ind nM ih =>
    intro h x h_h h_x hy0 hy1 hy2 hy3 hm
    have rt := RH.part hH_M h
    refine jr.iload_n rfl rfl ?_
    refine jr.aload_n rfl rfl ?_
    obtain ⟨v1, e1⟩ : ∃ z, M 598 6 = z := ⟨_, rfl⟩
    have b1 : 0 ≤ v1 ∧ v1 ≤ 12 := by rw [← e1]; exact hI_M 598 6 (by decide)
    refine jr.getf (i := 6) (x := v1) (v := .int (Int32.ofInt (v1))) rfl rfl (by decide) rfl (by decide) rfl rfl e1 rfl ?_
    refine jr.icmp_ge rfl rfl (by omega) (by omega) (fun h72 => ?_) (fun h72 => ?_)
    · refine jr.iload_n rfl rfl ?_
      refine jr.aload_n rfl rfl ?_
      refine jr.getf (i := 6) (x := v1) (v := .int (Int32.ofInt (v1))) rfl rfl (by decide) rfl (by decide) rfl rfl e1 rfl ?_
      refine jr.icmp_ge rfl rfl (by omega) (by omega) (fun h106 => ?_) (fun h106 => ?_)
      · refine jr.iconst rfl ?_
        exact jr.ireturn rfl rfl rfl (q _ (by omega) (by omega) (fun q => by first | exact absurd rfl q | (obtain ⟨t, z1, z2, z3, z4⟩ := hy0; exact ⟨t, z1, z2, Or.inr z3, z4, Or.inr ⟨by omega, z3⟩⟩) | exact ⟨r1, by omega, by omega, by omega, w1_2, Or.inl ⟨by omega, rfl⟩⟩) (by first | (exfalso; omega) | (rw [hy3, nxI_e (by have h9 := hy1.1; omega)]; split <;> rfl) | (have hc : 0 ≤ h ∧ h < C := (by have h9 := hy1.1; omega); have hh := HT.f hy1 hc; have e : nxI f N (C - h).toNat h = h := (by rw [nxI_s hc.2, if_neg (by omega)]); rw [hy3, e, kA_i hc, if_neg (by omega)])))
      · refine jr.aload_n rfl rfl ?_
        refine jr.getf (i := 7) (v := .ref 603) rfl rfl (by decide) rfl (by decide) rfl rfl rfl rfl ?_
        refine jr.iload_n rfl rfl ?_
        obtain ⟨v2, e2⟩ : ∃ z, M 603 h = z := ⟨_, rfl⟩
        have b2 : 0 ≤ v2 ∧ v2 ≤ 11 := by rw [← e2]; exact (by have q := hI_M 603 h (by decide); rw [xri_row rfl rfl] at q; exact q)
        refine jr.iald (i := h) (x := v2) rfl (by decide) rfl (by decide) (by omega) (by omega) e2 ?_
        refine jr.bipush rfl (by decide) ?_
        refine jr.icmp_ne rfl rfl (by omega) (by omega) (fun h117 => ?_) (fun h117 => ?_)
        · refine jr.iconst rfl ?_
          exact jr.ireturn rfl rfl rfl (q _ (by omega) (by omega) (fun q => by first | exact absurd rfl q | (obtain ⟨t, z1, z2, z3, z4⟩ := hy0; exact ⟨t, z1, z2, Or.inr z3, z4, Or.inr ⟨by omega, z3⟩⟩) | exact ⟨r1, by omega, by omega, by omega, w1_2, Or.inl ⟨by omega, rfl⟩⟩) (by first | (exfalso; omega) | (rw [hy3, nxI_e (by have h9 := hy1.1; omega)]; split <;> rfl) | (have hc : 0 ≤ h ∧ h < C := (by have h9 := hy1.1; omega); have hh := HT.f hy1 hc; have e : nxI f N (C - h).toNat h = h := (by rw [nxI_s hc.2, if_neg (by omega)]); rw [hy3, e, kA_i hc, if_neg (by omega)])))
        · refine jr.iload_n rfl rfl ?_
          refine jr.goto rfl rfl ?_
          exact jr.ireturn rfl rfl rfl (q _ (by omega) (by omega) (fun q => by first | exact absurd rfl q | (obtain ⟨t, z1, z2, z3, z4⟩ := hy0; exact ⟨t, z1, z2, Or.inr z3, z4, Or.inr ⟨by omega, z3⟩⟩) | exact ⟨r1, by omega, by omega, by omega, w1_2, Or.inl ⟨by omega, rfl⟩⟩) (by have hc : 0 ≤ h ∧ h < C := (by have h9 := hy1.1; omega); have hh := HT.f hy1 hc; have e : nxI f N (C - h).toNat h = h := (by rw [nxI_s hc.2, if_neg (by omega)]); rw [hy3, e, kA_i hc, if_pos (by omega)]))
    · refine jr.aload_n rfl rfl ?_
      refine jr.getf (i := 7) (v := .ref 603) rfl rfl (by decide) rfl (by decide) rfl rfl rfl rfl ?_
      refine jr.iload_n rfl rfl ?_
      obtain ⟨v3, e3⟩ : ∃ z, M 603 h = z := ⟨_, rfl⟩
      have b3 : 0 ≤ v3 ∧ v3 ≤ 11 := by rw [← e3]; exact (by have q := hI_M 603 h (by decide); rw [xri_row rfl rfl] at q; exact q)
      refine jr.iald (i := h) (x := v3) rfl (by decide) rfl (by decide) (by omega) (by omega) e3 ?_
      refine jr.iconst rfl ?_
      refine jr.icmp_eq rfl rfl (by omega) (by omega) (fun h82 => ?_) (fun h82 => ?_)
      · refine jr.iinc rfl rfl (by decide) rfl ?_
        refine jr.goto rfl rfl ?_
        refine jr.pick [0, 1, 2] rfl rfl ?_
        exact ih (nM - 1) (by omega) (h + 1) x (by omega) (by omega) hy0 hy1 hy2 (by have hc : 0 ≤ h ∧ h < C := (by have h9 := hy1.1; omega); have hh := HT.f hy1 hc; have e : nxI f N (C - h).toNat h = nxI f N (C - (h + 1)).toNat (h + 1) := (by rw [nxI_s hc.2, if_pos (by omega)]); rw [hy3, e]) (by omega)
      · refine jr.aload_n rfl rfl ?_
        refine jr.getf (i := 7) (v := .ref 603) rfl rfl (by decide) rfl (by decide) rfl rfl rfl rfl ?_
        refine jr.iload_n rfl rfl ?_
        refine jr.iald (i := h) (x := v3) rfl (by decide) rfl (by decide) (by omega) (by omega) e3 ?_
        refine jr.iconst rfl ?_
        refine jr.icmp_ne rfl rfl (by omega) (by omega) (fun h92 => ?_) (fun h92 => ?_)
        · refine jr.iload_n rfl rfl ?_
          refine jr.aload_n rfl rfl ?_
          refine jr.getf (i := 6) (x := v1) (v := .int (Int32.ofInt (v1))) rfl rfl (by decide) rfl (by decide) rfl rfl e1 rfl ?_
          refine jr.icmp_ge rfl rfl (by omega) (by omega) (fun h106 => ?_) (fun h106 => ?_)
          · refine jr.iconst rfl ?_
            exact jr.ireturn rfl rfl rfl (q _ (by omega) (by omega) (fun q => by first | exact absurd rfl q | (obtain ⟨t, z1, z2, z3, z4⟩ := hy0; exact ⟨t, z1, z2, Or.inr z3, z4, Or.inr ⟨by omega, z3⟩⟩) | exact ⟨r1, by omega, by omega, by omega, w1_2, Or.inl ⟨by omega, rfl⟩⟩) (by first | (exfalso; omega) | (rw [hy3, nxI_e (by have h9 := hy1.1; omega)]; split <;> rfl) | (have hc : 0 ≤ h ∧ h < C := (by have h9 := hy1.1; omega); have hh := HT.f hy1 hc; have e : nxI f N (C - h).toNat h = h := (by rw [nxI_s hc.2, if_neg (by omega)]); rw [hy3, e, kA_i hc, if_neg (by omega)])))
          · refine jr.aload_n rfl rfl ?_
            refine jr.getf (i := 7) (v := .ref 603) rfl rfl (by decide) rfl (by decide) rfl rfl rfl rfl ?_
            refine jr.iload_n rfl rfl ?_
            refine jr.iald (i := h) (x := v3) rfl (by decide) rfl (by decide) (by omega) (by omega) e3 ?_
            refine jr.bipush rfl (by decide) ?_
            refine jr.icmp_ne rfl rfl (by omega) (by omega) (fun h117 => ?_) (fun h117 => ?_)
            · refine jr.iconst rfl ?_
              exact jr.ireturn rfl rfl rfl (q _ (by omega) (by omega) (fun q => by first | exact absurd rfl q | (obtain ⟨t, z1, z2, z3, z4⟩ := hy0; exact ⟨t, z1, z2, Or.inr z3, z4, Or.inr ⟨by omega, z3⟩⟩) | exact ⟨r1, by omega, by omega, by omega, w1_2, Or.inl ⟨by omega, rfl⟩⟩) (by first | (exfalso; omega) | (rw [hy3, nxI_e (by have h9 := hy1.1; omega)]; split <;> rfl) | (have hc : 0 ≤ h ∧ h < C := (by have h9 := hy1.1; omega); have hh := HT.f hy1 hc; have e : nxI f N (C - h).toNat h = h := (by rw [nxI_s hc.2, if_neg (by omega)]); rw [hy3, e, kA_i hc, if_neg (by omega)])))
            · refine jr.iload_n rfl rfl ?_
              refine jr.goto rfl rfl ?_
              exact jr.ireturn rfl rfl rfl (q _ (by omega) (by omega) (fun q => by first | exact absurd rfl q | (obtain ⟨t, z1, z2, z3, z4⟩ := hy0; exact ⟨t, z1, z2, Or.inr z3, z4, Or.inr ⟨by omega, z3⟩⟩) | exact ⟨r1, by omega, by omega, by omega, w1_2, Or.inl ⟨by omega, rfl⟩⟩) (by have hc : 0 ≤ h ∧ h < C := (by have h9 := hy1.1; omega); have hh := HT.f hy1 hc; have e : nxI f N (C - h).toNat h = h := (by rw [nxI_s hc.2, if_neg (by omega)]); rw [hy3, e, kA_i hc, if_pos (by omega)]))
        · refine jr.iinc rfl rfl (by decide) rfl ?_
          refine jr.goto rfl rfl ?_
          refine jr.pick [0, 1, 2] rfl rfl ?_
          exact ih (nM - 1) (by omega) (h + 1) x (by omega) (by omega) hy0 hy1 hy2 (by have hc : 0 ≤ h ∧ h < C := (by have h9 := hy1.1; omega); have hh := HT.f hy1 hc; have e : nxI f N (C - h).toNat h = nxI f N (C - (h + 1)).toNat (h + 1) := (by rw [nxI_s hc.2, if_pos (by omega)]); rw [hy3, e]) (by omega)
theorem r_piece_x {A : Nat → Option (Nat × (Nat → Int32))} {Q : Option Value → jm → Prop} {f : Int → Int} {N C : Int} {M : jm} (hI_M : RI M) (hH_M : RH M) (hS_M : RF M) {x : Int} (h_x : 0 ≤ x ∧ x ≤ 23) (p0 : HT M f N C) (p1 : rf M x = f) (q : ∀ (r : Int), (-1) ≤ r ∧ r ≤ 11 → (r = -1 ∨ (0 ≤ r ∧ r < M 598 6 ∧ (M 603 r = 2 ∧ M 604 r ≤ 380 ∨ M 603 r = 6 ∧ M 604 r ≤ 392 ∧ 1 ≤ r))) → (r ≠ -1 → (∃ t : Int, 0 ≤ t ∧ t < M 598 6 ∧ (M 603 t = 2 ∨ M 603 t = 3) ∧ (∀ j : Int, 0 ≤ j → j < t → M 603 j ≠ 2 ∧ M 603 j ≠ 3) ∧ ((M 603 r = 2 ∧ t = r) ∨ (M 603 r = 6 ∧ M 603 t = 3)))) → r = pcf f N C → Q (some (.int (Int32.ofInt r))) M) : jc A 5 287 [.ref (598), .int (Int32.ofInt (x))] M Q := by
  refine jc_of (m := xm_287) rfl (Nat.le_of_ble_eq_true rfl) rfl ?_
  refine jr.aload_n rfl rfl ?_
  refine jr_v rfl rfl (Or.inl rfl) rfl rfl (by decide) rfl ⟨rfl, Nat.le_of_ble_eq_true rfl, Nat.le_of_ble_eq_true rfl⟩ rfl (jc.deep (r_net_x hI_M hH_M hS_M   p0 (fun r1 z1 w1_0 w1_1 w1_2 w1_3 => ?_)) (by decide))
  refine jr.istore_n rfl (by decide) rfl ?_
  refine jr.iload_n rfl rfl ?_
  refine jr.iconst rfl ?_
  refine jr.icmp_ne rfl rfl (by omega) (by omega) (fun h7 => ?_) (fun h7 => ?_)
  · refine jr.aload_n rfl rfl ?_
    refine jr.getf (i := 7) (v := .ref 603) rfl rfl (by decide) rfl (by decide) rfl rfl rfl rfl ?_
    refine jr.iload_n rfl rfl ?_
    obtain ⟨v2, e2⟩ : ∃ z, M 603 r1 = z := ⟨_, rfl⟩
    have b2 : 0 ≤ v2 ∧ v2 ≤ 11 := by rw [← e2]; exact (by have q := hI_M 603 r1 (by decide); rw [xri_row rfl rfl] at q; exact q)
    refine jr.iald (i := r1) (x := v2) rfl (by decide) rfl (by decide) (by omega) (by omega) e2 ?_
    refine jr.iconst rfl ?_
    refine jr.icmp_ne rfl rfl (by omega) (by omega) (fun h19 => ?_) (fun h19 => ?_)
    · refine jr.iinc rfl rfl (by decide) rfl ?_
      refine jr.pick [0, 2, 1] rfl rfl ?_
      exact r_piece_L67_x hI_M hH_M hS_M q 13 (r1 + 1) x (by omega) (by omega) ⟨r1, by omega, by omega, by omega, w1_2⟩ p0 p1 (by have h6 := p0.1; have hc : 0 ≤ r1 ∧ r1 < C := (by omega); have hh := HT.f p0 hc; unfold pcf; rw [← w1_3, if_neg (by omega), if_neg (by rw [kA_i hc]; omega)]; rfl) (by omega)
    · refine jr.aload_n rfl rfl ?_
      refine jr.iload_n rfl rfl ?_
      refine jr.aload_n rfl rfl ?_
      refine jr.getf (i := 8) (v := .ref 604) rfl rfl (by decide) rfl (by decide) rfl rfl rfl rfl ?_
      refine jr.iload_n rfl rfl ?_
      obtain ⟨v3, e3⟩ : ∃ z, M 604 r1 = z := ⟨_, rfl⟩
      have b3 : 0 ≤ v3 ∧ v3 ≤ 400 := by rw [← e3]; exact (by have q := hI_M 604 r1 (by decide); rw [xri_row rfl rfl] at q; exact q)
      refine jr.iald (i := r1) (x := v3) rfl (by decide) rfl (by decide) (by omega) (by omega) e3 ?_
      refine jr.iconst rfl ?_
      refine jr_v rfl rfl (Or.inl rfl) rfl rfl (by decide) rfl ⟨rfl, Nat.le_of_ble_eq_true rfl, Nat.le_of_ble_eq_true rfl⟩ rfl (jc.deep (r_ofFour_x hI_M hH_M hS_M  (by omega) (by omega) (by omega)  (fun r4 z4 w4_0 => ?_)) (by decide))
      refine jr.lconst (x := 0) rfl (by decide) ?_
      refine jr.lcmp_gt rfl rfl rfl (by omega) (by omega) (fun h35 => ?_) (fun h35 => ?_)
      · refine jr.iload_n rfl rfl ?_
        refine jr.goto rfl rfl ?_
        exact jr.ireturn rfl rfl rfl (q _ (by omega) (by omega) (fun q => by first | exact absurd rfl q | (obtain ⟨t, z1, z2, z3, z4⟩ := hy0; exact ⟨t, z1, z2, Or.inr z3, z4, Or.inr ⟨by omega, z3⟩⟩) | exact ⟨r1, by omega, by omega, by omega, w1_2, Or.inl ⟨by omega, rfl⟩⟩) (by have h6 := p0.1; have hc : 0 ≤ r1 ∧ r1 < C := (by omega); have hh := HT.f p0 hc; have hk : hX f N r1 = 2 := (by omega); have hka : kA f N C r1 = 2 := (by rw [kA_i hc]; exact hk); have v5 := vA_k (j := 5) hc hk (by decide +kernel); have v4 := vA_k (j := 4) hc hk (by decide +kernel); rw [← hh.2.1, e3] at v5 v4; have o5 : ofs f N C r1 = 8 * r4 := (by unfold ofs; rw [if_pos hka, v5, ← p1, ← w4_0 _]); unfold pcf; rw [← w1_3, if_neg (by omega), if_pos hka]; first | (rw [if_pos (Or.inr (by omega))]; done) | (rw [if_pos (Or.inl (by omega))])))
      · refine jr.aload_n rfl rfl ?_
        refine jr.iload_n rfl rfl ?_
        refine jr.aload_n rfl rfl ?_
        refine jr.getf (i := 8) (v := .ref 604) rfl rfl (by decide) rfl (by decide) rfl rfl rfl rfl ?_
        refine jr.iload_n rfl rfl ?_
        refine jr.iald (i := r1) (x := v3) rfl (by decide) rfl (by decide) (by omega) (by omega) e3 ?_
        refine jr.iconst rfl ?_
        refine jr_v rfl rfl (Or.inl rfl) rfl rfl (by decide) rfl ⟨rfl, Nat.le_of_ble_eq_true rfl, Nat.le_of_ble_eq_true rfl⟩ rfl (jc.deep (r_ofFour_x hI_M hH_M hS_M  (by omega) (by omega) (by omega)  (fun r5 z5 w5_0 => ?_)) (by decide))
        refine jr.lconst (x := 1) rfl (by decide) ?_
        refine jr.land rfl ?_
        have b6 : jl_and r5 1 = r5 % 2 ∧ 0 ≤ jl_and r5 1 ∧ jl_and r5 1 ≤ 1 := ⟨jl_and_1 _, by rw [jl_and_1]; omega⟩
        generalize jl_and r5 1 = v6 at b6 ⊢
        refine jr.lconst (x := 1) rfl (by decide) ?_
        refine jr.lcmp_ne rfl rfl rfl (by omega) (by omega) (fun h54 => ?_) (fun h54 => ?_)
        · refine jr.iconst rfl ?_
          exact jr.ireturn rfl rfl rfl (q _ (by omega) (by omega) (fun q => by first | exact absurd rfl q | (obtain ⟨t, z1, z2, z3, z4⟩ := hy0; exact ⟨t, z1, z2, Or.inr z3, z4, Or.inr ⟨by omega, z3⟩⟩) | exact ⟨r1, by omega, by omega, by omega, w1_2, Or.inl ⟨by omega, rfl⟩⟩) (by have h6 := p0.1; have hc : 0 ≤ r1 ∧ r1 < C := (by omega); have hh := HT.f p0 hc; have hk : hX f N r1 = 2 := (by omega); have hka : kA f N C r1 = 2 := (by rw [kA_i hc]; exact hk); have v5 := vA_k (j := 5) hc hk (by decide +kernel); have v4 := vA_k (j := 4) hc hk (by decide +kernel); rw [← hh.2.1, e3] at v5 v4; have o5 : ofs f N C r1 = 8 * r4 := (by unfold ofs; rw [if_pos hka, v5, ← p1, ← w4_0 _]); have m4 : mrf f N C r1 = r5 % 2 := (by unfold mrf; rw [if_pos hka, v4, ← p1, ← w5_0 _]); unfold pcf; rw [← w1_3, if_neg (by omega), if_pos hka]; rw [if_neg (by omega)]))
        · refine jr.iload_n rfl rfl ?_
          refine jr.goto rfl rfl ?_
          exact jr.ireturn rfl rfl rfl (q _ (by omega) (by omega) (fun q => by first | exact absurd rfl q | (obtain ⟨t, z1, z2, z3, z4⟩ := hy0; exact ⟨t, z1, z2, Or.inr z3, z4, Or.inr ⟨by omega, z3⟩⟩) | exact ⟨r1, by omega, by omega, by omega, w1_2, Or.inl ⟨by omega, rfl⟩⟩) (by have h6 := p0.1; have hc : 0 ≤ r1 ∧ r1 < C := (by omega); have hh := HT.f p0 hc; have hk : hX f N r1 = 2 := (by omega); have hka : kA f N C r1 = 2 := (by rw [kA_i hc]; exact hk); have v5 := vA_k (j := 5) hc hk (by decide +kernel); have v4 := vA_k (j := 4) hc hk (by decide +kernel); rw [← hh.2.1, e3] at v5 v4; have o5 : ofs f N C r1 = 8 * r4 := (by unfold ofs; rw [if_pos hka, v5, ← p1, ← w4_0 _]); unfold pcf; rw [← w1_3, if_neg (by omega), if_pos hka]; first | (rw [if_pos (Or.inr (by omega))]; done) | (have m4 : mrf f N C r1 = r5 % 2 := (by unfold mrf; rw [if_pos hka, v4, ← p1, ← w5_0 _]); rw [if_pos (Or.inl (by omega))])))
  · refine jr.iconst rfl ?_
    exact jr.ireturn rfl rfl rfl (q _ (by omega) (by omega) (fun q => by first | exact absurd rfl q | (obtain ⟨t, z1, z2, z3, z4⟩ := hy0; exact ⟨t, z1, z2, Or.inr z3, z4, Or.inr ⟨by omega, z3⟩⟩) | exact ⟨r1, by omega, by omega, by omega, w1_2, Or.inl ⟨by omega, rfl⟩⟩) (by unfold pcf; rw [← w1_3, if_pos (by omega)]))
/-! ===== the reference: gatherings, exactly ===== -/
/-- the last gathering of that name below n -/
def gL (M : jm) (k a b c o : Int) : Nat → Int
  | 0 => -1
  | n + 1 => if M 606 (n : Int) ≠ 0 ∧ M 607 (n : Int) = k ∧ M 608 (n : Int) = a ∧ M 609 (n : Int) = b ∧ M 610 (n : Int) = c ∧ M 611 (n : Int) = o then (n : Int) else gL M k a b c o n
theorem gL_s {M : jm} {k a b c o i : Int} (h : 0 ≤ i) : gL M k a b c o (i + 1).toNat = if M 606 i ≠ 0 ∧ M 607 i = k ∧ M 608 i = a ∧ M 609 i = b ∧ M 610 i = c ∧ M 611 i = o then i else gL M k a b c o i.toNat := by
  obtain ⟨n, rfl⟩ := Int.eq_ofNat_of_zero_le h
  rw [show ((n : Int) + 1).toNat = n + 1 by omega, show ((n : Int)).toNat = n by omega]
  rfl
def gE (M : jm) : Nat → Int → Int
  | 0, _ => -1
  | n + 1, i => if M 606 i = 0 then i else gE M n (i + 1)
theorem gE_s {M : jm} {i : Int} (h : i < 8) : gE M (8 - i).toNat i = if M 606 i = 0 then i else gE M (8 - (i + 1)).toNat (i + 1) := by
  obtain ⟨n, hn⟩ : ∃ n : Nat, i = 7 - n := ⟨(7 - i).toNat, by omega⟩
  subst hn
  rw [show (8 - (7 - (n : Int))).toNat = n + 1 by omega, show (8 - (7 - (n : Int) + 1)).toNat = n by omega]
  rfl
theorem r_gathering_L6_x {A : Nat → Option (Nat × (Nat → Int32))} {Q : Option Value → jm → Prop} {k0 : Int} {a0 : Int} {b0 : Int} {c0 : Int} {o0 : Int} {M : jm} (hI_M : RI M) (hH_M : RH M) (hS_M : RF M) (q : ∀ (r : Int), (-1) ≤ r ∧ r ≤ 7 → (r = -1 ∨ (0 ≤ r ∧ M 606 r ≠ 0 ∧ M 607 r = k0)) → r = gL M k0 a0 b0 c0 o0 8 → Q (some (.int (Int32.ofInt r))) M) : ∀ (nM : Nat) (g : Int) (f : Int) (o : Int) (c : Int) (b : Int) (a : Int) (k : Int), 0 ≤ g ∧ g ≤ 8 → (-1) ≤ f ∧ f ≤ 7 → (-2147483648) ≤ o ∧ o ≤ 2147483647 → (-9223372036854775808) ≤ c ∧ c ≤ 9223372036854775807 → (-9223372036854775808) ≤ b ∧ b ≤ 9223372036854775807 → (-9223372036854775808) ≤ a ∧ a ≤ 9223372036854775807 → (-2147483648) ≤ k ∧ k ≤ 2147483647 → (f = -1 ∨ (0 ≤ f ∧ M 606 f ≠ 0 ∧ M 607 f = k)) → f = gL M k a b c o g.toNat → k = k0 → a = a0 → b = b0 → c = c0 → o = o0 → 8 - g ≤ nM → jr A 0 xm_288 6 [(10, .int (Int32.ofInt (g))), (9, .int (Int32.ofInt (f))), (8, .int (Int32.ofInt (o))), (6, .long (Int64.ofInt (c))), (4, .long (Int64.ofInt (b))), (2, .long (Int64.ofInt (a))), (1, .int (Int32.ofInt (k))), (0, .ref (598))] [] M Q := by
  intro nM
  induction nM using Nat.strongRecOn with
  | ind nM ih =>
    intro g f o c b a k h_g h_f h_o h_c h_b h_a h_k hy0 hy1 hy2 hy3 hy4 hy5 hy6 hm
    subst hy2
    subst hy3
    subst hy4
    subst hy5
    subst hy6
    refine jr.iload rfl rfl ?_
    refine jr.bipush rfl (by decide) ?_
    refine jr.icmp_ge rfl rfl (by omega) (by omega) (fun h10 => ?_) (fun h10 => ?_)
    · refine jr.iload rfl rfl ?_
      exact jr.ireturn rfl rfl rfl (q _ (by omega) (by omega) (by have h9 := hy1; rw [show g = 8 from by omega] at h9; exact h9))
    · refine jr.aload_n rfl rfl ?_
      refine jr.getf (i := 17) (v := .ref 606) rfl rfl (by decide) rfl (by decide) rfl rfl rfl rfl ?_
      refine jr.iload rfl rfl ?_
      obtain ⟨v1, e1⟩ : ∃ z, M 606 g = z := ⟨_, rfl⟩
      have b1 : 0 ≤ v1 ∧ v1 ≤ 1 := by rw [← e1]; exact (by have q := hI_M 606 g (by decide); rw [xri_row rfl rfl] at q; exact q)
      refine jr.zald (i := g) (x := v1) rfl (by decide) rfl (by decide) (by omega) (by omega) e1 ?_
      refine jr.if_eq rfl rfl (by omega) (fun h20 => ?_) (fun h20 => ?_)
      · refine jr.iload rfl rfl ?_
        refine jr.istore rfl (by decide) rfl ?_
        refine jr.iinc rfl rfl (by decide) rfl ?_
        refine jr.goto rfl rfl ?_
        refine jr.pick [0, 1, 2, 3, 4, 5, 6, 7] rfl rfl ?_
        exact ih (nM - 1) (by omega) (g + 1) f o c b a k (by omega) (by omega) (by omega) (by omega) (by omega) (by omega) (by omega) (by omega) (by rw [gL_s (by omega)]; first | (rw [if_pos (by omega)]; done) | (rw [if_neg (by omega)]; exact hy1)) (by omega) (by omega) (by omega) (by omega) (by omega) (by omega)
      · refine jr.aload_n rfl rfl ?_
        refine jr.getf (i := 18) (v := .ref 607) rfl rfl (by decide) rfl (by decide) rfl rfl rfl rfl ?_
        refine jr.iload rfl rfl ?_
        obtain ⟨v2, e2⟩ : ∃ z, M 607 g = z := ⟨_, rfl⟩
        have b2 : 0 ≤ v2 ∧ v2 ≤ 11 := by rw [← e2]; exact (by have q := hI_M 607 g (by decide); rw [xri_row rfl rfl] at q; exact q)
        refine jr.iald (i := g) (x := v2) rfl (by decide) rfl (by decide) (by omega) (by omega) e2 ?_
        refine jr.iload_n rfl rfl ?_
        refine jr.icmp_ne rfl rfl (by omega) (by omega) (fun h31 => ?_) (fun h31 => ?_)
        · refine jr.iload rfl rfl ?_
          refine jr.istore rfl (by decide) rfl ?_
          refine jr.iinc rfl rfl (by decide) rfl ?_
          refine jr.goto rfl rfl ?_
          refine jr.pick [0, 1, 2, 3, 4, 5, 6, 7] rfl rfl ?_
          exact ih (nM - 1) (by omega) (g + 1) f o c b a k (by omega) (by omega) (by omega) (by omega) (by omega) (by omega) (by omega) (by omega) (by rw [gL_s (by omega)]; first | (rw [if_pos (by omega)]; done) | (rw [if_neg (by omega)]; exact hy1)) (by omega) (by omega) (by omega) (by omega) (by omega) (by omega)
        · refine jr.aload_n rfl rfl ?_
          refine jr.getf (i := 19) (v := .ref 608) rfl rfl (by decide) rfl (by decide) rfl rfl rfl rfl ?_
          refine jr.iload rfl rfl ?_
          obtain ⟨v3, e3⟩ : ∃ z, M 608 g = z := ⟨_, rfl⟩
          have b3 : (-9223372036854775808) ≤ v3 ∧ v3 ≤ 9223372036854775807 := by rw [← e3]; exact (by have q := hI_M 608 g (by decide); rw [xri_row rfl rfl] at q; exact q)
          refine jr.lald (i := g) (x := v3) rfl (by decide) rfl (by decide) (by omega) (by omega) e3 ?_
          refine jr.lload_n rfl rfl ?_
          refine jr.lcmp_ne rfl rfl rfl (by omega) (by omega) (fun h42 => ?_) (fun h42 => ?_)
          · refine jr.iload rfl rfl ?_
            refine jr.istore rfl (by decide) rfl ?_
            refine jr.iinc rfl rfl (by decide) rfl ?_
            refine jr.goto rfl rfl ?_
            refine jr.pick [0, 1, 2, 3, 4, 5, 6, 7] rfl rfl ?_
            exact ih (nM - 1) (by omega) (g + 1) f o c b a k (by omega) (by omega) (by omega) (by omega) (by omega) (by omega) (by omega) (by omega) (by rw [gL_s (by omega)]; first | (rw [if_pos (by omega)]; done) | (rw [if_neg (by omega)]; exact hy1)) (by omega) (by omega) (by omega) (by omega) (by omega) (by omega)
          · refine jr.aload_n rfl rfl ?_
            refine jr.getf (i := 20) (v := .ref 609) rfl rfl (by decide) rfl (by decide) rfl rfl rfl rfl ?_
            refine jr.iload rfl rfl ?_
            obtain ⟨v4, e4⟩ : ∃ z, M 609 g = z := ⟨_, rfl⟩
            have b4 : (-9223372036854775808) ≤ v4 ∧ v4 ≤ 9223372036854775807 := by rw [← e4]; exact (by have q := hI_M 609 g (by decide); rw [xri_row rfl rfl] at q; exact q)
            refine jr.lald (i := g) (x := v4) rfl (by decide) rfl (by decide) (by omega) (by omega) e4 ?_
            refine jr.lload rfl rfl ?_
            refine jr.lcmp_ne rfl rfl rfl (by omega) (by omega) (fun h55 => ?_) (fun h55 => ?_)
            · refine jr.iload rfl rfl ?_
              refine jr.istore rfl (by decide) rfl ?_
              refine jr.iinc rfl rfl (by decide) rfl ?_
              refine jr.goto rfl rfl ?_
              refine jr.pick [0, 1, 2, 3, 4, 5, 6, 7] rfl rfl ?_
              exact ih (nM - 1) (by omega) (g + 1) f o c b a k (by omega) (by omega) (by omega) (by omega) (by omega) (by omega) (by omega) (by omega) (by rw [gL_s (by omega)]; first | (rw [if_pos (by omega)]; done) | (rw [if_neg (by omega)]; exact hy1)) (by omega) (by omega) (by omega) (by omega) (by omega) (by omega)
            · refine jr.aload_n rfl rfl ?_
              refine jr.getf (i := 21) (v := .ref 610) rfl rfl (by decide) rfl (by decide) rfl rfl rfl rfl ?_
              refine jr.iload rfl rfl ?_
              obtain ⟨v5, e5⟩ : ∃ z, M 610 g = z := ⟨_, rfl⟩
              have b5 : (-9223372036854775808) ≤ v5 ∧ v5 ≤ 9223372036854775807 := by rw [← e5]; exact (by have q := hI_M 610 g (by decide); rw [xri_row rfl rfl] at q; exact q)
              refine jr.lald (i := g) (x := v5) rfl (by decide) rfl (by decide) (by omega) (by omega) e5 ?_
              refine jr.lload rfl rfl ?_
              refine jr.lcmp_ne rfl rfl rfl (by omega) (by omega) (fun h68 => ?_) (fun h68 => ?_)
              · refine jr.iload rfl rfl ?_
                refine jr.istore rfl (by decide) rfl ?_
                refine jr.iinc rfl rfl (by decide) rfl ?_
                refine jr.goto rfl rfl ?_
                refine jr.pick [0, 1, 2, 3, 4, 5, 6, 7] rfl rfl ?_
                exact ih (nM - 1) (by omega) (g + 1) f o c b a k (by omega) (by omega) (by omega) (by omega) (by omega) (by omega) (by omega) (by omega) (by rw [gL_s (by omega)]; first | (rw [if_pos (by omega)]; done) | (rw [if_neg (by omega)]; exact hy1)) (by omega) (by omega) (by omega) (by omega) (by omega) (by omega)
              · refine jr.aload_n rfl rfl ?_
                refine jr.getf (i := 22) (v := .ref 611) rfl rfl (by decide) rfl (by decide) rfl rfl rfl rfl ?_
                refine jr.iload rfl rfl ?_
                obtain ⟨v6, e6⟩ : ∃ z, M 611 g = z := ⟨_, rfl⟩
                have b6 : 0 ≤ v6 ∧ v6 ≤ 255 := by rw [← e6]; exact (by have q := hI_M 611 g (by decide); rw [xri_row rfl rfl] at q; exact q)
                refine jr.iald (i := g) (x := v6) rfl (by decide) rfl (by decide) (by omega) (by omega) e6 ?_
                refine jr.iload rfl rfl ?_
                refine jr.icmp_ne rfl rfl (by omega) (by omega) (fun h81 => ?_) (fun h81 => ?_)
                · refine jr.iload rfl rfl ?_
                  refine jr.istore rfl (by decide) rfl ?_
                  refine jr.iinc rfl rfl (by decide) rfl ?_
                  refine jr.goto rfl rfl ?_
                  refine jr.pick [0, 1, 2, 3, 4, 5, 6, 7] rfl rfl ?_
                  exact ih (nM - 1) (by omega) (g + 1) f o c b a k (by omega) (by omega) (by omega) (by omega) (by omega) (by omega) (by omega) (by omega) (by rw [gL_s (by omega)]; first | (rw [if_pos (by omega)]; done) | (rw [if_neg (by omega)]; exact hy1)) (by omega) (by omega) (by omega) (by omega) (by omega) (by omega)
                · refine jr.iload rfl rfl ?_
                  refine jr.goto rfl rfl ?_
                  refine jr.istore rfl (by decide) rfl ?_
                  refine jr.iinc rfl rfl (by decide) rfl ?_
                  refine jr.goto rfl rfl ?_
                  refine jr.pick [0, 1, 2, 3, 4, 5, 6, 7] rfl rfl ?_
                  exact ih (nM - 1) (by omega) (g + 1) g o c b a k (by omega) (by omega) (by omega) (by omega) (by omega) (by omega) (by omega) (by omega) (by rw [gL_s (by omega)]; first | (rw [if_pos (by omega)]; done) | (rw [if_neg (by omega)]; exact hy1)) (by omega) (by omega) (by omega) (by omega) (by omega) (by omega)
theorem r_gathering_x {A : Nat → Option (Nat × (Nat → Int32))} {Q : Option Value → jm → Prop} {M : jm} (hI_M : RI M) (hH_M : RH M) (hS_M : RF M) {k : Int} (h_k : (-2147483648) ≤ k ∧ k ≤ 2147483647) {a : Int} (h_a : (-9223372036854775808) ≤ a ∧ a ≤ 9223372036854775807) {b : Int} (h_b : (-9223372036854775808) ≤ b ∧ b ≤ 9223372036854775807) {c : Int} (h_c : (-9223372036854775808) ≤ c ∧ c ≤ 9223372036854775807) {o : Int} (h_o : (-2147483648) ≤ o ∧ o ≤ 2147483647) (q : ∀ (r : Int), (-1) ≤ r ∧ r ≤ 7 → (r = -1 ∨ (0 ≤ r ∧ M 606 r ≠ 0 ∧ M 607 r = k)) → r = gL M k a b c o 8 → Q (some (.int (Int32.ofInt r))) M) : jc A 1 288 [.ref (598), .int (Int32.ofInt (k)), .long (Int64.ofInt (a)), .long (Int64.ofInt (b)), .long (Int64.ofInt (c)), .int (Int32.ofInt (o))] M Q := by
  refine jc_of (m := xm_288) rfl (Nat.le_of_ble_eq_true rfl) rfl ?_
  refine jr.iconst rfl ?_
  refine jr.istore rfl (by decide) rfl ?_
  refine jr.iconst rfl ?_
  refine jr.istore rfl (by decide) rfl ?_
  refine jr.pick [0, 1, 7, 6, 5, 4, 3, 2] rfl rfl ?_
  exact r_gathering_L6_x hI_M hH_M hS_M q 8 0 (-1) o c b a k (by omega) (by omega) (by omega) (by omega) (by omega) (by omega) (by omega) (by omega) rfl (by omega) (by omega) (by omega) (by omega) (by omega) (by omega)
theorem r_freeGathering_L5_x {A : Nat → Option (Nat × (Nat → Int32))} {Q : Option Value → jm → Prop} {M : jm} (hI_M : RI M) (hH_M : RH M) (hS_M : RF M) (q : ∀ (r : Int), (-1) ≤ r ∧ r ≤ 7 → r = gE M 8 0 → Q (some (.int (Int32.ofInt r))) M) : ∀ (nM : Nat) (g : Int) (f : Int), (-1) ≤ g ∧ g ≤ 7 → (-1) ≤ f ∧ f ≤ 7 → f = gE M (8 - (g + 1)).toNat (g + 1) → g + 1 ≤ nM → jr A 0 xm_289 5 [(2, .int (Int32.ofInt (g))), (1, .int (Int32.ofInt (f))), (0, .ref (598))] [] M Q := by
  intro nM
  induction nM using Nat.strongRecOn with
  | ind nM ih =>
    intro g f h_g h_f hy0 hm
    refine jr.iload_n rfl rfl ?_
    refine jr.if_lt rfl rfl (by omega) (fun h6 => ?_) (fun h6 => ?_)
    · refine jr.iload_n rfl rfl ?_
      exact jr.ireturn rfl rfl rfl (q _ (by omega) (by have h9 := hy0; rw [show (8 - (g + 1)).toNat = 8 from by omega, show g + 1 = 0 from by omega] at h9; exact h9))
    · refine jr.aload_n rfl rfl ?_
      refine jr.getf (i := 17) (v := .ref 606) rfl rfl (by decide) rfl (by decide) rfl rfl rfl rfl ?_
      refine jr.iload_n rfl rfl ?_
      obtain ⟨v1, e1⟩ : ∃ z, M 606 g = z := ⟨_, rfl⟩
      have b1 : 0 ≤ v1 ∧ v1 ≤ 1 := by rw [← e1]; exact (by have q := hI_M 606 g (by decide); rw [xri_row rfl rfl] at q; exact q)
      refine jr.zald (i := g) (x := v1) rfl (by decide) rfl (by decide) (by omega) (by omega) e1 ?_
      refine jr.if_eq rfl rfl (by omega) (fun h15 => ?_) (fun h15 => ?_)
      · refine jr.iload_n rfl rfl ?_
        refine jr.istore_n rfl (by decide) rfl ?_
        refine jr.iinc rfl rfl (by decide) rfl ?_
        refine jr.goto rfl rfl ?_
        refine jr.pick [0, 1, 2] rfl rfl ?_
        exact ih (nM - 1) (by omega) (g + (-1)) g (by omega) (by omega) (by rw [show g + -1 + 1 = g from by omega, gE_s (by omega)]; first | (rw [if_pos (by omega)]; done) | (rw [if_neg (by omega)]; exact hy0)) (by omega)
      · refine jr.iload_n rfl rfl ?_
        refine jr.goto rfl rfl ?_
        refine jr.istore_n rfl (by decide) rfl ?_
        refine jr.iinc rfl rfl (by decide) rfl ?_
        refine jr.goto rfl rfl ?_
        refine jr.pick [0, 1, 2] rfl rfl ?_
        exact ih (nM - 1) (by omega) (g + (-1)) f (by omega) (by omega) (by rw [show g + -1 + 1 = g from by omega, gE_s (by omega)]; first | (rw [if_pos (by omega)]; done) | (rw [if_neg (by omega)]; exact hy0)) (by omega)
theorem r_freeGathering_x {A : Nat → Option (Nat × (Nat → Int32))} {Q : Option Value → jm → Prop} {M : jm} (hI_M : RI M) (hH_M : RH M) (hS_M : RF M) (q : ∀ (r : Int), (-1) ≤ r ∧ r ≤ 7 → r = gE M 8 0 → Q (some (.int (Int32.ofInt r))) M) : jc A 1 289 [.ref (598)] M Q := by
  refine jc_of (m := xm_289) rfl (Nat.le_of_ble_eq_true rfl) rfl ?_
  refine jr.iconst rfl ?_
  refine jr.istore_n rfl (by decide) rfl ?_
  refine jr.bipush rfl (by decide) ?_
  refine jr.istore_n rfl (by decide) rfl ?_
  refine jr.pick [0, 1, 2] rfl rfl ?_
  exact r_freeGathering_L5_x hI_M hH_M hS_M q 8 7 (-1) (by omega) (by omega) rfl (by omega)
