section
/-! ===== the reference: pieces, exactly ===== -/
theorem r_net_L2_x {A : Nat → Option (Nat × (Nat → Int32))} {Q : Option Value → jm → Prop} {f : Int → Int} {N C : Int} {M : jm} (hI_M : RI M) (hH_M : RH M) (hS_M : RF M) (q : ∀ (r : Int), (-1) ≤ r ∧ r ≤ 11 → (r = -1 ∨ (0 ≤ r ∧ r < M 598 6 ∧ (M 603 r = 2 ∧ M 604 r ≤ 380 ∨ M 603 r = 3 ∧ M 604 r ≤ 376))) → (r = -1 → (∀ j : Int, 0 ≤ j → j < M 598 6 → M 603 j ≠ 2 ∧ M 603 j ≠ 3)) → (∀ j : Int, 0 ≤ j → j < r → M 603 j ≠ 2 ∧ M 603 j ≠ 3) → r = ntf f N C → Q (some (.int (Int32.ofInt r))) M) : ∀ (nM : Nat) (h : Int), 0 ≤ h ∧ h ≤ 12 → h ≤ M 598 6 → (∀ j : Int, 0 ≤ j → j < h → M 603 j ≠ 2 ∧ M 603 j ≠ 3) → HT M f N C → ntf f N C = nxN f N (C - h).toNat h → 12 - h ≤ nM → jr A 0 xm_286 2 [(1, .int (Int32.ofInt (h))), (0, .ref (598))] [] M Q := by
  intro nM
  induction nM using Nat.strongRecOn with
  | ind nM ih =>
    intro h h_h hy0 hy1 hy2 hy3 hm
    have rt := RH.two hH_M h
    refine jr.iload_n rfl rfl ?_
    refine jr.aload_n rfl rfl ?_
    obtain ⟨v1, e1⟩ : ∃ z, M 598 6 = z := ⟨_, rfl⟩
    have b1 : 0 ≤ v1 ∧ v1 ≤ 12 := by rw [← e1]; exact hI_M 598 6 (Nat.le_of_ble_eq_true rfl)
    refine jr.getf (i := 6) (x := v1) (v := .int (Int32.ofInt (v1))) rfl rfl (nlt rfl) rfl (nlt rfl) rfl rfl e1 rfl ?_
    refine jr.icmp_ge rfl rfl (by first | (refine rgb (by assumption) ?_; exact rfl) | omega) (by first | (refine rgb (by assumption) ?_; exact rfl) | omega) (fun h7 => ?_) (fun h7 => ?_)
    · refine jr.iload_n rfl rfl ?_
      refine jr.aload_n rfl rfl ?_
      refine jr.getf (i := 6) (x := v1) (v := .int (Int32.ofInt (v1))) rfl rfl (nlt rfl) rfl (nlt rfl) rfl rfl e1 rfl ?_
      refine jr.icmp_ge rfl rfl (by first | (refine rgb (by assumption) ?_; exact rfl) | omega) (by first | (refine rgb (by assumption) ?_; exact rfl) | omega) (fun h41 => ?_) (fun h41 => ?_)
      · refine jr.iconst rfl ?_
        exact jr.ireturn rfl rfl rfl (q _ (by first | exact rgq rfl | omega) (by omega) (fun _ j j0 j1 => hy1 j j0 (by omega)) (fun j j0 j1 => hy1 j j0 (by omega)) (by rw [hy3, nxN_e (by have h9 := hy2.1; omega)]))
      · refine jr.iload_n rfl rfl ?_
        refine jr.goto rfl rfl ?_
        exact jr.ireturn rfl rfl rfl (q _ (by omega) (by omega) (fun q => absurd q (by omega)) (fun j j0 j1 => hy1 j j0 (by omega)) (by have hh := HT.f hy2 (x := h) (by have h9 := hy2.1; omega); rw [hy3, nxN_s (by have h9 := hy2.1; omega), if_pos (by omega)]))
    · refine jr.aload_n rfl rfl ?_
      refine jr.getf (i := 7) (v := .ref 603) rfl rfl (nlt rfl) rfl (nlt rfl) rfl rfl rfl rfl ?_
      refine jr.iload_n rfl rfl ?_
      obtain ⟨v2, e2⟩ : ∃ z, M 603 h = z := ⟨_, rfl⟩
      have b2 : 0 ≤ v2 ∧ v2 ≤ 11 := by rw [← e2]; exact (by have q := hI_M 603 h (Nat.le_of_ble_eq_true rfl); rw [xri_row rfl rfl] at q; exact q)
      refine jr.iald (i := h) (x := v2) rfl (nlt rfl) rfl (Nat.le_of_ble_eq_true rfl) (by omega) (by omega) e2 ?_
      refine jr.iconst rfl ?_
      refine jr.icmp_eq rfl rfl (by first | (refine rgb (by assumption) ?_; exact rfl) | omega) (rgl rfl) (fun h17 => ?_) (fun h17 => ?_)
      · refine jr.iload_n rfl rfl ?_
        refine jr.aload_n rfl rfl ?_
        refine jr.getf (i := 6) (x := v1) (v := .int (Int32.ofInt (v1))) rfl rfl (nlt rfl) rfl (nlt rfl) rfl rfl e1 rfl ?_
        refine jr.icmp_ge rfl rfl (by first | (refine rgb (by assumption) ?_; exact rfl) | omega) (by first | (refine rgb (by assumption) ?_; exact rfl) | omega) (fun h41 => ?_) (fun h41 => ?_)
        · refine jr.iconst rfl ?_
          exact jr.ireturn rfl rfl rfl (q _ (by first | exact rgq rfl | omega) (by omega) (fun _ j j0 j1 => hy1 j j0 (by omega)) (fun j j0 j1 => hy1 j j0 (by omega)) (by rw [hy3, nxN_e (by have h9 := hy2.1; omega)]))
        · refine jr.iload_n rfl rfl ?_
          refine jr.goto rfl rfl ?_
          exact jr.ireturn rfl rfl rfl (q _ (by omega) (by omega) (fun q => absurd q (by omega)) (fun j j0 j1 => hy1 j j0 (by omega)) (by have hh := HT.f hy2 (x := h) (by have h9 := hy2.1; omega); rw [hy3, nxN_s (by have h9 := hy2.1; omega), if_pos (by omega)]))
      · refine jr.aload_n rfl rfl ?_
        refine jr.getf (i := 7) (v := .ref 603) rfl rfl (nlt rfl) rfl (nlt rfl) rfl rfl rfl rfl ?_
        refine jr.iload_n rfl rfl ?_
        refine jr.iald (i := h) (x := v2) rfl (nlt rfl) rfl (Nat.le_of_ble_eq_true rfl) (by omega) (by omega) e2 ?_
        refine jr.iconst rfl ?_
        refine jr.icmp_eq rfl rfl (by first | (refine rgb (by assumption) ?_; exact rfl) | omega) (rgl rfl) (fun h27 => ?_) (fun h27 => ?_)
        · refine jr.iload_n rfl rfl ?_
          refine jr.aload_n rfl rfl ?_
          refine jr.getf (i := 6) (x := v1) (v := .int (Int32.ofInt (v1))) rfl rfl (nlt rfl) rfl (nlt rfl) rfl rfl e1 rfl ?_
          refine jr.icmp_ge rfl rfl (by first | (refine rgb (by assumption) ?_; exact rfl) | omega) (by first | (refine rgb (by assumption) ?_; exact rfl) | omega) (fun h41 => ?_) (fun h41 => ?_)
          · refine jr.iconst rfl ?_
            exact jr.ireturn rfl rfl rfl (q _ (by first | exact rgq rfl | omega) (by omega) (fun _ j j0 j1 => hy1 j j0 (by omega)) (fun j j0 j1 => hy1 j j0 (by omega)) (by rw [hy3, nxN_e (by have h9 := hy2.1; omega)]))
          · refine jr.iload_n rfl rfl ?_
            refine jr.goto rfl rfl ?_
            exact jr.ireturn rfl rfl rfl (q _ (by omega) (by omega) (fun q => absurd q (by omega)) (fun j j0 j1 => hy1 j j0 (by omega)) (by have hh := HT.f hy2 (x := h) (by have h9 := hy2.1; omega); rw [hy3, nxN_s (by have h9 := hy2.1; omega), if_pos (by omega)]))
        · refine jr.iinc (ls' := [_, _]) rfl rfl (nlt rfl) rfl ?_
          refine jr.goto rfl rfl ?_
          refine jr.pick (ls := [_, _]) [0, 1] rfl rfl ?_
          exact ih (nM - 1) (by omega) (h + 1) (by omega) (by omega) (fun j j0 j1 => by by_cases q : j = h; (subst q; omega); exact hy1 j j0 (by omega)) hy2 (by have hh := HT.f hy2 (x := h) (by have h9 := hy2.1; omega); rw [hy3, nxN_s (by have h9 := hy2.1; omega), if_neg (by omega)]) (by omega)
theorem r_net_x {A : Nat → Option (Nat × (Nat → Int32))} {Q : Option Value → jm → Prop} {f : Int → Int} {N C : Int} {M : jm} (hI_M : RI M) (hH_M : RH M) (hS_M : RF M) (p0 : HT M f N C) (q : ∀ (r : Int), (-1) ≤ r ∧ r ≤ 11 → (r = -1 ∨ (0 ≤ r ∧ r < M 598 6 ∧ (M 603 r = 2 ∧ M 604 r ≤ 380 ∨ M 603 r = 3 ∧ M 604 r ≤ 376))) → (r = -1 → (∀ j : Int, 0 ≤ j → j < M 598 6 → M 603 j ≠ 2 ∧ M 603 j ≠ 3)) → (∀ j : Int, 0 ≤ j → j < r → M 603 j ≠ 2 ∧ M 603 j ≠ 3) → r = ntf f N C → Q (some (.int (Int32.ofInt r))) M) : jc A 1 286 [.ref (598)] M Q := by
  have bh : (0 : Int) ≤ M 598 6 ∧ M 598 6 ≤ 12 := hI_M 598 6 (Nat.le_of_ble_eq_true rfl)
  refine jc_of (m := xm_286) rfl (Nat.le_of_ble_eq_true rfl) rfl ?_
  refine jr.iconst rfl ?_
  refine jr.istore_n (ls' := [_, _]) rfl (nlt rfl) rfl ?_
  refine jr.pick (ls := [_, _]) [0, 1] rfl rfl ?_
  exact r_net_L2_x hI_M hH_M hS_M q 12 0 (by omega) (by omega) (fun j j0 j1 => by omega) p0 (by unfold ntf; rw [show C - 0 = C from by omega]) (by omega)
theorem r_piece_L67_x {A : Nat → Option (Nat × (Nat → Int32))} {Q : Option Value → jm → Prop} {f : Int → Int} {N C : Int} {M : jm} (hI_M : RI M) (hH_M : RH M) (hS_M : RF M) (q : ∀ (r : Int), (-1) ≤ r ∧ r ≤ 11 → (r = -1 ∨ (0 ≤ r ∧ r < M 598 6 ∧ (M 603 r = 2 ∧ M 604 r ≤ 380 ∨ M 603 r = 6 ∧ M 604 r ≤ 392 ∧ 1 ≤ r))) → (r ≠ -1 → (∃ t : Int, 0 ≤ t ∧ t < M 598 6 ∧ (M 603 t = 2 ∨ M 603 t = 3) ∧ (∀ j : Int, 0 ≤ j → j < t → M 603 j ≠ 2 ∧ M 603 j ≠ 3) ∧ ((M 603 r = 2 ∧ t = r) ∨ (M 603 r = 6 ∧ M 603 t = 3)))) → r = pcf f N C → Q (some (.int (Int32.ofInt r))) M) : ∀ (nM : Nat) (h : Int) (x : Int), 1 ≤ h ∧ h ≤ 13 → 0 ≤ x ∧ x ≤ 23 → (∃ t : Int, 0 ≤ t ∧ t < M 598 6 ∧ M 603 t = 3 ∧ (∀ j : Int, 0 ≤ j → j < t → M 603 j ≠ 2 ∧ M 603 j ≠ 3)) → HT M f N C → rf M x = f → pcf f N C = (if kA f N C (nxI f N (C - h).toNat h) = 6 then nxI f N (C - h).toNat h else -1) → 13 - h ≤ nM → jr A 4 xm_287 67 [(2, .int (Int32.ofInt (h))), (1, .int (Int32.ofInt (x))), (0, .ref (598))] [] M Q := by
  intro nM
  induction nM using Nat.strongRecOn with
  | ind nM ih =>
    intro h x h_h h_x hy0 hy1 hy2 hy3 hm
    have rt := RH.part hH_M h
    refine jr.iload_n rfl rfl ?_
    refine jr.aload_n rfl rfl ?_
    obtain ⟨v1, e1⟩ : ∃ z, M 598 6 = z := ⟨_, rfl⟩
    have b1 : 0 ≤ v1 ∧ v1 ≤ 12 := by rw [← e1]; exact hI_M 598 6 (Nat.le_of_ble_eq_true rfl)
    refine jr.getf (i := 6) (x := v1) (v := .int (Int32.ofInt (v1))) rfl rfl (nlt rfl) rfl (nlt rfl) rfl rfl e1 rfl ?_
    refine jr.icmp_ge rfl rfl (by first | (refine rgb (by assumption) ?_; exact rfl) | omega) (by first | (refine rgb (by assumption) ?_; exact rfl) | omega) (fun h72 => ?_) (fun h72 => ?_)
    · refine jr.iload_n rfl rfl ?_
      refine jr.aload_n rfl rfl ?_
      refine jr.getf (i := 6) (x := v1) (v := .int (Int32.ofInt (v1))) rfl rfl (nlt rfl) rfl (nlt rfl) rfl rfl e1 rfl ?_
      refine jr.icmp_ge rfl rfl (by first | (refine rgb (by assumption) ?_; exact rfl) | omega) (by first | (refine rgb (by assumption) ?_; exact rfl) | omega) (fun h106 => ?_) (fun h106 => ?_)
      · refine jr.iconst rfl ?_
        exact jr.ireturn rfl rfl rfl (q _ (by first | exact rgq rfl | omega) (by omega) (fun q => by first | exact absurd rfl q | (obtain ⟨t, z1, z2, z3, z4⟩ := hy0; exact ⟨t, z1, z2, Or.inr z3, z4, Or.inr ⟨by omega, z3⟩⟩) | exact ⟨r1, by omega, by omega, by omega, w1_2, Or.inl ⟨by omega, rfl⟩⟩) (by first | (exfalso; omega) | (rw [hy3, nxI_e (by have h9 := hy1.1; omega)]; split <;> rfl) | (have hc : 0 ≤ h ∧ h < C := (by have h9 := hy1.1; omega); have hh := HT.f hy1 hc; have e : nxI f N (C - h).toNat h = h := (by rw [nxI_s hc.2, if_neg (by omega)]); rw [hy3, e, kA_i hc, if_neg (by omega)])))
      · refine jr.aload_n rfl rfl ?_
        refine jr.getf (i := 7) (v := .ref 603) rfl rfl (nlt rfl) rfl (nlt rfl) rfl rfl rfl rfl ?_
        refine jr.iload_n rfl rfl ?_
        obtain ⟨v2, e2⟩ : ∃ z, M 603 h = z := ⟨_, rfl⟩
        have b2 : 0 ≤ v2 ∧ v2 ≤ 11 := by rw [← e2]; exact (by have q := hI_M 603 h (Nat.le_of_ble_eq_true rfl); rw [xri_row rfl rfl] at q; exact q)
        refine jr.iald (i := h) (x := v2) rfl (nlt rfl) rfl (Nat.le_of_ble_eq_true rfl) (by omega) (by omega) e2 ?_
        refine jr.bipush rfl (jbp _ (nlt rfl)) ?_
        refine jr.icmp_ne rfl rfl (by first | (refine rgb (by assumption) ?_; exact rfl) | omega) (rgl rfl) (fun h117 => ?_) (fun h117 => ?_)
        · refine jr.iconst rfl ?_
          exact jr.ireturn rfl rfl rfl (q _ (by first | exact rgq rfl | omega) (by omega) (fun q => by first | exact absurd rfl q | (obtain ⟨t, z1, z2, z3, z4⟩ := hy0; exact ⟨t, z1, z2, Or.inr z3, z4, Or.inr ⟨by omega, z3⟩⟩) | exact ⟨r1, by omega, by omega, by omega, w1_2, Or.inl ⟨by omega, rfl⟩⟩) (by first | (exfalso; omega) | (rw [hy3, nxI_e (by have h9 := hy1.1; omega)]; split <;> rfl) | (have hc : 0 ≤ h ∧ h < C := (by have h9 := hy1.1; omega); have hh := HT.f hy1 hc; have e : nxI f N (C - h).toNat h = h := (by rw [nxI_s hc.2, if_neg (by omega)]); rw [hy3, e, kA_i hc, if_neg (by omega)])))
        · refine jr.iload_n rfl rfl ?_
          refine jr.goto rfl rfl ?_
          exact jr.ireturn rfl rfl rfl (q _ (by omega) (by omega) (fun q => by first | exact absurd rfl q | (obtain ⟨t, z1, z2, z3, z4⟩ := hy0; exact ⟨t, z1, z2, Or.inr z3, z4, Or.inr ⟨by omega, z3⟩⟩) | exact ⟨r1, by omega, by omega, by omega, w1_2, Or.inl ⟨by omega, rfl⟩⟩) (by have hc : 0 ≤ h ∧ h < C := (by have h9 := hy1.1; omega); have hh := HT.f hy1 hc; have e : nxI f N (C - h).toNat h = h := (by rw [nxI_s hc.2, if_neg (by omega)]); rw [hy3, e, kA_i hc, if_pos (by omega)]))
    · refine jr.aload_n rfl rfl ?_
      refine jr.getf (i := 7) (v := .ref 603) rfl rfl (nlt rfl) rfl (nlt rfl) rfl rfl rfl rfl ?_
      refine jr.iload_n rfl rfl ?_
      obtain ⟨v3, e3⟩ : ∃ z, M 603 h = z := ⟨_, rfl⟩
      have b3 : 0 ≤ v3 ∧ v3 ≤ 11 := by rw [← e3]; exact (by have q := hI_M 603 h (Nat.le_of_ble_eq_true rfl); rw [xri_row rfl rfl] at q; exact q)
      refine jr.iald (i := h) (x := v3) rfl (nlt rfl) rfl (Nat.le_of_ble_eq_true rfl) (by omega) (by omega) e3 ?_
      refine jr.iconst rfl ?_
      refine jr.icmp_eq rfl rfl (by first | (refine rgb (by assumption) ?_; exact rfl) | omega) (rgl rfl) (fun h82 => ?_) (fun h82 => ?_)
      · refine jr.iinc (ls' := [_, _, _]) rfl rfl (nlt rfl) rfl ?_
        refine jr.goto rfl rfl ?_
        refine jr.pick (ls := [_, _, _]) [0, 1, 2] rfl rfl ?_
        exact ih (nM - 1) (by omega) (h + 1) x (by omega) (by omega) hy0 hy1 hy2 (by have hc : 0 ≤ h ∧ h < C := (by have h9 := hy1.1; omega); have hh := HT.f hy1 hc; have e : nxI f N (C - h).toNat h = nxI f N (C - (h + 1)).toNat (h + 1) := (by rw [nxI_s hc.2, if_pos (by omega)]); rw [hy3, e]) (by omega)
      · refine jr.aload_n rfl rfl ?_
        refine jr.getf (i := 7) (v := .ref 603) rfl rfl (nlt rfl) rfl (nlt rfl) rfl rfl rfl rfl ?_
        refine jr.iload_n rfl rfl ?_
        refine jr.iald (i := h) (x := v3) rfl (nlt rfl) rfl (Nat.le_of_ble_eq_true rfl) (by omega) (by omega) e3 ?_
        refine jr.iconst rfl ?_
        refine jr.icmp_ne rfl rfl (by first | (refine rgb (by assumption) ?_; exact rfl) | omega) (rgl rfl) (fun h92 => ?_) (fun h92 => ?_)
        · refine jr.iload_n rfl rfl ?_
          refine jr.aload_n rfl rfl ?_
          refine jr.getf (i := 6) (x := v1) (v := .int (Int32.ofInt (v1))) rfl rfl (nlt rfl) rfl (nlt rfl) rfl rfl e1 rfl ?_
          refine jr.icmp_ge rfl rfl (by first | (refine rgb (by assumption) ?_; exact rfl) | omega) (by first | (refine rgb (by assumption) ?_; exact rfl) | omega) (fun h106 => ?_) (fun h106 => ?_)
          · refine jr.iconst rfl ?_
            exact jr.ireturn rfl rfl rfl (q _ (by first | exact rgq rfl | omega) (by omega) (fun q => by first | exact absurd rfl q | (obtain ⟨t, z1, z2, z3, z4⟩ := hy0; exact ⟨t, z1, z2, Or.inr z3, z4, Or.inr ⟨by omega, z3⟩⟩) | exact ⟨r1, by omega, by omega, by omega, w1_2, Or.inl ⟨by omega, rfl⟩⟩) (by first | (exfalso; omega) | (rw [hy3, nxI_e (by have h9 := hy1.1; omega)]; split <;> rfl) | (have hc : 0 ≤ h ∧ h < C := (by have h9 := hy1.1; omega); have hh := HT.f hy1 hc; have e : nxI f N (C - h).toNat h = h := (by rw [nxI_s hc.2, if_neg (by omega)]); rw [hy3, e, kA_i hc, if_neg (by omega)])))
          · refine jr.aload_n rfl rfl ?_
            refine jr.getf (i := 7) (v := .ref 603) rfl rfl (nlt rfl) rfl (nlt rfl) rfl rfl rfl rfl ?_
            refine jr.iload_n rfl rfl ?_
            refine jr.iald (i := h) (x := v3) rfl (nlt rfl) rfl (Nat.le_of_ble_eq_true rfl) (by omega) (by omega) e3 ?_
            refine jr.bipush rfl (jbp _ (nlt rfl)) ?_
            refine jr.icmp_ne rfl rfl (by first | (refine rgb (by assumption) ?_; exact rfl) | omega) (rgl rfl) (fun h117 => ?_) (fun h117 => ?_)
            · refine jr.iconst rfl ?_
              exact jr.ireturn rfl rfl rfl (q _ (by first | exact rgq rfl | omega) (by omega) (fun q => by first | exact absurd rfl q | (obtain ⟨t, z1, z2, z3, z4⟩ := hy0; exact ⟨t, z1, z2, Or.inr z3, z4, Or.inr ⟨by omega, z3⟩⟩) | exact ⟨r1, by omega, by omega, by omega, w1_2, Or.inl ⟨by omega, rfl⟩⟩) (by first | (exfalso; omega) | (rw [hy3, nxI_e (by have h9 := hy1.1; omega)]; split <;> rfl) | (have hc : 0 ≤ h ∧ h < C := (by have h9 := hy1.1; omega); have hh := HT.f hy1 hc; have e : nxI f N (C - h).toNat h = h := (by rw [nxI_s hc.2, if_neg (by omega)]); rw [hy3, e, kA_i hc, if_neg (by omega)])))
            · refine jr.iload_n rfl rfl ?_
              refine jr.goto rfl rfl ?_
              exact jr.ireturn rfl rfl rfl (q _ (by omega) (by omega) (fun q => by first | exact absurd rfl q | (obtain ⟨t, z1, z2, z3, z4⟩ := hy0; exact ⟨t, z1, z2, Or.inr z3, z4, Or.inr ⟨by omega, z3⟩⟩) | exact ⟨r1, by omega, by omega, by omega, w1_2, Or.inl ⟨by omega, rfl⟩⟩) (by have hc : 0 ≤ h ∧ h < C := (by have h9 := hy1.1; omega); have hh := HT.f hy1 hc; have e : nxI f N (C - h).toNat h = h := (by rw [nxI_s hc.2, if_neg (by omega)]); rw [hy3, e, kA_i hc, if_pos (by omega)]))
        · refine jr.iinc (ls' := [_, _, _]) rfl rfl (nlt rfl) rfl ?_
          refine jr.goto rfl rfl ?_
          refine jr.pick (ls := [_, _, _]) [0, 1, 2] rfl rfl ?_
          exact ih (nM - 1) (by omega) (h + 1) x (by omega) (by omega) hy0 hy1 hy2 (by have hc : 0 ≤ h ∧ h < C := (by have h9 := hy1.1; omega); have hh := HT.f hy1 hc; have e : nxI f N (C - h).toNat h = nxI f N (C - (h + 1)).toNat (h + 1) := (by rw [nxI_s hc.2, if_pos (by omega)]); rw [hy3, e]) (by omega)
theorem r_piece_x {A : Nat → Option (Nat × (Nat → Int32))} {Q : Option Value → jm → Prop} {f : Int → Int} {N C : Int} {M : jm} (hI_M : RI M) (hH_M : RH M) (hS_M : RF M) {x : Int} (h_x : 0 ≤ x ∧ x ≤ 23) (p0 : HT M f N C) (p1 : rf M x = f) (q : ∀ (r : Int), (-1) ≤ r ∧ r ≤ 11 → (r = -1 ∨ (0 ≤ r ∧ r < M 598 6 ∧ (M 603 r = 2 ∧ M 604 r ≤ 380 ∨ M 603 r = 6 ∧ M 604 r ≤ 392 ∧ 1 ≤ r))) → (r ≠ -1 → (∃ t : Int, 0 ≤ t ∧ t < M 598 6 ∧ (M 603 t = 2 ∨ M 603 t = 3) ∧ (∀ j : Int, 0 ≤ j → j < t → M 603 j ≠ 2 ∧ M 603 j ≠ 3) ∧ ((M 603 r = 2 ∧ t = r) ∨ (M 603 r = 6 ∧ M 603 t = 3)))) → r = pcf f N C → Q (some (.int (Int32.ofInt r))) M) : jc A 5 287 [.ref (598), .int (Int32.ofInt (x))] M Q := by
  refine jc_of (m := xm_287) rfl (Nat.le_of_ble_eq_true rfl) rfl ?_
  refine jr.aload_n rfl rfl ?_
  refine jr_v rfl rfl (Or.inl rfl) rfl rfl (nlt rfl) rfl ⟨rfl, Nat.le_of_ble_eq_true rfl, Nat.le_of_ble_eq_true rfl⟩ rfl (jc.deep (r_net_x hI_M hH_M hS_M   p0 (fun r1 z1 w1_0 w1_1 w1_2 w1_3 => ?_)) (Nat.le_of_ble_eq_true rfl))
  refine jr.istore_n (ls' := [_, _, _]) rfl (nlt rfl) rfl ?_
  refine jr.iload_n rfl rfl ?_
  refine jr.iconst rfl ?_
  refine jr.icmp_ne rfl rfl (by first | (refine rgb (by assumption) ?_; exact rfl) | omega) (rgl rfl) (fun h7 => ?_) (fun h7 => ?_)
  · refine jr.aload_n rfl rfl ?_
    refine jr.getf (i := 7) (v := .ref 603) rfl rfl (nlt rfl) rfl (nlt rfl) rfl rfl rfl rfl ?_
    refine jr.iload_n rfl rfl ?_
    obtain ⟨v2, e2⟩ : ∃ z, M 603 r1 = z := ⟨_, rfl⟩
    have b2 : 0 ≤ v2 ∧ v2 ≤ 11 := by rw [← e2]; exact (by have q := hI_M 603 r1 (Nat.le_of_ble_eq_true rfl); rw [xri_row rfl rfl] at q; exact q)
    refine jr.iald (i := r1) (x := v2) rfl (nlt rfl) rfl (Nat.le_of_ble_eq_true rfl) (by omega) (by omega) e2 ?_
    refine jr.iconst rfl ?_
    refine jr.icmp_ne rfl rfl (by first | (refine rgb (by assumption) ?_; exact rfl) | omega) (rgl rfl) (fun h19 => ?_) (fun h19 => ?_)
    · refine jr.iinc (ls' := [_, _, _]) rfl rfl (nlt rfl) rfl ?_
      refine jr.pick (ls := [_, _, _]) [0, 2, 1] rfl rfl ?_
      exact r_piece_L67_x hI_M hH_M hS_M q 13 (r1 + 1) x (by omega) (by omega) ⟨r1, by omega, by omega, by omega, w1_2⟩ p0 p1 (by have h6 := p0.1; have hc : 0 ≤ r1 ∧ r1 < C := (by omega); have hh := HT.f p0 hc; unfold pcf; rw [← w1_3, if_neg (by omega), if_neg (by rw [kA_i hc]; omega)]; rfl) (by omega)
    · refine jr.aload_n rfl rfl ?_
      refine jr.iload_n rfl rfl ?_
      refine jr.aload_n rfl rfl ?_
      refine jr.getf (i := 8) (v := .ref 604) rfl rfl (nlt rfl) rfl (nlt rfl) rfl rfl rfl rfl ?_
      refine jr.iload_n rfl rfl ?_
      obtain ⟨v3, e3⟩ : ∃ z, M 604 r1 = z := ⟨_, rfl⟩
      have b3 : 0 ≤ v3 ∧ v3 ≤ 400 := by rw [← e3]; exact (by have q := hI_M 604 r1 (Nat.le_of_ble_eq_true rfl); rw [xri_row rfl rfl] at q; exact q)
      refine jr.iald (i := r1) (x := v3) rfl (nlt rfl) rfl (Nat.le_of_ble_eq_true rfl) (by omega) (by omega) e3 ?_
      refine jr.iconst rfl ?_
      refine jr_v rfl rfl (Or.inl rfl) rfl rfl (nlt rfl) rfl ⟨rfl, Nat.le_of_ble_eq_true rfl, Nat.le_of_ble_eq_true rfl⟩ rfl (jc.deep (r_ofFour_x hI_M hH_M hS_M  (by omega) (by omega) (by omega)  (fun r4 z4 w4_0 => ?_)) (Nat.le_of_ble_eq_true rfl))
      refine jr.lconst (x := 0) rfl (by decide) ?_
      refine jr.lcmp_gt rfl rfl rfl (by omega) (by omega) (fun h35 => ?_) (fun h35 => ?_)
      · refine jr.iload_n rfl rfl ?_
        refine jr.goto rfl rfl ?_
        exact jr.ireturn rfl rfl rfl (q _ (by omega) (by omega) (fun q => by first | exact absurd rfl q | (obtain ⟨t, z1, z2, z3, z4⟩ := hy0; exact ⟨t, z1, z2, Or.inr z3, z4, Or.inr ⟨by omega, z3⟩⟩) | exact ⟨r1, by omega, by omega, by omega, w1_2, Or.inl ⟨by omega, rfl⟩⟩) (by have h6 := p0.1; have hc : 0 ≤ r1 ∧ r1 < C := (by omega); have hh := HT.f p0 hc; have hk : hX f N r1 = 2 := (by omega); have hka : kA f N C r1 = 2 := (by rw [kA_i hc]; exact hk); have v5 := vA_k (j := 5) hc hk (by decide +kernel); have v4 := vA_k (j := 4) hc hk (by decide +kernel); rw [← hh.2.1, e3] at v5 v4; have o5 : ofs f N C r1 = 8 * r4 := (by unfold ofs; rw [if_pos hka, v5, ← p1, ← w4_0 _]); unfold pcf; rw [← w1_3, if_neg (by omega), if_pos hka]; first | (rw [if_pos (Or.inr (by omega))]; done) | (rw [if_pos (Or.inl (by omega))])))
      · refine jr.aload_n rfl rfl ?_
        refine jr.iload_n rfl rfl ?_
        refine jr.aload_n rfl rfl ?_
        refine jr.getf (i := 8) (v := .ref 604) rfl rfl (nlt rfl) rfl (nlt rfl) rfl rfl rfl rfl ?_
        refine jr.iload_n rfl rfl ?_
        refine jr.iald (i := r1) (x := v3) rfl (nlt rfl) rfl (Nat.le_of_ble_eq_true rfl) (by omega) (by omega) e3 ?_
        refine jr.iconst rfl ?_
        refine jr_v rfl rfl (Or.inl rfl) rfl rfl (nlt rfl) rfl ⟨rfl, Nat.le_of_ble_eq_true rfl, Nat.le_of_ble_eq_true rfl⟩ rfl (jc.deep (r_ofFour_x hI_M hH_M hS_M  (by omega) (by omega) (by omega)  (fun r5 z5 w5_0 => ?_)) (Nat.le_of_ble_eq_true rfl))
        refine jr.lconst (x := 1) rfl (by decide) ?_
        refine jr.land rfl ?_
        have b6 : jl_and r5 1 = r5 % 2 ∧ 0 ≤ jl_and r5 1 ∧ jl_and r5 1 ≤ 1 := ⟨jl_and_1 _, by rw [jl_and_1]; omega⟩
        generalize jl_and r5 1 = v6 at b6 ⊢
        refine jr.lconst (x := 1) rfl (by decide) ?_
        refine jr.lcmp_ne rfl rfl rfl (by omega) (by omega) (fun h54 => ?_) (fun h54 => ?_)
        · refine jr.iconst rfl ?_
          exact jr.ireturn rfl rfl rfl (q _ (by first | exact rgq rfl | omega) (by omega) (fun q => by first | exact absurd rfl q | (obtain ⟨t, z1, z2, z3, z4⟩ := hy0; exact ⟨t, z1, z2, Or.inr z3, z4, Or.inr ⟨by omega, z3⟩⟩) | exact ⟨r1, by omega, by omega, by omega, w1_2, Or.inl ⟨by omega, rfl⟩⟩) (by have h6 := p0.1; have hc : 0 ≤ r1 ∧ r1 < C := (by omega); have hh := HT.f p0 hc; have hk : hX f N r1 = 2 := (by omega); have hka : kA f N C r1 = 2 := (by rw [kA_i hc]; exact hk); have v5 := vA_k (j := 5) hc hk (by decide +kernel); have v4 := vA_k (j := 4) hc hk (by decide +kernel); rw [← hh.2.1, e3] at v5 v4; have o5 : ofs f N C r1 = 8 * r4 := (by unfold ofs; rw [if_pos hka, v5, ← p1, ← w4_0 _]); have m4 : mrf f N C r1 = r5 % 2 := (by unfold mrf; rw [if_pos hka, v4, ← p1, ← w5_0 _]); unfold pcf; rw [← w1_3, if_neg (by omega), if_pos hka]; rw [if_neg (by omega)]))
        · refine jr.iload_n rfl rfl ?_
          refine jr.goto rfl rfl ?_
          exact jr.ireturn rfl rfl rfl (q _ (by omega) (by omega) (fun q => by first | exact absurd rfl q | (obtain ⟨t, z1, z2, z3, z4⟩ := hy0; exact ⟨t, z1, z2, Or.inr z3, z4, Or.inr ⟨by omega, z3⟩⟩) | exact ⟨r1, by omega, by omega, by omega, w1_2, Or.inl ⟨by omega, rfl⟩⟩) (by have h6 := p0.1; have hc : 0 ≤ r1 ∧ r1 < C := (by omega); have hh := HT.f p0 hc; have hk : hX f N r1 = 2 := (by omega); have hka : kA f N C r1 = 2 := (by rw [kA_i hc]; exact hk); have v5 := vA_k (j := 5) hc hk (by decide +kernel); have v4 := vA_k (j := 4) hc hk (by decide +kernel); rw [← hh.2.1, e3] at v5 v4; have o5 : ofs f N C r1 = 8 * r4 := (by unfold ofs; rw [if_pos hka, v5, ← p1, ← w4_0 _]); unfold pcf; rw [← w1_3, if_neg (by omega), if_pos hka]; first | (rw [if_pos (Or.inr (by omega))]; done) | (have m4 : mrf f N C r1 = r5 % 2 := (by unfold mrf; rw [if_pos hka, v4, ← p1, ← w5_0 _]); rw [if_pos (Or.inl (by omega))])))
  · refine jr.iconst rfl ?_
    exact jr.ireturn rfl rfl rfl (q _ (by first | exact rgq rfl | omega) (by omega) (fun q => by first | exact absurd rfl q | (obtain ⟨t, z1, z2, z3, z4⟩ := hy0; exact ⟨t, z1, z2, Or.inr z3, z4, Or.inr ⟨by omega, z3⟩⟩) | exact ⟨r1, by omega, by omega, by omega, w1_2, Or.inl ⟨by omega, rfl⟩⟩) (by unfold pcf; rw [← w1_3, if_pos (by omega)]))
/-! ===== the reference: gatherings, exactly ===== -/
/-- the last gathering of that name below n -/
noncomputable def gL (M : jm) (k a b c o : Int) : Nat → Int
  | 0 => -1
  | n + 1 => if M 606 (n : Int) ≠ 0 ∧ M 607 (n : Int) = k ∧ M 608 (n : Int) = a ∧ M 609 (n : Int) = b ∧ M 610 (n : Int) = c ∧ M 611 (n : Int) = o then (n : Int) else gL M k a b c o n
theorem gL_s {M : jm} {k a b c o i : Int} (h : 0 ≤ i) : gL M k a b c o (i + 1).toNat = if M 606 i ≠ 0 ∧ M 607 i = k ∧ M 608 i = a ∧ M 609 i = b ∧ M 610 i = c ∧ M 611 i = o then i else gL M k a b c o i.toNat := by
  obtain ⟨n, rfl⟩ := Int.eq_ofNat_of_zero_le h
  rw [show ((n : Int) + 1).toNat = n + 1 by omega, show ((n : Int)).toNat = n by omega]
  rfl
noncomputable def gE (M : jm) : Nat → Int → Int
  | 0, _ => -1
  | n + 1, i => if M 606 i = 0 then i else gE M n (i + 1)
theorem gE_s {M : jm} {i : Int} (h : i < 8) : gE M (8 - i).toNat i = if M 606 i = 0 then i else gE M (8 - (i + 1)).toNat (i + 1) := by
  obtain ⟨n, hn⟩ : ∃ n : Nat, i = 7 - n := ⟨(7 - i).toNat, by omega⟩
  subst hn
  rw [show (8 - (7 - (n : Int))).toNat = n + 1 by omega, show (8 - (7 - (n : Int) + 1)).toNat = n by omega]
  rfl
theorem r_gathering_L6_x {A : Nat → Option (Nat × (Nat → Int32))} {Q : Option Value → jm → Prop} {k0 : Int} {a0 : Int} {b0 : Int} {c0 : Int} {o0 : Int} {M : jm} (hI_M : RI M) (hH_M : RH M) (hS_M : RF M) (q : ∀ (r : Int), (-1) ≤ r ∧ r ≤ 7 → (r = -1 ∨ (0 ≤ r ∧ M 606 r ≠ 0 ∧ M 607 r = k0)) → r = gL M k0 a0 b0 c0 o0 8 → Q (some (.int (Int32.ofInt r))) M) : ∀ (nM : Nat) (g : Int) (f : Int) (o : Int) (c : Int) (b : Int) (a : Int) (k : Int), 0 ≤ g ∧ g ≤ 8 → (-1) ≤ f ∧ f ≤ 7 → (-2147483648) ≤ o ∧ o ≤ 2147483647 → (-9223372036854775808) ≤ c ∧ c ≤ 9223372036854775807 → (-9223372036854775808) ≤ b ∧ b ≤ 9223372036854775807 → (-9223372036854775808) ≤ a ∧ a ≤ 9223372036854775807 → (-2147483648) ≤ k ∧ k ≤ 2147483647 → (f = -1 ∨ (0 ≤ f ∧ M 606 f ≠ 0 ∧ M 607 f = k)) → f = gL M k a b c o g.toNat → k = k0 → a = a0 → b = b0 → c = c0 → o = o0 → 8 - g ≤ nM → jr A 0 xm_288 6 [(10, .int (Int32.ofInt (g))), (9, .int (Int32.ofInt (f))), (8, .int (Int32.ofInt (o))), (6, .long (Int64.ofInt (c))), (4, .long (Int64.ofInt (b))), (2, .long (Int64.ofInt (a))), (1, .int (Int32.ofInt (k))), (0, .ref (598))] [] M Q := by
  intro nM
  induction nM using Nat.strongRecOn with
  | ind nM ih =>
    intro g f o c b a k h_g h_f h_o h_c h_b h_a h_k hy0 hy1 hy2 hy3 hy4 hy5 hy6 hm
    subst hy2
    subst hy3
    subst hy4
    subst hy5
    subst hy6
    refine jr.iload rfl rfl ?_
    refine jr.bipush rfl (jbp _ (nlt rfl)) ?_
    refine jr.icmp_ge rfl rfl (by first | (refine rgb (by assumption) ?_; exact rfl) | omega) (rgl rfl) (fun h10 => ?_) (fun h10 => ?_)
    · refine jr.iload rfl rfl ?_
      exact jr.ireturn rfl rfl rfl (q _ (by omega) (by omega) (by have h9 := hy1; rw [show g = 8 from by omega] at h9; exact h9))
    · refine jr.aload_n rfl rfl ?_
      refine jr.getf (i := 17) (v := .ref 606) rfl rfl (nlt rfl) rfl (nlt rfl) rfl rfl rfl rfl ?_
      refine jr.iload rfl rfl ?_
      obtain ⟨v1, e1⟩ : ∃ z, M 606 g = z := ⟨_, rfl⟩
      have b1 : 0 ≤ v1 ∧ v1 ≤ 1 := by rw [← e1]; exact (by have q := hI_M 606 g (Nat.le_of_ble_eq_true rfl); rw [xri_row rfl rfl] at q; exact q)
      refine jr.zald (i := g) (x := v1) rfl (nlt rfl) rfl (Nat.le_of_ble_eq_true rfl) (by omega) (by omega) e1 ?_
      refine jr.if_eq rfl rfl (by first | (refine rgb (by assumption) ?_; exact rfl) | omega) (fun h20 => ?_) (fun h20 => ?_)
      · refine jr.iload rfl rfl ?_
        refine jr.istore (ls' := [_, _, _, _, _, _, _, _]) rfl (nlt rfl) rfl ?_
        refine jr.iinc (ls' := [_, _, _, _, _, _, _, _]) rfl rfl (nlt rfl) rfl ?_
        refine jr.goto rfl rfl ?_
        refine jr.pick (ls := [_, _, _, _, _, _, _, _]) [0, 1, 2, 3, 4, 5, 6, 7] rfl rfl ?_
        exact ih (nM - 1) (by omega) (g + 1) f o c b a k (by omega) (by omega) (by omega) (by omega) (by omega) (by omega) (by omega) (by omega) (by rw [gL_s (by omega)]; first | (rw [if_pos (by omega)]; done) | (rw [if_neg (by omega)]; exact hy1)) (by omega) (by omega) (by omega) (by omega) (by omega) (by omega)
      · refine jr.aload_n rfl rfl ?_
        refine jr.getf (i := 18) (v := .ref 607) rfl rfl (nlt rfl) rfl (nlt rfl) rfl rfl rfl rfl ?_
        refine jr.iload rfl rfl ?_
        obtain ⟨v2, e2⟩ : ∃ z, M 607 g = z := ⟨_, rfl⟩
        have b2 : 0 ≤ v2 ∧ v2 ≤ 11 := by rw [← e2]; exact (by have q := hI_M 607 g (Nat.le_of_ble_eq_true rfl); rw [xri_row rfl rfl] at q; exact q)
        refine jr.iald (i := g) (x := v2) rfl (nlt rfl) rfl (Nat.le_of_ble_eq_true rfl) (by omega) (by omega) e2 ?_
        refine jr.iload_n rfl rfl ?_
        refine jr.icmp_ne rfl rfl (by first | (refine rgb (by assumption) ?_; exact rfl) | omega) (by first | (refine rgb (by assumption) ?_; exact rfl) | omega) (fun h31 => ?_) (fun h31 => ?_)
        · refine jr.iload rfl rfl ?_
          refine jr.istore (ls' := [_, _, _, _, _, _, _, _]) rfl (nlt rfl) rfl ?_
          refine jr.iinc (ls' := [_, _, _, _, _, _, _, _]) rfl rfl (nlt rfl) rfl ?_
          refine jr.goto rfl rfl ?_
          refine jr.pick (ls := [_, _, _, _, _, _, _, _]) [0, 1, 2, 3, 4, 5, 6, 7] rfl rfl ?_
          exact ih (nM - 1) (by omega) (g + 1) f o c b a k (by omega) (by omega) (by omega) (by omega) (by omega) (by omega) (by omega) (by omega) (by rw [gL_s (by omega)]; first | (rw [if_pos (by omega)]; done) | (rw [if_neg (by omega)]; exact hy1)) (by omega) (by omega) (by omega) (by omega) (by omega) (by omega)
        · refine jr.aload_n rfl rfl ?_
          refine jr.getf (i := 19) (v := .ref 608) rfl rfl (nlt rfl) rfl (nlt rfl) rfl rfl rfl rfl ?_
          refine jr.iload rfl rfl ?_
          obtain ⟨v3, e3⟩ : ∃ z, M 608 g = z := ⟨_, rfl⟩
          have b3 : (-9223372036854775808) ≤ v3 ∧ v3 ≤ 9223372036854775807 := by rw [← e3]; exact (by have q := hI_M 608 g (Nat.le_of_ble_eq_true rfl); rw [xri_row rfl rfl] at q; exact q)
          refine jr.lald (i := g) (x := v3) rfl (nlt rfl) rfl (Nat.le_of_ble_eq_true rfl) (by omega) (by omega) e3 ?_
          refine jr.lload_n rfl rfl ?_
          refine jr.lcmp_ne rfl rfl rfl (by omega) (by omega) (fun h42 => ?_) (fun h42 => ?_)
          · refine jr.iload rfl rfl ?_
            refine jr.istore (ls' := [_, _, _, _, _, _, _, _]) rfl (nlt rfl) rfl ?_
            refine jr.iinc (ls' := [_, _, _, _, _, _, _, _]) rfl rfl (nlt rfl) rfl ?_
            refine jr.goto rfl rfl ?_
            refine jr.pick (ls := [_, _, _, _, _, _, _, _]) [0, 1, 2, 3, 4, 5, 6, 7] rfl rfl ?_
            exact ih (nM - 1) (by omega) (g + 1) f o c b a k (by omega) (by omega) (by omega) (by omega) (by omega) (by omega) (by omega) (by omega) (by rw [gL_s (by omega)]; first | (rw [if_pos (by omega)]; done) | (rw [if_neg (by omega)]; exact hy1)) (by omega) (by omega) (by omega) (by omega) (by omega) (by omega)
          · refine jr.aload_n rfl rfl ?_
            refine jr.getf (i := 20) (v := .ref 609) rfl rfl (nlt rfl) rfl (nlt rfl) rfl rfl rfl rfl ?_
            refine jr.iload rfl rfl ?_
            obtain ⟨v4, e4⟩ : ∃ z, M 609 g = z := ⟨_, rfl⟩
            have b4 : (-9223372036854775808) ≤ v4 ∧ v4 ≤ 9223372036854775807 := by rw [← e4]; exact (by have q := hI_M 609 g (Nat.le_of_ble_eq_true rfl); rw [xri_row rfl rfl] at q; exact q)
            refine jr.lald (i := g) (x := v4) rfl (nlt rfl) rfl (Nat.le_of_ble_eq_true rfl) (by omega) (by omega) e4 ?_
            refine jr.lload rfl rfl ?_
            refine jr.lcmp_ne rfl rfl rfl (by omega) (by omega) (fun h55 => ?_) (fun h55 => ?_)
            · refine jr.iload rfl rfl ?_
              refine jr.istore (ls' := [_, _, _, _, _, _, _, _]) rfl (nlt rfl) rfl ?_
              refine jr.iinc (ls' := [_, _, _, _, _, _, _, _]) rfl rfl (nlt rfl) rfl ?_
              refine jr.goto rfl rfl ?_
              refine jr.pick (ls := [_, _, _, _, _, _, _, _]) [0, 1, 2, 3, 4, 5, 6, 7] rfl rfl ?_
              exact ih (nM - 1) (by omega) (g + 1) f o c b a k (by omega) (by omega) (by omega) (by omega) (by omega) (by omega) (by omega) (by omega) (by rw [gL_s (by omega)]; first | (rw [if_pos (by omega)]; done) | (rw [if_neg (by omega)]; exact hy1)) (by omega) (by omega) (by omega) (by omega) (by omega) (by omega)
            · refine jr.aload_n rfl rfl ?_
              refine jr.getf (i := 21) (v := .ref 610) rfl rfl (nlt rfl) rfl (nlt rfl) rfl rfl rfl rfl ?_
              refine jr.iload rfl rfl ?_
              obtain ⟨v5, e5⟩ : ∃ z, M 610 g = z := ⟨_, rfl⟩
              have b5 : (-9223372036854775808) ≤ v5 ∧ v5 ≤ 9223372036854775807 := by rw [← e5]; exact (by have q := hI_M 610 g (Nat.le_of_ble_eq_true rfl); rw [xri_row rfl rfl] at q; exact q)
              refine jr.lald (i := g) (x := v5) rfl (nlt rfl) rfl (Nat.le_of_ble_eq_true rfl) (by omega) (by omega) e5 ?_
              refine jr.lload rfl rfl ?_
              refine jr.lcmp_ne rfl rfl rfl (by omega) (by omega) (fun h68 => ?_) (fun h68 => ?_)
              · refine jr.iload rfl rfl ?_
                refine jr.istore (ls' := [_, _, _, _, _, _, _, _]) rfl (nlt rfl) rfl ?_
                refine jr.iinc (ls' := [_, _, _, _, _, _, _, _]) rfl rfl (nlt rfl) rfl ?_
                refine jr.goto rfl rfl ?_
                refine jr.pick (ls := [_, _, _, _, _, _, _, _]) [0, 1, 2, 3, 4, 5, 6, 7] rfl rfl ?_
                exact ih (nM - 1) (by omega) (g + 1) f o c b a k (by omega) (by omega) (by omega) (by omega) (by omega) (by omega) (by omega) (by omega) (by rw [gL_s (by omega)]; first | (rw [if_pos (by omega)]; done) | (rw [if_neg (by omega)]; exact hy1)) (by omega) (by omega) (by omega) (by omega) (by omega) (by omega)
              · refine jr.aload_n rfl rfl ?_
                refine jr.getf (i := 22) (v := .ref 611) rfl rfl (nlt rfl) rfl (nlt rfl) rfl rfl rfl rfl ?_
                refine jr.iload rfl rfl ?_
                obtain ⟨v6, e6⟩ : ∃ z, M 611 g = z := ⟨_, rfl⟩
                have b6 : 0 ≤ v6 ∧ v6 ≤ 255 := by rw [← e6]; exact (by have q := hI_M 611 g (Nat.le_of_ble_eq_true rfl); rw [xri_row rfl rfl] at q; exact q)
                refine jr.iald (i := g) (x := v6) rfl (nlt rfl) rfl (Nat.le_of_ble_eq_true rfl) (by omega) (by omega) e6 ?_
                refine jr.iload rfl rfl ?_
                refine jr.icmp_ne rfl rfl (by first | (refine rgb (by assumption) ?_; exact rfl) | omega) (by first | (refine rgb (by assumption) ?_; exact rfl) | omega) (fun h81 => ?_) (fun h81 => ?_)
                · refine jr.iload rfl rfl ?_
                  refine jr.istore (ls' := [_, _, _, _, _, _, _, _]) rfl (nlt rfl) rfl ?_
                  refine jr.iinc (ls' := [_, _, _, _, _, _, _, _]) rfl rfl (nlt rfl) rfl ?_
                  refine jr.goto rfl rfl ?_
                  refine jr.pick (ls := [_, _, _, _, _, _, _, _]) [0, 1, 2, 3, 4, 5, 6, 7] rfl rfl ?_
                  exact ih (nM - 1) (by omega) (g + 1) f o c b a k (by omega) (by omega) (by omega) (by omega) (by omega) (by omega) (by omega) (by omega) (by rw [gL_s (by omega)]; first | (rw [if_pos (by omega)]; done) | (rw [if_neg (by omega)]; exact hy1)) (by omega) (by omega) (by omega) (by omega) (by omega) (by omega)
                · refine jr.iload rfl rfl ?_
                  refine jr.goto rfl rfl ?_
                  refine jr.istore (ls' := [_, _, _, _, _, _, _, _]) rfl (nlt rfl) rfl ?_
                  refine jr.iinc (ls' := [_, _, _, _, _, _, _, _]) rfl rfl (nlt rfl) rfl ?_
                  refine jr.goto rfl rfl ?_
                  refine jr.pick (ls := [_, _, _, _, _, _, _, _]) [0, 1, 2, 3, 4, 5, 6, 7] rfl rfl ?_
                  exact ih (nM - 1) (by omega) (g + 1) g o c b a k (by omega) (by omega) (by omega) (by omega) (by omega) (by omega) (by omega) (by omega) (by rw [gL_s (by omega)]; first | (rw [if_pos (by omega)]; done) | (rw [if_neg (by omega)]; exact hy1)) (by omega) (by omega) (by omega) (by omega) (by omega) (by omega)
theorem r_gathering_x {A : Nat → Option (Nat × (Nat → Int32))} {Q : Option Value → jm → Prop} {M : jm} (hI_M : RI M) (hH_M : RH M) (hS_M : RF M) {k : Int} (h_k : (-2147483648) ≤ k ∧ k ≤ 2147483647) {a : Int} (h_a : (-9223372036854775808) ≤ a ∧ a ≤ 9223372036854775807) {b : Int} (h_b : (-9223372036854775808) ≤ b ∧ b ≤ 9223372036854775807) {c : Int} (h_c : (-9223372036854775808) ≤ c ∧ c ≤ 9223372036854775807) {o : Int} (h_o : (-2147483648) ≤ o ∧ o ≤ 2147483647) (q : ∀ (r : Int), (-1) ≤ r ∧ r ≤ 7 → (r = -1 ∨ (0 ≤ r ∧ M 606 r ≠ 0 ∧ M 607 r = k)) → r = gL M k a b c o 8 → Q (some (.int (Int32.ofInt r))) M) : jc A 1 288 [.ref (598), .int (Int32.ofInt (k)), .long (Int64.ofInt (a)), .long (Int64.ofInt (b)), .long (Int64.ofInt (c)), .int (Int32.ofInt (o))] M Q := by
  refine jc_of (m := xm_288) rfl (Nat.le_of_ble_eq_true rfl) rfl ?_
  refine jr.iconst rfl ?_
  refine jr.istore (ls' := [_, _, _, _, _, _, _]) rfl (nlt rfl) rfl ?_
  refine jr.iconst rfl ?_
  refine jr.istore (ls' := [_, _, _, _, _, _, _, _]) rfl (nlt rfl) rfl ?_
  refine jr.pick (ls := [_, _, _, _, _, _, _, _]) [0, 1, 7, 6, 5, 4, 3, 2] rfl rfl ?_
  exact r_gathering_L6_x hI_M hH_M hS_M q 8 0 (-1) o c b a k (by omega) (by omega) (by omega) (by omega) (by omega) (by omega) (by omega) (by omega) rfl (by omega) (by omega) (by omega) (by omega) (by omega) (by omega)
theorem r_freeGathering_L5_x {A : Nat → Option (Nat × (Nat → Int32))} {Q : Option Value → jm → Prop} {M : jm} (hI_M : RI M) (hH_M : RH M) (hS_M : RF M) (q : ∀ (r : Int), (-1) ≤ r ∧ r ≤ 7 → r = gE M 8 0 → Q (some (.int (Int32.ofInt r))) M) : ∀ (nM : Nat) (g : Int) (f : Int), (-1) ≤ g ∧ g ≤ 7 → (-1) ≤ f ∧ f ≤ 7 → f = gE M (8 - (g + 1)).toNat (g + 1) → g + 1 ≤ nM → jr A 0 xm_289 5 [(2, .int (Int32.ofInt (g))), (1, .int (Int32.ofInt (f))), (0, .ref (598))] [] M Q := by
  intro nM
  induction nM using Nat.strongRecOn with
  | ind nM ih =>
    intro g f h_g h_f hy0 hm
    refine jr.iload_n rfl rfl ?_
    refine jr.if_lt rfl rfl (by first | (refine rgb (by assumption) ?_; exact rfl) | omega) (fun h6 => ?_) (fun h6 => ?_)
    · refine jr.iload_n rfl rfl ?_
      exact jr.ireturn rfl rfl rfl (q _ (by omega) (by have h9 := hy0; rw [show (8 - (g + 1)).toNat = 8 from by omega, show g + 1 = 0 from by omega] at h9; exact h9))
    · refine jr.aload_n rfl rfl ?_
      refine jr.getf (i := 17) (v := .ref 606) rfl rfl (nlt rfl) rfl (nlt rfl) rfl rfl rfl rfl ?_
      refine jr.iload_n rfl rfl ?_
      obtain ⟨v1, e1⟩ : ∃ z, M 606 g = z := ⟨_, rfl⟩
      have b1 : 0 ≤ v1 ∧ v1 ≤ 1 := by rw [← e1]; exact (by have q := hI_M 606 g (Nat.le_of_ble_eq_true rfl); rw [xri_row rfl rfl] at q; exact q)
      refine jr.zald (i := g) (x := v1) rfl (nlt rfl) rfl (Nat.le_of_ble_eq_true rfl) (by omega) (by omega) e1 ?_
      refine jr.if_eq rfl rfl (by first | (refine rgb (by assumption) ?_; exact rfl) | omega) (fun h15 => ?_) (fun h15 => ?_)
      · refine jr.iload_n rfl rfl ?_
        refine jr.istore_n (ls' := [_, _, _]) rfl (nlt rfl) rfl ?_
        refine jr.iinc (ls' := [_, _, _]) rfl rfl (nlt rfl) rfl ?_
        refine jr.goto rfl rfl ?_
        refine jr.pick (ls := [_, _, _]) [0, 1, 2] rfl rfl ?_
        exact ih (nM - 1) (by omega) (g + (-1)) g (by omega) (by omega) (by rw [show g + -1 + 1 = g from by omega, gE_s (by omega)]; first | (rw [if_pos (by omega)]; done) | (rw [if_neg (by omega)]; exact hy0)) (by omega)
      · have sx15 : (1 : Int) ≤ v1 := by omega
        clear h15
        refine jr.iload_n rfl rfl ?_
        refine jr.goto rfl rfl ?_
        refine jr.istore_n (ls' := [_, _, _]) rfl (nlt rfl) rfl ?_
        refine jr.iinc (ls' := [_, _, _]) rfl rfl (nlt rfl) rfl ?_
        refine jr.goto rfl rfl ?_
        refine jr.pick (ls := [_, _, _]) [0, 1, 2] rfl rfl ?_
        exact ih (nM - 1) (by omega) (g + (-1)) f (by omega) (by omega) (by rw [show g + -1 + 1 = g from by omega, gE_s (by omega)]; first | (rw [if_pos (by omega)]; done) | (rw [if_neg (by omega)]; exact hy0)) (by omega)
theorem r_freeGathering_x {A : Nat → Option (Nat × (Nat → Int32))} {Q : Option Value → jm → Prop} {M : jm} (hI_M : RI M) (hH_M : RH M) (hS_M : RF M) (q : ∀ (r : Int), (-1) ≤ r ∧ r ≤ 7 → r = gE M 8 0 → Q (some (.int (Int32.ofInt r))) M) : jc A 1 289 [.ref (598)] M Q := by
  refine jc_of (m := xm_289) rfl (Nat.le_of_ble_eq_true rfl) rfl ?_
  refine jr.iconst rfl ?_
  refine jr.istore_n (ls' := [_, _]) rfl (nlt rfl) rfl ?_
  refine jr.bipush rfl (jbp _ (nlt rfl)) ?_
  refine jr.istore_n (ls' := [_, _, _]) rfl (nlt rfl) rfl ?_
  refine jr.pick (ls := [_, _, _]) [0, 1, 2] rfl rfl ?_
  exact r_freeGathering_L5_x hI_M hH_M hS_M q 8 7 (-1) (by omega) (by omega) rfl (by omega)
end
section
/-! ===== the reference: gatherings grow, begin, take data, keep headers ===== -/
noncomputable def szf (c : Int) : Int := if c ≤ 64 then 64 else if c ≤ 128 then 128 else if c ≤ 256 then 256 else 360
noncomputable def s4 (s : Int) : Prop := s = 64 ∨ s = 128 ∨ s = 256 ∨ s = 360
theorem szf_g {s w t : Int} (h : s = 64 ∨ s = 128 ∨ s = 256 ∨ s = 360) (ht : t ≤ s ∧ (s = t ∨ s ≤ szf w)) (he : w ≤ s ∨ 360 ≤ s) : s = if szf w ≤ t then t else szf w := by
  unfold szf at ht ⊢
  (repeat' split at ht) <;> (repeat' split) <;> omega
theorem szf_s {s w t : Int} (h : s = 64 ∨ s = 128 ∨ s = 256 ∨ s = 360) (ht : t ≤ s) (h1 : s < w) (h2 : s < 360) : (s = 256 → 360 ≤ szf w) ∧ (s ≠ 256 → 2 * s ≤ szf w) := by
  unfold szf
  (repeat' split) <;> omega
theorem r_growRow_L0_x {A : Nat → Option (Nat × (Nat → Int32))} {Q : Option Value → jm → Prop} {M0 : jm} {g0 : Int} {w0 : Int} (q : ∀ (M' : jm), RI M' → RH M' → RF M' → RG1 M' → M' 613 g0 = (if szf w0 ≤ M0 613 g0 then M0 613 g0 else szf w0) → (∀ j : Int, j ≠ g0 → M' 613 j = M0 613 j) → (∀ (a : Nat) (i : Int), a ≠ 613 → M' a i = M0 a i) → Q none M') : ∀ (nM : Nat) (M : jm) (w : Int) (g : Int), RI M → RH M → RF M → (∀ (a : Nat) (i : Int), a ≠ 613 → M a i = M0 a i) → (-2147483648) ≤ w ∧ w ≤ 2147483647 → 0 ≤ g ∧ g ≤ 7 → 1 ≤ M 613 g ∧ M 613 g ≤ 720 → RG1 M → (M 613 g = 64 ∨ M 613 g = 128 ∨ M 613 g = 256 ∨ M 613 g = 360) → (M0 613 g ≤ M 613 g ∧ (M 613 g = M0 613 g ∨ M 613 g ≤ szf w)) → (∀ j : Int, j ≠ g → M 613 j = M0 613 j) → g = g0 → w = w0 → 720 - M 613 g ≤ nM → jr A 0 xm_290 0 [(2, .int (Int32.ofInt (w))), (1, .int (Int32.ofInt (g))), (0, .ref (598))] [] M Q := by
  intro nM
  induction nM using Nat.strongRecOn with
  | ind nM ih =>
    intro M w g hI_M hH_M hS_M hF_M h_w h_g hy0 hy1 hy2 hy3 hy4 hy5 hy6 hm
    subst hy5
    subst hy6
    have hG1 := hy1
    refine jr.aload_n rfl rfl ?_
    refine jr.getf (i := 24) (v := .ref 613) rfl rfl (nlt rfl) rfl (nlt rfl) rfl rfl rfl rfl ?_
    refine jr.iload_n rfl rfl ?_
    obtain ⟨v1, e1⟩ : ∃ z, M 613 g = z := ⟨_, rfl⟩
    have b1 : 0 ≤ v1 ∧ v1 ≤ 720 := by rw [← e1]; exact (by have q := hI_M 613 g (Nat.le_of_ble_eq_true rfl); rw [xri_row rfl rfl] at q; exact q)
    refine jr.iald (i := g) (x := v1) rfl (nlt rfl) rfl (Nat.le_of_ble_eq_true rfl) (by omega) (by omega) e1 ?_
    refine jr.iload_n rfl rfl ?_
    refine jr.icmp_ge rfl rfl (by first | (refine rgb (by assumption) ?_; exact rfl) | omega) (by first | (refine rgb (by assumption) ?_; exact rfl) | omega) (fun h7 => ?_) (fun h7 => ?_)
    · exact jr.vreturn rfl rfl (q _ hI_M hH_M hS_M  hG1 (szf_g hy2 hy3 (by omega)) hy4 (fun a i f613 => (hF_M a i f613)))
    · refine jr.aload_n rfl rfl ?_
      refine jr.getf (i := 24) (v := .ref 613) rfl rfl (nlt rfl) rfl (nlt rfl) rfl rfl rfl rfl ?_
      refine jr.iload_n rfl rfl ?_
      refine jr.iald (i := g) (x := v1) rfl (nlt rfl) rfl (Nat.le_of_ble_eq_true rfl) (by omega) (by omega) e1 ?_
      refine jr.sipush rfl (by decide) ?_
      refine jr.icmp_ge rfl rfl (by first | (refine rgb (by assumption) ?_; exact rfl) | omega) (rgl rfl) (fun h19 => ?_) (fun h19 => ?_)
      · exact jr.vreturn rfl rfl (q _ hI_M hH_M hS_M  hG1 (szf_g hy2 hy3 (by omega)) hy4 (fun a i f613 => (hF_M a i f613)))
      · refine jr.aload_n rfl rfl ?_
        refine jr.getf (i := 24) (v := .ref 613) rfl rfl (nlt rfl) rfl (nlt rfl) rfl rfl rfl rfl ?_
        refine jr.iload_n rfl rfl ?_
        refine jr.aload_n rfl rfl ?_
        refine jr.getf (i := 24) (v := .ref 613) rfl rfl (nlt rfl) rfl (nlt rfl) rfl rfl rfl rfl ?_
        refine jr.iload_n rfl rfl ?_
        refine jr.iald (i := g) (x := v1) rfl (nlt rfl) rfl (Nat.le_of_ble_eq_true rfl) (by omega) (by omega) e1 ?_
        refine jr.sipush rfl (by decide) ?_
        refine jr.icmp_ne rfl rfl (by first | (refine rgb (by assumption) ?_; exact rfl) | omega) (rgl rfl) (fun h36 => ?_) (fun h36 => ?_)
        · refine jr.iconst rfl ?_
          refine jr.aload_n rfl rfl ?_
          refine jr.getf (i := 24) (v := .ref 613) rfl rfl (nlt rfl) rfl (nlt rfl) rfl rfl rfl rfl ?_
          refine jr.iload_n rfl rfl ?_
          refine jr.iald (i := g) (x := v1) rfl (nlt rfl) rfl (Nat.le_of_ble_eq_true rfl) (by omega) (by omega) e1 ?_
          refine jr.imul rfl ?_
          refine jr.iast (i := g) (x := (2 * v1)) rfl (nlt rfl) rfl (Nat.le_of_ble_eq_true rfl) (by omega) (by omega) ?_
          refine jr.goto rfl rfl ?_
          refine jr.pick (ls := [_, _, _]) [0, 1, 2] rfl rfl ?_
          exact ih (nM - 1) (by omega) (ju M 613 g (2 * v1)) w g (RI.u hI_M (a := 613) (i := g) (by rw [xri_row rfl rfl]; show (0 : Int) ≤ _ ∧ _ ≤ (720 : Int); omega)) (RH.o hH_M (by decide) (by decide) (by decide)) (RF.o hS_M (by decide) (by decide))  (fun a i f613 => ((ju_c _ _ f613).trans (hF_M a i f613))) (by omega) (by omega) (by rw [(ju_same _ _ _ _)]; omega) (RG1.s613 hG1 (by omega) (by omega)) (by rw [ju_same]; have h9 := hy2; omega) (by rw [ju_same]; have h9 := szf_s (w := w) hy2 hy3.1 (by omega) (by omega); omega) (fun j hj => by rw [ju_i _ _ hj]; exact hy4 j hj) (by omega) (by omega) (by rw [(ju_same _ _ _ _)]; omega)
        · refine jr.sipush rfl (by decide) ?_
          refine jr.goto rfl rfl ?_
          refine jr.iast (i := g) (x := 360) rfl (nlt rfl) rfl (Nat.le_of_ble_eq_true rfl) (by omega) (by omega) ?_
          refine jr.goto rfl rfl ?_
          refine jr.pick (ls := [_, _, _]) [0, 1, 2] rfl rfl ?_
          exact ih (nM - 1) (by omega) (ju M 613 g 360) w g (RI.u hI_M (a := 613) (i := g) (by rw [xri_row rfl rfl]; show (0 : Int) ≤ _ ∧ _ ≤ (720 : Int); omega)) (RH.o hH_M (by decide) (by decide) (by decide)) (RF.o hS_M (by decide) (by decide))  (fun a i f613 => ((ju_c _ _ f613).trans (hF_M a i f613))) (by omega) (by omega) (by rw [(ju_same _ _ _ _)]; omega) (RG1.s613 hG1 (by omega) (by omega)) (by rw [ju_same]; have h9 := hy2; omega) (by rw [ju_same]; have h9 := szf_s (w := w) hy2 hy3.1 (by omega) (by omega); omega) (fun j hj => by rw [ju_i _ _ hj]; exact hy4 j hj) (by omega) (by omega) (by rw [(ju_same _ _ _ _)]; omega)
theorem r_growRow_x {A : Nat → Option (Nat × (Nat → Int32))} {Q : Option Value → jm → Prop} {M : jm} (hI_M : RI M) (hH_M : RH M) (hS_M : RF M) {g : Int} (h_g : 0 ≤ g ∧ g ≤ 7) {w : Int} (h_w : (-2147483648) ≤ w ∧ w ≤ 2147483647) (p0 : (M 613 g = 64 ∨ M 613 g = 128 ∨ M 613 g = 256 ∨ M 613 g = 360)) (p1 : RG1 M) (q : ∀ (M' : jm), RI M' → RH M' → RF M' → RG1 M' → M' 613 g = (if szf w ≤ M 613 g then M 613 g else szf w) → (∀ j : Int, j ≠ g → M' 613 j = M 613 j) → (∀ (a : Nat) (i : Int), a ≠ 613 → M' a i = M a i) → Q none M') : jc A 1 290 [.ref (598), .int (Int32.ofInt (g)), .int (Int32.ofInt (w))] M Q := by
  have hG1 := p1
  refine jc_of (m := xm_290) rfl (Nat.le_of_ble_eq_true rfl) rfl ?_
  obtain ⟨v1, e1⟩ : ∃ z, M 613 g = z := ⟨_, rfl⟩
  have b1 : 0 ≤ v1 ∧ v1 ≤ 720 := by rw [← e1]; exact (by have q := hI_M 613 g (Nat.le_of_ble_eq_true rfl); rw [xri_row rfl rfl] at q; exact q)
  refine jr.pick (ls := [_, _, _]) [2, 1, 0] rfl rfl ?_
  exact r_growRow_L0_x q 720 M w g hI_M hH_M hS_M  (fun a i f613 => rfl) (by omega) (by omega) (by omega) hG1 p0 (by omega) (fun _ _ => rfl) (by omega) (by omega) (by omega)
theorem r_tellWhole_L16_x {A : Nat → Option (Nat × (Nat → Int32))} {Q : Option Value → jm → Prop} {M0 : jm} {g0 : Int} {w0 : Int} (q : ∀ (M' : jm), RI M' → RH M' → RF M' → RG1 M' → (M' 614 g0 = w0 ∧ M' 613 g0 = w0) → (∀ j : Int, j ≠ g0 → M' 614 j = M0 614 j ∧ M' 613 j = M0 613 j) → (∀ j : Int, ¬ (360 * g0 + w0 ≤ j ∧ j < 360 * g0 + 360) → M' 616 j = M0 616 j) → (∀ (a : Nat) (i : Int), a ≠ 613 → a ≠ 614 → a ≠ 616 → M' a i = M0 a i) → Q none M') : ∀ (nM : Nat) (M : jm) (k : Int) (w : Int) (g : Int), RI M → RH M → RF M → (∀ (a : Nat) (i : Int), a ≠ 613 → a ≠ 614 → a ≠ 616 → M a i = M0 a i) → 0 ≤ k ∧ k ≤ 360 → 1 ≤ w ∧ w ≤ 360 → 0 ≤ g ∧ g ≤ 7 → RG1 M → (M 614 g = w ∧ M 613 g = w) → (∀ j : Int, j ≠ g → M 614 j = M0 614 j ∧ M 613 j = M0 613 j) → (∀ j : Int, ¬ (360 * g + w ≤ j ∧ j < 360 * g + 360) → M 616 j = M0 616 j) → w ≤ k → g = g0 → w = w0 → 360 - k ≤ nM → jr A 0 xm_291 16 [(3, .int (Int32.ofInt (k))), (2, .int (Int32.ofInt (w))), (1, .int (Int32.ofInt (g))), (0, .ref (598))] [] M Q := by
  intro nM
  induction nM using Nat.strongRecOn with
  | ind nM ih =>
    intro M k w g hI_M hH_M hS_M hF_M h_k h_w h_g hy0 hy1 hy2 hy3 hy4 hy5 hy6 hm
    subst hy5
    subst hy6
    have hG1 := hy0
    refine jr.iload_n rfl rfl ?_
    refine jr.sipush rfl (by decide) ?_
    refine jr.icmp_ge rfl rfl (by first | (refine rgb (by assumption) ?_; exact rfl) | omega) (rgl rfl) (fun h20 => ?_) (fun h20 => ?_)
    · exact jr.vreturn rfl rfl (q _ hI_M hH_M hS_M  hG1 hy1 hy2 hy3 (fun a i f613 f614 f616 => (hF_M a i f613 f614 f616)))
    · refine jr.aload_n rfl rfl ?_
      refine jr.getf (i := 27) (v := .ref 616) rfl rfl (nlt rfl) rfl (nlt rfl) rfl rfl rfl rfl ?_
      refine jr.sipush rfl (by decide) ?_
      refine jr.iload_n rfl rfl ?_
      refine jr.imul rfl ?_
      refine jr.iload_n rfl rfl ?_
      refine jr.iadd rfl ?_
      refine jr.iconst rfl ?_
      refine jr.zast (i := ((360 * g) + k)) (x := 0) rfl (nlt rfl) rfl (Nat.le_of_ble_eq_true rfl) (by omega) (by omega) (j_zn (by omega)) ?_
      refine jr.iinc (ls' := [_, _, _, _]) rfl rfl (nlt rfl) rfl ?_
      refine jr.goto rfl rfl ?_
      refine jr.pick (ls := [_, _, _, _]) [0, 1, 2, 3] rfl rfl ?_
      exact ih (nM - 1) (by omega) (ju M 616 ((360 * g) + k) 0) (k + 1) w g (RI.u hI_M (a := 616) (i := ((360 * g) + k)) (by rw [xri_row rfl rfl]; show (0 : Int) ≤ _ ∧ _ ≤ (1 : Int); omega)) (RH.o hH_M (by decide) (by decide) (by decide)) (RF.o hS_M (by decide) (by decide))  (fun a i f613 f614 f616 => ((ju_c _ _ f616).trans (hF_M a i f613 f614 f616))) (by omega) (by omega) (by omega) (RG1.o hG1 rfl) (by rw [ju_c _ _ (by decide), ju_c _ _ (by decide)]; exact hy1) (fun j hj => by rw [ju_c _ _ (by decide), ju_c _ _ (by decide)]; exact hy2 j hj) (fun j hj => by rw [ju_i _ _ (by omega)]; exact hy3 j hj) (by omega) (by omega) (by omega) (by omega)
theorem r_tellWhole_x {A : Nat → Option (Nat × (Nat → Int32))} {Q : Option Value → jm → Prop} {M : jm} (hI_M : RI M) (hH_M : RH M) (hS_M : RF M) {g : Int} (h_g : 0 ≤ g ∧ g ≤ 7) {w : Int} (h_w : 1 ≤ w ∧ w ≤ 360) (p0 : RG1 M) (q : ∀ (M' : jm), RI M' → RH M' → RF M' → RG1 M' → (M' 614 g = w ∧ M' 613 g = w) → (∀ j : Int, j ≠ g → M' 614 j = M 614 j ∧ M' 613 j = M 613 j) → (∀ j : Int, ¬ (360 * g + w ≤ j ∧ j < 360 * g + 360) → M' 616 j = M 616 j) → (∀ (a : Nat) (i : Int), a ≠ 613 → a ≠ 614 → a ≠ 616 → M' a i = M a i) → Q none M') : jc A 1 291 [.ref (598), .int (Int32.ofInt (g)), .int (Int32.ofInt (w))] M Q := by
  have hG1 := p0
  refine jc_of (m := xm_291) rfl (Nat.le_of_ble_eq_true rfl) rfl ?_
  refine jr.aload_n rfl rfl ?_
  refine jr.getf (i := 25) (v := .ref 614) rfl rfl (nlt rfl) rfl (nlt rfl) rfl rfl rfl rfl ?_
  refine jr.iload_n rfl rfl ?_
  refine jr.iload_n rfl rfl ?_
  refine jr.iast (i := g) (x := w) rfl (nlt rfl) rfl (Nat.le_of_ble_eq_true rfl) (by omega) (by omega) ?_
  refine jr.aload_n rfl rfl ?_
  refine jr.getf (i := 24) (v := .ref 613) rfl rfl (nlt rfl) rfl (nlt rfl) rfl rfl rfl rfl ?_
  refine jr.iload_n rfl rfl ?_
  refine jr.iload_n rfl rfl ?_
  refine jr.iast (i := g) (x := w) rfl (nlt rfl) rfl (Nat.le_of_ble_eq_true rfl) (by omega) (by omega) ?_
  refine jr.iload_n rfl rfl ?_
  refine jr.istore_n (ls' := [_, _, _, _]) rfl (nlt rfl) rfl ?_
  refine jr.pick (ls := [_, _, _, _]) [0, 3, 2, 1] rfl rfl ?_
  exact r_tellWhole_L16_x q 360 (ju (ju M 614 g w) 613 g w) w w g (RI.u (RI.u hI_M (a := 614) (i := g) (by rw [xri_row rfl rfl]; show (-1 : Int) ≤ _ ∧ _ ≤ (360 : Int); omega)) (a := 613) (i := g) (by rw [xri_row rfl rfl]; show (0 : Int) ≤ _ ∧ _ ≤ (720 : Int); omega)) (RH.o (RH.o hH_M (by decide) (by decide) (by decide)) (by decide) (by decide) (by decide)) (RF.o (RF.o hS_M (by decide) (by decide)) (by decide) (by decide))  (fun a i f613 f614 f616 => ((ju_c _ _ f613).trans ((ju_c _ _ f614).trans rfl))) (by omega) (by omega) (by omega) (RG1.s613 (RG1.o hG1 rfl) (by omega) (by omega)) ⟨by rw [ju_c _ _ (by decide), ju_same], by rw [ju_same]⟩ (fun j hj => ⟨by rw [ju_c _ _ (by decide), ju_i _ _ hj], by rw [ju_i _ _ hj, ju_c _ _ (by decide)]⟩) (fun j _ => by rw [ju_c _ _ (by decide), ju_c _ _ (by decide)]) (by omega) (by omega) (by omega) (by omega)
theorem r_beginGathering_L83_x {A : Nat → Option (Nat × (Nat → Int32))} {Q : Option Value → jm → Prop} {M0 : jm} {g0 : Int} {k0 : Int} {a0 : Int} {b0 : Int} {c0 : Int} {o0 : Int} (q : ∀ (M' : jm), RI M' → RH M' → RF M' → RG1 M' → M' 606 g0 = 1 → M' 607 g0 = k0 → M' 614 g0 = -1 → M' 617 g0 = -1 → M' 613 g0 = 64 → M' 608 g0 = a0 → M' 609 g0 = b0 → M' 610 g0 = c0 → M' 611 g0 = o0 → M' 612 g0 = M0 598 2 + 30 → (∀ (b0 : Nat) (j : Int), b0 ≠ 616 → j ≠ g0 → M' b0 j = M0 b0 j) → (∀ j : Int, (j < 360 * g0 ∨ 360 * g0 + 360 ≤ j) → M' 616 j = M0 616 j) → (∀ k0 : Int, 0 ≤ k0 → k0 < 360 → M' 616 (360 * g0 + k0) = 0) → (∀ (a0 : Nat) (i : Int), a0 ≠ 606 → a0 ≠ 607 → a0 ≠ 608 → a0 ≠ 609 → a0 ≠ 610 → a0 ≠ 611 → a0 ≠ 612 → a0 ≠ 613 → a0 ≠ 614 → a0 ≠ 616 → a0 ≠ 617 → M' a0 i = M0 a0 i) → Q none M') : ∀ (nM : Nat) (M : jm) (j : Int) (o : Int) (c : Int) (b : Int) (a : Int) (k : Int) (g : Int), RI M → RH M → RF M → (∀ (a : Nat) (i : Int), a ≠ 606 → a ≠ 607 → a ≠ 608 → a ≠ 609 → a ≠ 610 → a ≠ 611 → a ≠ 612 → a ≠ 613 → a ≠ 614 → a ≠ 616 → a ≠ 617 → M a i = M0 a i) → 0 ≤ j ∧ j ≤ 360 → 0 ≤ o ∧ o ≤ 255 → (-9223372036854775808) ≤ c ∧ c ≤ 9223372036854775807 → (-9223372036854775808) ≤ b ∧ b ≤ 9223372036854775807 → (-9223372036854775808) ≤ a ∧ a ≤ 9223372036854775807 → 0 ≤ k ∧ k ≤ 11 → 0 ≤ g ∧ g ≤ 7 → RG1 M → M 606 g = 1 → M 607 g = k → M 614 g = -1 → M 617 g = -1 → M 613 g = 64 → M 608 g = a → M 609 g = b → M 610 g = c → M 611 g = o → M 612 g = M0 598 2 + 30 → (∀ (b0 : Nat) (i : Int), b0 ≠ 616 → i ≠ g → M b0 i = M0 b0 i) → (∀ i : Int, (i < 360 * g ∨ 360 * g + 360 ≤ i) → M 616 i = M0 616 i) → (∀ i : Int, 0 ≤ i → i < j → M 616 (360 * g + i) = 0) → g = g0 → k = k0 → a = a0 → b = b0 → c = c0 → o = o0 → 360 - j ≤ nM → jr A 0 xm_293 83 [(10, .int (Int32.ofInt (j))), (9, .int (Int32.ofInt (o))), (7, .long (Int64.ofInt (c))), (5, .long (Int64.ofInt (b))), (3, .long (Int64.ofInt (a))), (2, .int (Int32.ofInt (k))), (1, .int (Int32.ofInt (g))), (0, .ref (598))] [] M Q := by
  intro nM
  induction nM using Nat.strongRecOn with
  | ind nM ih =>
    intro M j o c b a k g hI_M hH_M hS_M hF_M h_j h_o h_c h_b h_a h_k h_g hy0 hy1 hy2 hy3 hy4 hy5 hy6 hy7 hy8 hy9 hy10 hy11 hy12 hy13 hy14 hy15 hy16 hy17 hy18 hy19 hm
    subst hy14
    subst hy15
    subst hy16
    subst hy17
    subst hy18
    subst hy19
    have hG1 := hy0
    refine jr.iload rfl rfl ?_
    refine jr.sipush rfl (by decide) ?_
    refine jr.icmp_ge rfl rfl (by first | (refine rgb (by assumption) ?_; exact rfl) | omega) (rgl rfl) (fun h88 => ?_) (fun h88 => ?_)
    · exact jr.vreturn rfl rfl (q _ hI_M hH_M hS_M  hG1 hy1 hy2 hy3 hy4 hy5 hy6 hy7 hy8 hy9 hy10 hy11 hy12 (fun k k0 k1 => hy13 k k0 (by omega)) (fun a i f606 f607 f608 f609 f610 f611 f612 f613 f614 f616 f617 => (hF_M a i f606 f607 f608 f609 f610 f611 f612 f613 f614 f616 f617)))
    · refine jr.aload_n rfl rfl ?_
      refine jr.getf (i := 27) (v := .ref 616) rfl rfl (nlt rfl) rfl (nlt rfl) rfl rfl rfl rfl ?_
      refine jr.sipush rfl (by decide) ?_
      refine jr.iload_n rfl rfl ?_
      refine jr.imul rfl ?_
      refine jr.iload rfl rfl ?_
      refine jr.iadd rfl ?_
      refine jr.iconst rfl ?_
      refine jr.zast (i := ((360 * g) + j)) (x := 0) rfl (nlt rfl) rfl (Nat.le_of_ble_eq_true rfl) (by omega) (by omega) (j_zn (by omega)) ?_
      refine jr.iinc (ls' := [_, _, _, _, _, _, _, _]) rfl rfl (nlt rfl) rfl ?_
      refine jr.goto rfl rfl ?_
      obtain ⟨v1, e1⟩ : ∃ z, M 606 g = z := ⟨_, rfl⟩
      have b1 : 0 ≤ v1 ∧ v1 ≤ 1 := by rw [← e1]; exact (by have q := hI_M 606 g (Nat.le_of_ble_eq_true rfl); rw [xri_row rfl rfl] at q; exact q)
      obtain ⟨v2, e2⟩ : ∃ z, M 607 g = z := ⟨_, rfl⟩
      have b2 : 0 ≤ v2 ∧ v2 ≤ 11 := by rw [← e2]; exact (by have q := hI_M 607 g (Nat.le_of_ble_eq_true rfl); rw [xri_row rfl rfl] at q; exact q)
      obtain ⟨v3, e3⟩ : ∃ z, M 614 g = z := ⟨_, rfl⟩
      have b3 : (-1) ≤ v3 ∧ v3 ≤ 360 := by rw [← e3]; exact (by have q := hI_M 614 g (Nat.le_of_ble_eq_true rfl); rw [xri_row rfl rfl] at q; exact q)
      obtain ⟨v4, e4⟩ : ∃ z, M 617 g = z := ⟨_, rfl⟩
      have b4 : (-1) ≤ v4 ∧ v4 ≤ 400 := by rw [← e4]; exact (by have q := hI_M 617 g (Nat.le_of_ble_eq_true rfl); rw [xri_row rfl rfl] at q; exact q)
      obtain ⟨v5, e5⟩ : ∃ z, M 613 g = z := ⟨_, rfl⟩
      have b5 : 0 ≤ v5 ∧ v5 ≤ 720 := by rw [← e5]; exact (by have q := hI_M 613 g (Nat.le_of_ble_eq_true rfl); rw [xri_row rfl rfl] at q; exact q)
      obtain ⟨v6, e6⟩ : ∃ z, M 608 g = z := ⟨_, rfl⟩
      have b6 : (-9223372036854775808) ≤ v6 ∧ v6 ≤ 9223372036854775807 := by rw [← e6]; exact (by have q := hI_M 608 g (Nat.le_of_ble_eq_true rfl); rw [xri_row rfl rfl] at q; exact q)
      obtain ⟨v7, e7⟩ : ∃ z, M 609 g = z := ⟨_, rfl⟩
      have b7 : (-9223372036854775808) ≤ v7 ∧ v7 ≤ 9223372036854775807 := by rw [← e7]; exact (by have q := hI_M 609 g (Nat.le_of_ble_eq_true rfl); rw [xri_row rfl rfl] at q; exact q)
      obtain ⟨v8, e8⟩ : ∃ z, M 610 g = z := ⟨_, rfl⟩
      have b8 : (-9223372036854775808) ≤ v8 ∧ v8 ≤ 9223372036854775807 := by rw [← e8]; exact (by have q := hI_M 610 g (Nat.le_of_ble_eq_true rfl); rw [xri_row rfl rfl] at q; exact q)
      obtain ⟨v9, e9⟩ : ∃ z, M 611 g = z := ⟨_, rfl⟩
      have b9 : 0 ≤ v9 ∧ v9 ≤ 255 := by rw [← e9]; exact (by have q := hI_M 611 g (Nat.le_of_ble_eq_true rfl); rw [xri_row rfl rfl] at q; exact q)
      refine jr.pick (ls := [_, _, _, _, _, _, _, _]) [0, 1, 2, 3, 4, 5, 6, 7] rfl rfl ?_
      exact ih (nM - 1) (by omega) (ju M 616 ((360 * g) + j) 0) (j + 1) o c b a k g (RI.u hI_M (a := 616) (i := ((360 * g) + j)) (by rw [xri_row rfl rfl]; show (0 : Int) ≤ _ ∧ _ ≤ (1 : Int); omega)) (RH.o hH_M (by decide) (by decide) (by decide)) (RF.o hS_M (by decide) (by decide))  (fun a i f606 f607 f608 f609 f610 f611 f612 f613 f614 f616 f617 => ((ju_c _ _ f616).trans (hF_M a i f606 f607 f608 f609 f610 f611 f612 f613 f614 f616 f617))) (by omega) (by omega) (by omega) (by omega) (by omega) (by omega) (by omega) (RG1.o hG1 rfl) ((((ju_c _ _ (by decide)).trans e1)).trans (by omega)) ((((ju_c _ _ (by decide)).trans e2)).trans (by omega)) ((((ju_c _ _ (by decide)).trans e3)).trans (by omega)) ((((ju_c _ _ (by decide)).trans e4)).trans (by omega)) ((((ju_c _ _ (by decide)).trans e5)).trans (by omega)) ((((ju_c _ _ (by decide)).trans e6)).trans (by omega)) ((((ju_c _ _ (by decide)).trans e7)).trans (by omega)) ((((ju_c _ _ (by decide)).trans e8)).trans (by omega)) ((((ju_c _ _ (by decide)).trans e9)).trans (by omega)) (by rw [ju_c _ _ (by decide)]; exact hy10) (fun b0 i hb hj => by rw [ju_c _ _ hb]; exact hy11 b0 i hb hj) (fun i hi => by rw [ju_i _ _ (by omega)]; exact hy12 i hi) (fun i i0 i1 => by by_cases e : i = j; (rw [e, ju_same]); (rw [ju_i _ _ (by omega)]; exact hy13 i i0 (by omega))) (by omega) (by omega) (by omega) (by omega) (by omega) (by omega) (by omega)
theorem r_beginGathering_x {A : Nat → Option (Nat × (Nat → Int32))} {Q : Option Value → jm → Prop} {M : jm} (hI_M : RI M) (hH_M : RH M) (hS_M : RF M) {g : Int} (h_g : 0 ≤ g ∧ g ≤ 7) {k : Int} (h_k : 0 ≤ k ∧ k ≤ 11) {a : Int} (h_a : (-9223372036854775808) ≤ a ∧ a ≤ 9223372036854775807) {b : Int} (h_b : (-9223372036854775808) ≤ b ∧ b ≤ 9223372036854775807) {c : Int} (h_c : (-9223372036854775808) ≤ c ∧ c ≤ 9223372036854775807) {o : Int} (h_o : 0 ≤ o ∧ o ≤ 255) (p0 : RG1 M) (q : ∀ (M' : jm), RI M' → RH M' → RF M' → RG1 M' → M' 606 g = 1 → M' 607 g = k → M' 614 g = -1 → M' 617 g = -1 → M' 613 g = 64 → M' 608 g = a → M' 609 g = b → M' 610 g = c → M' 611 g = o → M' 612 g = M 598 2 + 30 → (∀ (b : Nat) (j : Int), b ≠ 616 → j ≠ g → M' b j = M b j) → (∀ j : Int, (j < 360 * g ∨ 360 * g + 360 ≤ j) → M' 616 j = M 616 j) → (∀ k : Int, 0 ≤ k → k < 360 → M' 616 (360 * g + k) = 0) → (∀ (a : Nat) (i : Int), a ≠ 606 → a ≠ 607 → a ≠ 608 → a ≠ 609 → a ≠ 610 → a ≠ 611 → a ≠ 612 → a ≠ 613 → a ≠ 614 → a ≠ 616 → a ≠ 617 → M' a i = M a i) → Q none M') : jc A 1 293 [.ref (598), .int (Int32.ofInt (g)), .int (Int32.ofInt (k)), .long (Int64.ofInt (a)), .long (Int64.ofInt (b)), .long (Int64.ofInt (c)), .int (Int32.ofInt (o))] M Q := by
  have hG1 := p0
  refine jc_of (m := xm_293) rfl (Nat.le_of_ble_eq_true rfl) rfl ?_
  refine jr.aload_n rfl rfl ?_
  refine jr.getf (i := 17) (v := .ref 606) rfl rfl (nlt rfl) rfl (nlt rfl) rfl rfl rfl rfl ?_
  refine jr.iload_n rfl rfl ?_
  refine jr.iconst rfl ?_
  refine jr.zast (i := g) (x := 1) rfl (nlt rfl) rfl (Nat.le_of_ble_eq_true rfl) (by omega) (by omega) (j_zn (by omega)) ?_
  refine jr.aload_n rfl rfl ?_
  refine jr.getf (i := 18) (v := .ref 607) rfl rfl (nlt rfl) rfl (nlt rfl) rfl rfl rfl rfl ?_
  refine jr.iload_n rfl rfl ?_
  refine jr.iload_n rfl rfl ?_
  refine jr.iast (i := g) (x := k) rfl (nlt rfl) rfl (Nat.le_of_ble_eq_true rfl) (by omega) (by omega) ?_
  refine jr.aload_n rfl rfl ?_
  refine jr.getf (i := 19) (v := .ref 608) rfl rfl (nlt rfl) rfl (nlt rfl) rfl rfl rfl rfl ?_
  refine jr.iload_n rfl rfl ?_
  refine jr.lload_n rfl rfl ?_
  refine jr.last (i := g) (x := a) rfl (nlt rfl) rfl (Nat.le_of_ble_eq_true rfl) (by omega) (by omega) ?_
  refine jr.aload_n rfl rfl ?_
  refine jr.getf (i := 20) (v := .ref 609) rfl rfl (nlt rfl) rfl (nlt rfl) rfl rfl rfl rfl ?_
  refine jr.iload_n rfl rfl ?_
  refine jr.lload rfl rfl ?_
  refine jr.last (i := g) (x := b) rfl (nlt rfl) rfl (Nat.le_of_ble_eq_true rfl) (by omega) (by omega) ?_
  refine jr.aload_n rfl rfl ?_
  refine jr.getf (i := 21) (v := .ref 610) rfl rfl (nlt rfl) rfl (nlt rfl) rfl rfl rfl rfl ?_
  refine jr.iload_n rfl rfl ?_
  refine jr.lload rfl rfl ?_
  refine jr.last (i := g) (x := c) rfl (nlt rfl) rfl (Nat.le_of_ble_eq_true rfl) (by omega) (by omega) ?_
  refine jr.aload_n rfl rfl ?_
  refine jr.getf (i := 22) (v := .ref 611) rfl rfl (nlt rfl) rfl (nlt rfl) rfl rfl rfl rfl ?_
  refine jr.iload_n rfl rfl ?_
  refine jr.iload rfl rfl ?_
  refine jr.iast (i := g) (x := o) rfl (nlt rfl) rfl (Nat.le_of_ble_eq_true rfl) (by omega) (by omega) ?_
  refine jr.aload_n rfl rfl ?_
  refine jr.getf (i := 23) (v := .ref 612) rfl rfl (nlt rfl) rfl (nlt rfl) rfl rfl rfl rfl ?_
  refine jr.iload_n rfl rfl ?_
  refine jr.aload_n rfl rfl ?_
  obtain ⟨v1, e1⟩ : ∃ z, M 598 2 = z := ⟨_, rfl⟩
  have b1 : 0 ≤ v1 ∧ v1 ≤ 2000000 := by rw [← e1]; exact hI_M 598 2 (Nat.le_of_ble_eq_true rfl)
  refine jr.getf (i := 2) (x := v1) (v := .int (Int32.ofInt (v1))) rfl rfl (nlt rfl) rfl (nlt rfl) rfl rfl ((ju_c _ _ (by decide)).trans ((ju_c _ _ (by decide)).trans ((ju_c _ _ (by decide)).trans ((ju_c _ _ (by decide)).trans ((ju_c _ _ (by decide)).trans ((ju_c _ _ (by decide)).trans e1)))))) rfl ?_
  refine jr.bipush rfl (jbp _ (nlt rfl)) ?_
  refine jr.iadd rfl ?_
  refine jr.iast (i := g) (x := (v1 + 30)) rfl (nlt rfl) rfl (Nat.le_of_ble_eq_true rfl) (by omega) (by omega) ?_
  refine jr.aload_n rfl rfl ?_
  refine jr.getf (i := 24) (v := .ref 613) rfl rfl (nlt rfl) rfl (nlt rfl) rfl rfl rfl rfl ?_
  refine jr.iload_n rfl rfl ?_
  refine jr.bipush rfl (jbp _ (nlt rfl)) ?_
  refine jr.iast (i := g) (x := 64) rfl (nlt rfl) rfl (Nat.le_of_ble_eq_true rfl) (by omega) (by omega) ?_
  refine jr.aload_n rfl rfl ?_
  refine jr.getf (i := 25) (v := .ref 614) rfl rfl (nlt rfl) rfl (nlt rfl) rfl rfl rfl rfl ?_
  refine jr.iload_n rfl rfl ?_
  refine jr.iconst rfl ?_
  refine jr.iast (i := g) (x := (-1)) rfl (nlt rfl) rfl (Nat.le_of_ble_eq_true rfl) (by omega) (by omega) ?_
  refine jr.aload_n rfl rfl ?_
  refine jr.getf (i := 28) (v := .ref 617) rfl rfl (nlt rfl) rfl (nlt rfl) rfl rfl rfl rfl ?_
  refine jr.iload_n rfl rfl ?_
  refine jr.iconst rfl ?_
  refine jr.iast (i := g) (x := (-1)) rfl (nlt rfl) rfl (Nat.le_of_ble_eq_true rfl) (by omega) (by omega) ?_
  refine jr.iconst rfl ?_
  refine jr.istore (ls' := [_, _, _, _, _, _, _, _]) rfl (nlt rfl) rfl ?_
  refine jr.pick (ls := [_, _, _, _, _, _, _, _]) [0, 7, 6, 5, 4, 3, 2, 1] rfl rfl ?_
  exact r_beginGathering_L83_x q 360 (ju (ju (ju (ju (ju (ju (ju (ju (ju (ju M 606 g 1) 607 g k) 608 g a) 609 g b) 610 g c) 611 g o) 612 g (v1 + 30)) 613 g 64) 614 g (-1)) 617 g (-1)) 0 o c b a k g (RI.u (RI.u (RI.u (RI.u (RI.u (RI.u (RI.u (RI.u (RI.u (RI.u hI_M (a := 606) (i := g) (by rw [xri_row rfl rfl]; show (0 : Int) ≤ _ ∧ _ ≤ (1 : Int); omega)) (a := 607) (i := g) (by rw [xri_row rfl rfl]; show (0 : Int) ≤ _ ∧ _ ≤ (11 : Int); omega)) (a := 608) (i := g) (by rw [xri_row rfl rfl]; show (-9223372036854775808 : Int) ≤ _ ∧ _ ≤ (9223372036854775807 : Int); omega)) (a := 609) (i := g) (by rw [xri_row rfl rfl]; show (-9223372036854775808 : Int) ≤ _ ∧ _ ≤ (9223372036854775807 : Int); omega)) (a := 610) (i := g) (by rw [xri_row rfl rfl]; show (-9223372036854775808 : Int) ≤ _ ∧ _ ≤ (9223372036854775807 : Int); omega)) (a := 611) (i := g) (by rw [xri_row rfl rfl]; show (0 : Int) ≤ _ ∧ _ ≤ (255 : Int); omega)) (a := 612) (i := g) (by rw [xri_row rfl rfl]; show (0 : Int) ≤ _ ∧ _ ≤ (2000030 : Int); omega)) (a := 613) (i := g) (by rw [xri_row rfl rfl]; show (0 : Int) ≤ _ ∧ _ ≤ (720 : Int); omega)) (a := 614) (i := g) (by rw [xri_row rfl rfl]; show (-1 : Int) ≤ _ ∧ _ ≤ (360 : Int); omega)) (a := 617) (i := g) (by rw [xri_row rfl rfl]; show (-1 : Int) ≤ _ ∧ _ ≤ (400 : Int); omega)) (RH.o (RH.o (RH.o (RH.o (RH.o (RH.o (RH.o (RH.o (RH.o (RH.o hH_M (by decide) (by decide) (by decide)) (by decide) (by decide) (by decide)) (by decide) (by decide) (by decide)) (by decide) (by decide) (by decide)) (by decide) (by decide) (by decide)) (by decide) (by decide) (by decide)) (by decide) (by decide) (by decide)) (by decide) (by decide) (by decide)) (by decide) (by decide) (by decide)) (by decide) (by decide) (by decide)) (RF.o (RF.o (RF.o (RF.o (RF.o (RF.o (RF.o (RF.o (RF.o (RF.o hS_M (by decide) (by decide)) (by decide) (by decide)) (by decide) (by decide)) (by decide) (by decide)) (by decide) (by decide)) (by decide) (by decide)) (by decide) (by decide)) (by decide) (by decide)) (by decide) (by decide)) (by decide) (by decide))  (fun a i f606 f607 f608 f609 f610 f611 f612 f613 f614 f616 f617 => ((ju_c _ _ f617).trans ((ju_c _ _ f614).trans ((ju_c _ _ f613).trans ((ju_c _ _ f612).trans ((ju_c _ _ f611).trans ((ju_c _ _ f610).trans ((ju_c _ _ f609).trans ((ju_c _ _ f608).trans ((ju_c _ _ f607).trans ((ju_c _ _ f606).trans rfl))))))))))) (by omega) (by omega) (by omega) (by omega) (by omega) (by omega) (by omega) (RG1.mk (RG1x.s (RG1x.o (RG1x.s (RG1x.o (RG1x.o (RG1x.o (RG1x.o (RG1x.o (RG1x.s (RG1x.s (RG1.x hG1 _) (by decide)) (by decide)) rfl) rfl) rfl) rfl) rfl) (by decide)) rfl) (by decide)) (RGs.new ((ju_c _ _ (by decide)).trans ((ju_c _ _ (by decide)).trans (ju_same _ _ _ _))) (by omega) (ju_same _ _ _ _))) ((((ju_c _ _ (by decide)).trans ((ju_c _ _ (by decide)).trans ((ju_c _ _ (by decide)).trans ((ju_c _ _ (by decide)).trans ((ju_c _ _ (by decide)).trans ((ju_c _ _ (by decide)).trans ((ju_c _ _ (by decide)).trans ((ju_c _ _ (by decide)).trans ((ju_c _ _ (by decide)).trans (ju_same _ _ _ _))))))))))).trans (by omega)) ((((ju_c _ _ (by decide)).trans ((ju_c _ _ (by decide)).trans ((ju_c _ _ (by decide)).trans ((ju_c _ _ (by decide)).trans ((ju_c _ _ (by decide)).trans ((ju_c _ _ (by decide)).trans ((ju_c _ _ (by decide)).trans ((ju_c _ _ (by decide)).trans (ju_same _ _ _ _)))))))))).trans (by omega)) ((((ju_c _ _ (by decide)).trans (ju_same _ _ _ _))).trans (by omega)) (((ju_same _ _ _ _)).trans (by omega)) ((((ju_c _ _ (by decide)).trans ((ju_c _ _ (by decide)).trans (ju_same _ _ _ _)))).trans (by omega)) ((((ju_c _ _ (by decide)).trans ((ju_c _ _ (by decide)).trans ((ju_c _ _ (by decide)).trans ((ju_c _ _ (by decide)).trans ((ju_c _ _ (by decide)).trans ((ju_c _ _ (by decide)).trans ((ju_c _ _ (by decide)).trans (ju_same _ _ _ _))))))))).trans (by omega)) ((((ju_c _ _ (by decide)).trans ((ju_c _ _ (by decide)).trans ((ju_c _ _ (by decide)).trans ((ju_c _ _ (by decide)).trans ((ju_c _ _ (by decide)).trans ((ju_c _ _ (by decide)).trans (ju_same _ _ _ _)))))))).trans (by omega)) ((((ju_c _ _ (by decide)).trans ((ju_c _ _ (by decide)).trans ((ju_c _ _ (by decide)).trans ((ju_c _ _ (by decide)).trans ((ju_c _ _ (by decide)).trans (ju_same _ _ _ _))))))).trans (by omega)) ((((ju_c _ _ (by decide)).trans ((ju_c _ _ (by decide)).trans ((ju_c _ _ (by decide)).trans ((ju_c _ _ (by decide)).trans (ju_same _ _ _ _)))))).trans (by omega)) ((((ju_c _ _ (by decide)).trans ((ju_c _ _ (by decide)).trans ((ju_c _ _ (by decide)).trans (ju_same _ _ _ _))))).trans (by omega)) (fun b0 i hb hj => (ju_i _ _ hj).trans ((ju_i _ _ hj).trans ((ju_i _ _ hj).trans ((ju_i _ _ hj).trans ((ju_i _ _ hj).trans ((ju_i _ _ hj).trans ((ju_i _ _ hj).trans ((ju_i _ _ hj).trans ((ju_i _ _ hj).trans ((ju_i _ _ hj).trans (rfl))))))))))) (fun i _ => by rw [ju_c _ _ (by decide), ju_c _ _ (by decide), ju_c _ _ (by decide), ju_c _ _ (by decide), ju_c _ _ (by decide), ju_c _ _ (by decide), ju_c _ _ (by decide), ju_c _ _ (by decide), ju_c _ _ (by decide), ju_c _ _ (by decide)]) (fun i i0 i1 => absurd i1 (by omega)) (by omega) (by omega) (by omega) (by omega) (by omega) (by omega) (by omega)
end
section
/-! ===== the reference: data laid, headers kept ===== -/
/-- the row of gathering g of the reference -/
noncomputable def wR (M : jm) (g : Int) : Int → Int := fun k => if M 616 (360 * g + k) ≠ 0 then M 615 (360 * g + k) else -1
theorem mlf_s {k o m : Int} (h : 0 ≤ k) (h0 : 0 ≤ o) : (o + k < m → mlf (k + 1) o m = mlf k o m + 1 ∧ mlf k o m = k) ∧ (m ≤ o + k → mlf (k + 1) o m = mlf k o m) := by
  unfold mlf
  (repeat' split) <;> omega
theorem mlf_r {k o m : Int} (h : 0 ≤ k) : 0 ≤ mlf k o m ∧ mlf k o m ≤ k := by
  unfold mlf
  (repeat' split) <;> omega
/-- data laid as far as k -/
noncomputable def LDR (T M : jm) (g x f o m k u v w : Int) : Prop := (∀ j : Int, 0 ≤ j → j < 360 → wR M g j = glay (wR T g) (rf T x) o f (mlf k o m) j) ∧ v = gov (wR T g) o (mlf k o m).toNat ∧ w = mlf k o m - v ∧ u = k - mlf k o m ∧ (∀ j : Int, (j < 360 * g ∨ 360 * g + 360 ≤ j) → M 616 j = T 616 j ∧ M 615 j = T 615 j)
theorem LDR.z {T : jm} {g x f o m : Int} : LDR T T g x f o m 0 0 0 0 := by
  have e : mlf 0 o m = 0 := by unfold mlf; (repeat' split) <;> omega
  refine ⟨fun j _ _ => ?_, by rw [e]; rfl, by rw [e]; rfl, by rw [e]; rfl, fun _ _ => ⟨rfl, rfl⟩⟩
  rw [e]
  unfold glay
  rw [if_neg (by omega)]
theorem LDR.b {T M : jm} {g x f o m k u v w : Int} (h : LDR T M g x f o m k u v w) (hk : 0 ≤ k) (ho : 0 ≤ o) (hm : m ≤ o + k) : LDR T M g x f o m (k + 1) (u + 1) v w := by
  have e := (mlf_s (m := m) hk ho).2 hm
  unfold LDR at h ⊢
  rw [e]
  exact ⟨h.1, h.2.1, h.2.2.1, by have := h.2.2.2.1; omega, h.2.2.2.2⟩
theorem LDR.o {T M : jm} {g x f o m k u v w : Int} (h : LDR T M g x f o m k u v w) (hk : 0 ≤ k) (ho : 0 ≤ o) (hm : o + k < m) (hm3 : m ≤ 360) (hv : M 616 (360 * g + o + k) ≠ 0) (hd : M 615 (360 * g + o + k) ≠ -1) : LDR T M g x f o m (k + 1) u (v + 1) w := by
  have e := (mlf_s (m := m) hk ho).1 hm
  obtain ⟨h1, h2, h3, h4, h5⟩ := h
  have q := h1 (o + k) (by omega) (by omega)
  unfold glay at q
  rw [if_neg (by omega)] at q
  have q2 : wR M g (o + k) = M 615 (360 * g + o + k) := by
    unfold wR
    rw [show 360 * g + (o + k) = 360 * g + o + k by omega, if_pos hv]
  have q3 : wR T g (o + k) ≠ -1 := by rw [← q, q2]; exact hd
  unfold LDR
  rw [e.1, e.2]
  rw [e.2] at h1 h2 h3 h4
  refine ⟨fun j j0 j1 => ?_, ?_, by omega, by omega, h5⟩
  · rw [h1 j j0 j1]
    unfold glay
    by_cases c : o ≤ j ∧ j < o + k ∧ wR T g j = -1
    · rw [if_pos c, if_pos ⟨c.1, by omega, c.2.2⟩]
    · rw [if_neg c, if_neg (by
        intro d
        by_cases e1 : j = o + k
        · subst e1; exact q3 d.2.2
        · exact c ⟨d.1, by omega, d.2.2⟩)]
  · rw [gov_s hk, if_neg q3, h2]
theorem LDR.w {T M : jm} {g x f o m k u v w b : Int} (h : LDR T M g x f o m k u v w) (hg : 0 ≤ g) (hk : 0 ≤ k) (ho : 0 ≤ o) (hm : o + k < m) (hm3 : m ≤ 360) (hv : M 616 (360 * g + o + k) = 0) (hb : b = rf T x (f + k)) : LDR T (ju (ju M 616 (360 * g + o + k) 1) 615 (360 * g + o + k) b) g x f o m (k + 1) u v (w + 1) := by
  have e := (mlf_s (m := m) hk ho).1 hm
  obtain ⟨h1, h2, h3, h4, h5⟩ := h
  have q := h1 (o + k) (by omega) (by omega)
  unfold glay at q
  rw [if_neg (by omega)] at q
  have q2 : wR M g (o + k) = -1 := by
    unfold wR
    rw [show 360 * g + (o + k) = 360 * g + o + k by omega, if_neg (by omega)]
  rw [q2] at q
  unfold LDR
  rw [e.1, e.2]
  rw [e.2] at h1 h2 h3 h4
  refine ⟨fun j j0 j1 => ?_, ?_, by omega, by omega, fun j hj => ?_⟩
  · by_cases e1 : j = o + k
    · subst e1
      unfold glay wR
      rw [show 360 * g + (o + k) = 360 * g + o + k by omega, ju_c _ _ (by decide), ju_same, if_pos (by decide), ju_same]
      rw [if_pos ⟨by omega, by omega, by
        have q5 := q
        unfold wR at q5
        rw [show 360 * g + (o + k) = 360 * g + o + k by omega] at q5
        exact q5.symm⟩, hb, show f + (o + k - o) = f + k by omega]
    · have q4 : wR (ju (ju M 616 (360 * g + o + k) 1) 615 (360 * g + o + k) b) g j = wR M g j := by
        unfold wR
        rw [ju_c _ _ (by decide), ju_i _ _ (by omega), ju_i _ _ (by omega), ju_c _ _ (by decide)]
      rw [q4, h1 j j0 j1]
      unfold glay
      by_cases c : o ≤ j ∧ j < o + k ∧ wR T g j = -1
      · rw [if_pos c, if_pos ⟨c.1, by omega, c.2.2⟩]
      · rw [if_neg c, if_neg (by intro d; exact c ⟨d.1, by omega, d.2.2⟩)]
  · rw [gov_s hk, if_pos q.symm, h2]; omega
  · refine ⟨?_, ?_⟩
    · rw [ju_c _ _ (by decide), ju_i _ _ (by omega)]; exact (h5 j hj).1
    · rw [ju_i _ _ (by omega), ju_c _ _ (by decide)]; exact (h5 j hj).2
theorem ld_end {T M M2 : jm} {g x f o m k c u v w s5 : Int} (h : LDR T M g x f o m k u v w) (hc : k = c) (hm : m = lpf (M 614 g)) (e : M2 = ju (ju (ju (ju (ju (ju M 598 34 1) 622 0 w) 622 1 v) 622 2 u) 622 3 s5) 622 4 (M 614 g)) : ((∀ j : Int, 0 ≤ j → j < 360 → wR M2 g j = glay (wR T g) (rf T x) o f (mlf c o (lpf (M 614 g))) j) ∧ (∀ j : Int, (j < 360 * g ∨ 360 * g + 360 ≤ j) → M2 616 j = T 616 j ∧ M2 615 j = T 615 j)) ∧ M2 598 34 = 1 ∧ M2 622 0 = mlf c o (lpf (M 614 g)) - gov (wR T g) o (mlf c o (lpf (M 614 g))).toNat ∧ M2 622 1 = gov (wR T g) o (mlf c o (lpf (M 614 g))).toNat ∧ M2 622 2 = c - mlf c o (lpf (M 614 g)) ∧ M2 622 3 = s5 ∧ M2 622 4 = M 614 g := by
  subst hc
  subst e
  rw [← hm]
  obtain ⟨h1, h2, h3, h4, h5⟩ := h
  refine ⟨⟨fun j j0 j1 => ?_, fun j hj => ?_⟩, ?_, ?_, ?_, ?_, ?_, ?_⟩
  · rw [← h1 j j0 j1]
    unfold wR
    simp only [ju_c _ _ (show (616 : Nat) ≠ 622 by decide), ju_c _ _ (show (616 : Nat) ≠ 598 by decide), ju_c _ _ (show (615 : Nat) ≠ 622 by decide), ju_c _ _ (show (615 : Nat) ≠ 598 by decide)]
  · simp only [ju_c _ _ (show (616 : Nat) ≠ 622 by decide), ju_c _ _ (show (616 : Nat) ≠ 598 by decide), ju_c _ _ (show (615 : Nat) ≠ 622 by decide), ju_c _ _ (show (615 : Nat) ≠ 598 by decide)]
    exact h5 j hj
  · rw [ju_c _ _ (by decide), ju_c _ _ (by decide), ju_c _ _ (by decide), ju_c _ _ (by decide), ju_c _ _ (by decide), ju_same]
  · rw [ju_i _ _ (zne (by decide)), ju_i _ _ (zne (by decide)), ju_i _ _ (zne (by decide)), ju_i _ _ (zne (by decide)), ju_same]; omega
  · rw [ju_i _ _ (zne (by decide)), ju_i _ _ (zne (by decide)), ju_i _ _ (zne (by decide)), ju_same]; exact h2
  · rw [ju_i _ _ (zne (by decide)), ju_i _ _ (zne (by decide)), ju_same]; exact h4
  · rw [ju_i _ _ (zne (by decide)), ju_same]
  · rw [ju_same]
theorem r_layData_L36_x {A : Nat → Option (Nat × (Nat → Int32))} {Q : Option Value → jm → Prop} {M0 : jm} {g0 : Int} {x0 : Int} {f0 : Int} {c0 : Int} {o0 : Int} (q : ∀ (M' : jm), RI M' → RH M' → RF M' → (((∀ j : Int, 0 ≤ j → j < 360 → wR M' g0 j = glay (wR M0 g0) (rf M0 x0) o0 f0 (mlf c0 o0 (lpf (M0 614 g0))) j) ∧ (∀ j : Int, (j < 360 * g0 ∨ 360 * g0 + 360 ≤ j) → M' 616 j = M0 616 j ∧ M' 615 j = M0 615 j)) ∧ M' 598 34 = 1 ∧ M' 622 0 = mlf c0 o0 (lpf (M0 614 g0)) - gov (wR M0 g0) o0 (mlf c0 o0 (lpf (M0 614 g0))).toNat ∧ M' 622 1 = gov (wR M0 g0) o0 (mlf c0 o0 (lpf (M0 614 g0))).toNat ∧ M' 622 2 = c0 - mlf c0 o0 (lpf (M0 614 g0)) ∧ M' 622 3 = M0 613 g0 ∧ M' 622 4 = M0 614 g0) → (∀ (a : Nat) (i : Int), a ≠ 598 → a ≠ 615 → a ≠ 616 → a ≠ 622 → M' a i = M0 a i) → (∀ (i : Int), i ≠ 34 → M' 598 i = M0 598 i) → Q none M') : ∀ (nM : Nat) (M : jm) (k : Int) (u : Int) (v : Int) (w : Int) (m : Int) (o : Int) (c : Int) (f : Int) (x : Int) (g : Int), RI M → RH M → RF M → (∀ (a : Nat) (i : Int), a ≠ 598 → a ≠ 615 → a ≠ 616 → a ≠ 622 → M a i = M0 a i) → (∀ (i : Int), i ≠ 34 → M 598 i = M0 598 i) → 0 ≤ k ∧ k ≤ 400 → 0 ≤ u ∧ u ≤ 400 → 0 ≤ v ∧ v ≤ 400 → 0 ≤ w ∧ w ≤ 400 → 0 ≤ m ∧ m ≤ 360 → 0 ≤ o ∧ o ≤ 65528 → 0 ≤ c ∧ c ≤ 400 → 0 ≤ f ∧ f ≤ 400 → 0 ≤ x ∧ x ≤ 23 → 0 ≤ g ∧ g ≤ 7 → f + c ≤ 400 → u ≤ k → v ≤ k → w ≤ k → k ≤ c → LDR M0 M g x f o m k u v w → m = lpf (M0 614 g) → g = g0 → x = x0 → f = f0 → c = c0 → o = o0 → 400 - k ≤ nM → jr A 1 xm_294 36 [(10, .int (Int32.ofInt (k))), (9, .int (Int32.ofInt (u))), (8, .int (Int32.ofInt (v))), (7, .int (Int32.ofInt (w))), (6, .int (Int32.ofInt (m))), (5, .int (Int32.ofInt (o))), (4, .int (Int32.ofInt (c))), (3, .int (Int32.ofInt (f))), (2, .int (Int32.ofInt (x))), (1, .int (Int32.ofInt (g))), (0, .ref (598))] [] M Q := by
  intro nM
  induction nM using Nat.strongRecOn with
  | ind nM ih =>
    intro M k u v w m o c f x g hI_M hH_M hS_M hF_M hG_M h_k h_u h_v h_w h_m h_o h_c h_f h_x h_g hy0 hy1 hy2 hy3 hy4 hy5 hy6 hy7 hy8 hy9 hy10 hy11 hm
    subst hy7
    subst hy8
    subst hy9
    subst hy10
    subst hy11
    refine jr.iload rfl rfl ?_
    refine jr.iload rfl rfl ?_
    refine jr.icmp_ge rfl rfl (by first | (refine rgb (by assumption) ?_; exact rfl) | omega) (by first | (refine rgb (by assumption) ?_; exact rfl) | omega) (fun h40 => ?_) (fun h40 => ?_)
    · refine jr.aload_n rfl rfl ?_
      refine jr.iconst rfl ?_
      refine jr.putf (i := 34) (x := 1) rfl rfl (nlt rfl) rfl (nlt rfl) rfl rfl rfl rfl rfl ?_
      refine jr.aload_n rfl rfl ?_
      refine jr.getf (i := 33) (v := .ref 622) rfl rfl (nlt rfl) rfl (nlt rfl) rfl rfl rfl rfl ?_
      refine jr.iconst rfl ?_
      refine jr.iload rfl rfl ?_
      refine jr.iast (i := 0) (x := w) rfl (nlt rfl) rfl (Nat.le_of_ble_eq_true rfl) (by omega) (by omega) ?_
      refine jr.aload_n rfl rfl ?_
      refine jr.getf (i := 33) (v := .ref 622) rfl rfl (nlt rfl) rfl (nlt rfl) rfl rfl rfl rfl ?_
      refine jr.iconst rfl ?_
      refine jr.iload rfl rfl ?_
      refine jr.iast (i := 1) (x := v) rfl (nlt rfl) rfl (Nat.le_of_ble_eq_true rfl) (by omega) (by omega) ?_
      refine jr.aload_n rfl rfl ?_
      refine jr.getf (i := 33) (v := .ref 622) rfl rfl (nlt rfl) rfl (nlt rfl) rfl rfl rfl rfl ?_
      refine jr.iconst rfl ?_
      refine jr.iload rfl rfl ?_
      refine jr.iast (i := 2) (x := u) rfl (nlt rfl) rfl (Nat.le_of_ble_eq_true rfl) (by omega) (by omega) ?_
      refine jr.aload_n rfl rfl ?_
      refine jr.getf (i := 33) (v := .ref 622) rfl rfl (nlt rfl) rfl (nlt rfl) rfl rfl rfl rfl ?_
      refine jr.iconst rfl ?_
      refine jr.aload_n rfl rfl ?_
      refine jr.getf (i := 24) (v := .ref 613) rfl rfl (nlt rfl) rfl (nlt rfl) rfl rfl rfl rfl ?_
      refine jr.iload_n rfl rfl ?_
      obtain ⟨v1, e1⟩ : ∃ z, M 613 g = z := ⟨_, rfl⟩
      have b1 : 0 ≤ v1 ∧ v1 ≤ 720 := by rw [← e1]; exact (by have q := hI_M 613 g (Nat.le_of_ble_eq_true rfl); rw [xri_row rfl rfl] at q; exact q)
      refine jr.iald (i := g) (x := v1) rfl (nlt rfl) rfl (Nat.le_of_ble_eq_true rfl) (by omega) (by omega) ((ju_c _ _ (by decide)).trans ((ju_c _ _ (by decide)).trans ((ju_c _ _ (by decide)).trans ((ju_c _ _ (by decide)).trans e1)))) ?_
      refine jr.iast (i := 3) (x := v1) rfl (nlt rfl) rfl (Nat.le_of_ble_eq_true rfl) (by omega) (by omega) ?_
      refine jr.aload_n rfl rfl ?_
      refine jr.getf (i := 33) (v := .ref 622) rfl rfl (nlt rfl) rfl (nlt rfl) rfl rfl rfl rfl ?_
      refine jr.iconst rfl ?_
      refine jr.aload_n rfl rfl ?_
      refine jr.getf (i := 25) (v := .ref 614) rfl rfl (nlt rfl) rfl (nlt rfl) rfl rfl rfl rfl ?_
      refine jr.iload_n rfl rfl ?_
      obtain ⟨v2, e2⟩ : ∃ z, M 614 g = z := ⟨_, rfl⟩
      have b2 : (-1) ≤ v2 ∧ v2 ≤ 360 := by rw [← e2]; exact (by have q := hI_M 614 g (Nat.le_of_ble_eq_true rfl); rw [xri_row rfl rfl] at q; exact q)
      refine jr.iald (i := g) (x := v2) rfl (nlt rfl) rfl (Nat.le_of_ble_eq_true rfl) (by omega) (by omega) ((ju_c _ _ (by decide)).trans ((ju_c _ _ (by decide)).trans ((ju_c _ _ (by decide)).trans ((ju_c _ _ (by decide)).trans ((ju_c _ _ (by decide)).trans e2))))) ?_
      refine jr.iast (i := 4) (x := v2) rfl (nlt rfl) rfl (Nat.le_of_ble_eq_true rfl) (by omega) (by omega) ?_
      exact jr.vreturn rfl rfl (q _ (RI.u (RI.u (RI.u (RI.u (RI.u (RI.u hI_M (a := 598) (i := 34) (show (0 : Int) ≤ _ ∧ _ ≤ (1 : Int) from by omega)) (a := 622) (i := 0) (by rw [xri_row rfl rfl]; show (-1 : Int) ≤ _ ∧ _ ≤ (720 : Int); omega)) (a := 622) (i := 1) (by rw [xri_row rfl rfl]; show (-1 : Int) ≤ _ ∧ _ ≤ (720 : Int); omega)) (a := 622) (i := 2) (by rw [xri_row rfl rfl]; show (-1 : Int) ≤ _ ∧ _ ≤ (720 : Int); omega)) (a := 622) (i := 3) (by rw [xri_row rfl rfl]; show (-1 : Int) ≤ _ ∧ _ ≤ (720 : Int); omega)) (a := 622) (i := 4) (by rw [xri_row rfl rfl]; show (-1 : Int) ≤ _ ∧ _ ≤ (720 : Int); omega)) (RH.o (RH.o (RH.o (RH.o (RH.o (RH.o hH_M (by decide) (by decide) (by decide)) (by decide) (by decide) (by decide)) (by decide) (by decide) (by decide)) (by decide) (by decide) (by decide)) (by decide) (by decide) (by decide)) (by decide) (by decide) (by decide)) (RF.o (RF.o (RF.o (RF.o (RF.o (RF.o hS_M (by decide) (by decide)) (by decide) (by decide)) (by decide) (by decide)) (by decide) (by decide)) (by decide) (by decide)) (by decide) (by decide))  (by have f14 : M 614 g = M0 614 g := hF_M 614 g (nne rfl) (nne rfl) (nne rfl) (nne rfl); have f13 : M 613 g = M0 613 g := hF_M 613 g (nne rfl) (nne rfl) (nne rfl) (nne rfl); have h9 := ld_end (M2 := (ju (ju (ju (ju (ju (ju M 598 34 1) 622 0 w) 622 1 v) 622 2 u) 622 3 v1) 622 4 v2)) (s5 := v1) hy5 (show k = c from by omega) (by rw [f14]; exact hy6) (by rw [e2]); rw [f14] at h9; rw [show M0 613 g = v1 from by omega]; exact h9) (fun a i f598 f615 f616 f622 => ((ju_c _ _ f622).trans ((ju_c _ _ f622).trans ((ju_c _ _ f622).trans ((ju_c _ _ f622).trans ((ju_c _ _ f622).trans ((ju_c _ _ f598).trans (hF_M a i f598 f615 f616 f622)))))))) (fun i g34 => ((ju_c _ _ (by decide)).trans ((ju_c _ _ (by decide)).trans ((ju_c _ _ (by decide)).trans ((ju_c _ _ (by decide)).trans ((ju_c _ _ (by decide)).trans ((ju_i _ _ g34).trans (hG_M i g34)))))))))
    · refine jr.iload rfl rfl ?_
      refine jr.iload rfl rfl ?_
      refine jr.iadd rfl ?_
      refine jr.iload rfl rfl ?_
      refine jr.icmp_lt rfl rfl (by first | (refine rgb (by assumption) ?_; exact rfl) | omega) (by first | (refine rgb (by assumption) ?_; exact rfl) | omega) (fun h50 => ?_) (fun h50 => ?_)
      · refine jr.aload_n rfl rfl ?_
        refine jr.getf (i := 27) (v := .ref 616) rfl rfl (nlt rfl) rfl (nlt rfl) rfl rfl rfl rfl ?_
        refine jr.sipush rfl (by decide) ?_
        refine jr.iload_n rfl rfl ?_
        refine jr.imul rfl ?_
        refine jr.iload rfl rfl ?_
        refine jr.iadd rfl ?_
        refine jr.iload rfl rfl ?_
        refine jr.iadd rfl ?_
        obtain ⟨v3, e3⟩ : ∃ z, M 616 (((360 * g) + o) + k) = z := ⟨_, rfl⟩
        have b3 : 0 ≤ v3 ∧ v3 ≤ 1 := by rw [← e3]; exact (by have q := hI_M 616 (((360 * g) + o) + k) (by decide); rw [xri_row rfl rfl] at q; exact q)
        refine jr.zald (i := (((360 * g) + o) + k)) (x := v3) rfl (nlt rfl) rfl (Nat.le_of_ble_eq_true rfl) (by omega) (by omega) e3 ?_
        refine jr.if_eq rfl rfl (by first | (refine rgb (by assumption) ?_; exact rfl) | omega) (fun h75 => ?_) (fun h75 => ?_)
        · refine jr.aload_n rfl rfl ?_
          refine jr.getf (i := 27) (v := .ref 616) rfl rfl (nlt rfl) rfl (nlt rfl) rfl rfl rfl rfl ?_
          refine jr.sipush rfl (by decide) ?_
          refine jr.iload_n rfl rfl ?_
          refine jr.imul rfl ?_
          refine jr.iload rfl rfl ?_
          refine jr.iadd rfl ?_
          refine jr.iload rfl rfl ?_
          refine jr.iadd rfl ?_
          refine jr.iconst rfl ?_
          refine jr.zast (i := (((360 * g) + o) + k)) (x := 1) rfl (nlt rfl) rfl (Nat.le_of_ble_eq_true rfl) (by omega) (by omega) (j_zn (by omega)) ?_
          refine jr.aload_n rfl rfl ?_
          refine jr.getf (i := 26) (v := .ref 615) rfl rfl (nlt rfl) rfl (nlt rfl) rfl rfl rfl rfl ?_
          refine jr.sipush rfl (by decide) ?_
          refine jr.iload_n rfl rfl ?_
          refine jr.imul rfl ?_
          refine jr.iload rfl rfl ?_
          refine jr.iadd rfl ?_
          refine jr.iload rfl rfl ?_
          refine jr.iadd rfl ?_
          refine jr.aload_n rfl rfl ?_
          refine jr.iload_n rfl rfl ?_
          refine jr.iload_n rfl rfl ?_
          refine jr.iload rfl rfl ?_
          refine jr.iadd rfl ?_
          refine jr_v rfl rfl (Or.inl rfl) rfl rfl (nlt rfl) rfl ⟨rfl, Nat.le_of_ble_eq_true rfl, Nat.le_of_ble_eq_true rfl⟩ rfl (jc.deep (r_one (RI.u hI_M (a := 616) (i := (((360 * g) + o) + k)) (by rw [xri_row rfl rfl]; show (0 : Int) ≤ _ ∧ _ ≤ (1 : Int); omega)) (RH.o hH_M (by decide) (by decide) (by decide)) (RF.o hS_M (by decide) (by decide)) (Kp.rfl _) (by omega) (by omega)  (fun r4 z4 w4_0 => ?_)) (Nat.le_of_ble_eq_true rfl))
          refine jr.iast (i := (((360 * g) + o) + k)) (x := r4) rfl (nlt rfl) rfl (Nat.le_of_ble_eq_true rfl) (by omega) (by omega) ?_
          refine jr.iinc (ls' := [_, _, _, _, _, _, _, _, _, _, _]) rfl rfl (nlt rfl) rfl ?_
          refine jr.iinc (ls' := [_, _, _, _, _, _, _, _, _, _, _]) rfl rfl (nlt rfl) rfl ?_
          refine jr.goto rfl rfl ?_
          refine jr.pick (ls := [_, _, _, _, _, _, _, _, _, _, _]) [0, 2, 3, 1, 4, 5, 6, 7, 8, 9, 10] rfl rfl ?_
          exact ih (nM - 1) (by omega) (ju (ju M 616 (((360 * g) + o) + k) 1) 615 (((360 * g) + o) + k) r4) (k + 1) u v (w + 1) m o c f x g (RI.u (RI.u hI_M (a := 616) (i := (((360 * g) + o) + k)) (by rw [xri_row rfl rfl]; show (0 : Int) ≤ _ ∧ _ ≤ (1 : Int); omega)) (a := 615) (i := (((360 * g) + o) + k)) (by rw [xri_row rfl rfl]; show (0 : Int) ≤ _ ∧ _ ≤ (255 : Int); omega)) (RH.o (RH.o hH_M (by decide) (by decide) (by decide)) (by decide) (by decide) (by decide)) (RF.o (RF.o hS_M (by decide) (by decide)) (by decide) (by decide))  (fun a i f598 f615 f616 f622 => ((ju_c _ _ f615).trans ((ju_c _ _ f616).trans (hF_M a i f598 f615 f616 f622)))) (fun i g34 => ((ju_c _ _ (by decide)).trans ((ju_c _ _ (by decide)).trans (hG_M i g34)))) (by omega) (by omega) (by omega) (by omega) (by omega) (by omega) (by omega) (by omega) (by omega) (by omega) (by omega) (by omega) (by omega) (by omega) (by omega) (LDR.w hy5 (by omega) (by omega) (by omega) (by omega) (by omega) (by omega) (by rw [show rf M0 x (f + k) = M0 601 (400 * x + (f + k)) from rfl, ← hF_M 601 _ (by decide) (by decide) (by decide) (by decide)]; have h8 := w4_0; rw [ju_c _ _ (by decide)] at h8; exact h8)) hy6 (by omega) (by omega) (by omega) (by omega) (by omega) (by omega)
        · have sx75 : (1 : Int) ≤ v3 := by omega
          clear h75
          refine jr.iinc (ls' := [_, _, _, _, _, _, _, _, _, _, _]) rfl rfl (nlt rfl) rfl ?_
          refine jr.goto rfl rfl ?_
          refine jr.iinc (ls' := [_, _, _, _, _, _, _, _, _, _, _]) rfl rfl (nlt rfl) rfl ?_
          refine jr.goto rfl rfl ?_
          refine jr.pick (ls := [_, _, _, _, _, _, _, _, _, _, _]) [0, 2, 1, 3, 4, 5, 6, 7, 8, 9, 10] rfl rfl ?_
          exact ih (nM - 1) (by omega) M (k + 1) u (v + 1) w m o c f x g hI_M hH_M hS_M  (fun a i f598 f615 f616 f622 => (hF_M a i f598 f615 f616 f622)) (fun i g34 => (hG_M i g34)) (by omega) (by omega) (by omega) (by omega) (by omega) (by omega) (by omega) (by omega) (by omega) (by omega) (by omega) (by omega) (by omega) (by omega) (by omega) (LDR.o hy5 (by omega) (by omega) (by omega) (by omega) (by omega) (by have h9 : (0 : Int) ≤ M 615 (360 * g + o + k) ∧ M 615 (360 * g + o + k) ≤ 255 := (by have q := hI_M 615 (360 * g + o + k) (Nat.le_of_ble_eq_true rfl); rw [xri_row rfl rfl] at q; exact q); omega)) hy6 (by omega) (by omega) (by omega) (by omega) (by omega) (by omega)
      · refine jr.iinc (ls' := [_, _, _, _, _, _, _, _, _, _, _]) rfl rfl (nlt rfl) rfl ?_
        refine jr.goto rfl rfl ?_
        refine jr.iinc (ls' := [_, _, _, _, _, _, _, _, _, _, _]) rfl rfl (nlt rfl) rfl ?_
        refine jr.goto rfl rfl ?_
        refine jr.pick (ls := [_, _, _, _, _, _, _, _, _, _, _]) [0, 1, 2, 3, 4, 5, 6, 7, 8, 9, 10] rfl rfl ?_
        exact ih (nM - 1) (by omega) M (k + 1) (u + 1) v w m o c f x g hI_M hH_M hS_M  (fun a i f598 f615 f616 f622 => (hF_M a i f598 f615 f616 f622)) (fun i g34 => (hG_M i g34)) (by omega) (by omega) (by omega) (by omega) (by omega) (by omega) (by omega) (by omega) (by omega) (by omega) (by omega) (by omega) (by omega) (by omega) (by omega) (LDR.b hy5 (by omega) (by omega) (by omega)) hy6 (by omega) (by omega) (by omega) (by omega) (by omega) (by omega)
theorem r_layData_x {A : Nat → Option (Nat × (Nat → Int32))} {Q : Option Value → jm → Prop} {M : jm} (hI_M : RI M) (hH_M : RH M) (hS_M : RF M) {g : Int} (h_g : 0 ≤ g ∧ g ≤ 7) {x : Int} (h_x : 0 ≤ x ∧ x ≤ 23) {f : Int} (h_f : 0 ≤ f ∧ f ≤ 400) {c : Int} (h_c : 0 ≤ c ∧ c ≤ 400) {o : Int} (h_o : 0 ≤ o ∧ o ≤ 65528) (p0 : f + c ≤ 400) (p1 : (M 614 g = -1 ∨ (0 ≤ M 614 g ∧ M 614 g ≤ 360))) (q : ∀ (M' : jm), RI M' → RH M' → RF M' → (((∀ j : Int, 0 ≤ j → j < 360 → wR M' g j = glay (wR M g) (rf M x) o f (mlf c o (lpf (M 614 g))) j) ∧ (∀ j : Int, (j < 360 * g ∨ 360 * g + 360 ≤ j) → M' 616 j = M 616 j ∧ M' 615 j = M 615 j)) ∧ M' 598 34 = 1 ∧ M' 622 0 = mlf c o (lpf (M 614 g)) - gov (wR M g) o (mlf c o (lpf (M 614 g))).toNat ∧ M' 622 1 = gov (wR M g) o (mlf c o (lpf (M 614 g))).toNat ∧ M' 622 2 = c - mlf c o (lpf (M 614 g)) ∧ M' 622 3 = M 613 g ∧ M' 622 4 = M 614 g) → (∀ (a : Nat) (i : Int), a ≠ 598 → a ≠ 615 → a ≠ 616 → a ≠ 622 → M' a i = M a i) → (∀ (i : Int), i ≠ 34 → M' 598 i = M 598 i) → Q none M') : jc A 2 294 [.ref (598), .int (Int32.ofInt (g)), .int (Int32.ofInt (x)), .int (Int32.ofInt (f)), .int (Int32.ofInt (c)), .int (Int32.ofInt (o))] M Q := by
  refine jc_of (m := xm_294) rfl (Nat.le_of_ble_eq_true rfl) rfl ?_
  refine jr.aload_n rfl rfl ?_
  refine jr.getf (i := 25) (v := .ref 614) rfl rfl (nlt rfl) rfl (nlt rfl) rfl rfl rfl rfl ?_
  refine jr.iload_n rfl rfl ?_
  obtain ⟨v1, e1⟩ : ∃ z, M 614 g = z := ⟨_, rfl⟩
  have b1 : (-1) ≤ v1 ∧ v1 ≤ 360 := by rw [← e1]; exact (by have q := hI_M 614 g (Nat.le_of_ble_eq_true rfl); rw [xri_row rfl rfl] at q; exact q)
  refine jr.iald (i := g) (x := v1) rfl (nlt rfl) rfl (Nat.le_of_ble_eq_true rfl) (by omega) (by omega) e1 ?_
  refine jr.iconst rfl ?_
  refine jr.icmp_ne rfl rfl (by first | (refine rgb (by assumption) ?_; exact rfl) | omega) (rgl rfl) (fun h7 => ?_) (fun h7 => ?_)
  · have sx7 : (0 : Int) ≤ v1 := by omega
    clear h7
    refine jr.aload_n rfl rfl ?_
    refine jr.getf (i := 25) (v := .ref 614) rfl rfl (nlt rfl) rfl (nlt rfl) rfl rfl rfl rfl ?_
    refine jr.iload_n rfl rfl ?_
    refine jr.iald (i := g) (x := v1) rfl (nlt rfl) rfl (Nat.le_of_ble_eq_true rfl) (by omega) (by omega) e1 ?_
    refine jr.istore (ls' := [_, _, _, _, _, _, _]) rfl (nlt rfl) rfl ?_
    refine jr.iconst rfl ?_
    refine jr.istore (ls' := [_, _, _, _, _, _, _, _]) rfl (nlt rfl) rfl ?_
    refine jr.iconst rfl ?_
    refine jr.istore (ls' := [_, _, _, _, _, _, _, _, _]) rfl (nlt rfl) rfl ?_
    refine jr.iconst rfl ?_
    refine jr.istore (ls' := [_, _, _, _, _, _, _, _, _, _]) rfl (nlt rfl) rfl ?_
    refine jr.iconst rfl ?_
    refine jr.istore (ls' := [_, _, _, _, _, _, _, _, _, _, _]) rfl (nlt rfl) rfl ?_
    refine jr.pick (ls := [_, _, _, _, _, _, _, _, _, _, _]) [0, 1, 2, 3, 4, 10, 9, 8, 7, 6, 5] rfl rfl ?_
    exact r_layData_L36_x q 400 M 0 0 0 0 v1 o c f x g hI_M hH_M hS_M  (fun a i f598 f615 f616 f622 => rfl) (fun i g34 => rfl) (by omega) (by omega) (by omega) (by omega) (by omega) (by omega) (by omega) (by omega) (by omega) (by omega) (by omega) (by omega) (by omega) (by omega) (by omega) LDR.z (by first | (have h9 := lpf_w (w := M 614 g) (by omega); omega) | (unfold lpf; rw [if_pos (by omega)])) (by omega) (by omega) (by omega) (by omega) (by omega) (by omega)
  · refine jr.sipush rfl (by decide) ?_
    refine jr.goto rfl rfl ?_
    refine jr.istore (ls' := [_, _, _, _, _, _, _]) rfl (nlt rfl) rfl ?_
    refine jr.iconst rfl ?_
    refine jr.istore (ls' := [_, _, _, _, _, _, _, _]) rfl (nlt rfl) rfl ?_
    refine jr.iconst rfl ?_
    refine jr.istore (ls' := [_, _, _, _, _, _, _, _, _]) rfl (nlt rfl) rfl ?_
    refine jr.iconst rfl ?_
    refine jr.istore (ls' := [_, _, _, _, _, _, _, _, _, _]) rfl (nlt rfl) rfl ?_
    refine jr.iconst rfl ?_
    refine jr.istore (ls' := [_, _, _, _, _, _, _, _, _, _, _]) rfl (nlt rfl) rfl ?_
    refine jr.pick (ls := [_, _, _, _, _, _, _, _, _, _, _]) [0, 1, 2, 3, 4, 10, 9, 8, 7, 6, 5] rfl rfl ?_
    exact r_layData_L36_x q 400 M 0 0 0 0 360 o c f x g hI_M hH_M hS_M  (fun a i f598 f615 f616 f622 => rfl) (fun i g34 => rfl) (by omega) (by omega) (by omega) (by omega) (by omega) (by omega) (by omega) (by omega) (by omega) (by omega) (by omega) (by omega) (by omega) (by omega) (by omega) LDR.z (by first | (have h9 := lpf_w (w := M 614 g) (by omega); omega) | (unfold lpf; rw [if_pos (by omega)])) (by omega) (by omega) (by omega) (by omega) (by omega) (by omega)
end
section
/-! ===== the reference: headers kept ===== -/
theorem r_keepHeaders_L22_x {A : Nat → Option (Nat × (Nat → Int32))} {Q : Option Value → jm → Prop} {M0 : jm} {g0 : Int} {x0 : Int} {h0 : Int} {t0 : Int} (q : ∀ (M' : jm), RI M' → RH M' → RF M' → RG1 M' → ((M' 617 g0 = M0 604 h0 + M0 605 h0 ∧ M' 619 g0 = M0 604 h0 ∧ M' 621 g0 = M0 604 t0 ∧ M' 620 g0 = (if h0 = 0 then 0 else M0 604 (h0 - 1) + (if M0 603 (h0 - 1) = 3 then 4 else 0))) ∧ (∀ i : Int, 0 ≤ i → i < M0 604 h0 + M0 605 h0 → M' 618 (400 * g0 + i) = rf M0 x0 i) ∧ (∀ (b : Nat) (j : Int), b ≠ 618 → j ≠ g0 → M' b j = M0 b j) ∧ (∀ j : Int, (j < 400 * g0 ∨ 400 * g0 + 400 ≤ j) → M' 618 j = M0 618 j)) → (∀ (a : Nat) (i : Int), a ≠ 617 → a ≠ 618 → a ≠ 619 → a ≠ 620 → a ≠ 621 → M' a i = M0 a i) → Q none M') : ∀ (nM : Nat) (M : jm) (k : Int) (t : Int) (h : Int) (x : Int) (g : Int), RI M → RH M → RF M → (∀ (a : Nat) (i : Int), a ≠ 617 → a ≠ 618 → a ≠ 619 → a ≠ 620 → a ≠ 621 → M a i = M0 a i) → 0 ≤ k ∧ k ≤ 400 → 0 ≤ t ∧ t ≤ 11 → 0 ≤ h ∧ h ≤ 11 → 0 ≤ x ∧ x ≤ 23 → 0 ≤ g ∧ g ≤ 7 → RG1x M g → (M 604 t < k → M 618 (400 * g + M 604 t) = M 601 (400 * x + M 604 t)) → M 617 g = M 604 h + M 605 h → 8 ≤ M 604 h + M 605 h ∧ M 604 t ≤ 380 ∧ M 604 h ≤ 392 ∧ (M 607 g = 2 → (t = h ∧ M 605 h = 4 * (M 601 (400 * x + M 604 h) % 16) ∧ 20 ≤ M 605 h)) → 1 ≤ M 613 g → (∀ i : Int, 0 ≤ i → i < k → M 618 (400 * g + i) = rf M0 x i) → (∀ (b : Nat) (j : Int), b ≠ 618 → j ≠ g → M b j = M0 b j) → (∀ j : Int, (j < 400 * g ∨ 400 * g + 400 ≤ j) → M 618 j = M0 618 j) → g = g0 → x = x0 → h = h0 → t = t0 → 400 - k ≤ nM → jr A 1 xm_295 22 [(5, .int (Int32.ofInt (k))), (4, .int (Int32.ofInt (t))), (3, .int (Int32.ofInt (h))), (2, .int (Int32.ofInt (x))), (1, .int (Int32.ofInt (g))), (0, .ref (598))] [] M Q := by
  intro nM
  induction nM using Nat.strongRecOn with
  | ind nM ih =>
    intro M k t h x g hI_M hH_M hS_M hF_M h_k h_t h_h h_x h_g hy0 hy1 hy2 hy3 hy4 hy5 hy6 hy7 hy8 hy9 hy10 hy11 hm
    subst hy8
    subst hy9
    subst hy10
    subst hy11
    have hx := hy0
    obtain ⟨k1, k2, k3, k4⟩ := hy3
    have hy3 := And.intro k1 (And.intro k2 (And.intro k3 k4))
    have rt := RH.two hH_M (h - 1)
    have r1 := (hH_M (h - 1)).2
    have r2 := (hH_M h).2
    have nb : (0 : Int) ≤ M 604 t ∧ M 604 t ≤ 400 := by have q := hI_M 604 t (Nat.le_of_ble_eq_true rfl); rw [xri_row rfl rfl] at q; exact q
    refine jr.iload rfl rfl ?_
    refine jr.aload_n rfl rfl ?_
    refine jr.getf (i := 28) (v := .ref 617) rfl rfl (nlt rfl) rfl (nlt rfl) rfl rfl rfl rfl ?_
    refine jr.iload_n rfl rfl ?_
    obtain ⟨v1, e1⟩ : ∃ z, M 617 g = z := ⟨_, rfl⟩
    have b1 : (-1) ≤ v1 ∧ v1 ≤ 400 := by rw [← e1]; exact (by have q := hI_M 617 g (Nat.le_of_ble_eq_true rfl); rw [xri_row rfl rfl] at q; exact q)
    refine jr.iald (i := g) (x := v1) rfl (nlt rfl) rfl (Nat.le_of_ble_eq_true rfl) (by omega) (by omega) e1 ?_
    refine jr.icmp_ge rfl rfl (by first | (refine rgb (by assumption) ?_; exact rfl) | omega) (by first | (refine rgb (by assumption) ?_; exact rfl) | omega) (fun h30 => ?_) (fun h30 => ?_)
    · refine jr.aload_n rfl rfl ?_
      refine jr.getf (i := 30) (v := .ref 619) rfl rfl (nlt rfl) rfl (nlt rfl) rfl rfl rfl rfl ?_
      refine jr.iload_n rfl rfl ?_
      refine jr.aload_n rfl rfl ?_
      refine jr.getf (i := 8) (v := .ref 604) rfl rfl (nlt rfl) rfl (nlt rfl) rfl rfl rfl rfl ?_
      refine jr.iload_n rfl rfl ?_
      obtain ⟨v2, e2⟩ : ∃ z, M 604 h = z := ⟨_, rfl⟩
      have b2 : 0 ≤ v2 ∧ v2 ≤ 400 := by rw [← e2]; exact (by have q := hI_M 604 h (Nat.le_of_ble_eq_true rfl); rw [xri_row rfl rfl] at q; exact q)
      refine jr.iald (i := h) (x := v2) rfl (nlt rfl) rfl (Nat.le_of_ble_eq_true rfl) (by omega) (by omega) e2 ?_
      refine jr.iast (i := g) (x := v2) rfl (nlt rfl) rfl (Nat.le_of_ble_eq_true rfl) (by omega) (by omega) ?_
      refine jr.aload_n rfl rfl ?_
      refine jr.getf (i := 31) (v := .ref 620) rfl rfl (nlt rfl) rfl (nlt rfl) rfl rfl rfl rfl ?_
      refine jr.iload_n rfl rfl ?_
      refine jr.iload_n rfl rfl ?_
      refine jr.if_ne rfl rfl (by first | (refine rgb (by assumption) ?_; exact rfl) | omega) (fun h77 => ?_) (fun h77 => ?_)
      · have sx77 : (1 : Int) ≤ h := by omega
        clear h77
        refine jr.aload_n rfl rfl ?_
        refine jr.getf (i := 8) (v := .ref 604) rfl rfl (nlt rfl) rfl (nlt rfl) rfl rfl rfl rfl ?_
        refine jr.iload_n rfl rfl ?_
        refine jr.iconst rfl ?_
        refine jr.isub rfl ?_
        obtain ⟨v3, e3⟩ : ∃ z, M 604 (h - 1) = z := ⟨_, rfl⟩
        have b3 : 0 ≤ v3 ∧ v3 ≤ 400 := by rw [← e3]; exact (by have q := hI_M 604 (h - 1) (Nat.le_of_ble_eq_true rfl); rw [xri_row rfl rfl] at q; exact q)
        refine jr.iald (i := (h - 1)) (x := v3) rfl (nlt rfl) rfl (Nat.le_of_ble_eq_true rfl) (by omega) (by omega) ((ju_c _ _ (by decide)).trans e3) ?_
        refine jr.aload_n rfl rfl ?_
        refine jr.getf (i := 7) (v := .ref 603) rfl rfl (nlt rfl) rfl (nlt rfl) rfl rfl rfl rfl ?_
        refine jr.iload_n rfl rfl ?_
        refine jr.iconst rfl ?_
        refine jr.isub rfl ?_
        obtain ⟨v4, e4⟩ : ∃ z, M 603 (h - 1) = z := ⟨_, rfl⟩
        have b4 : 0 ≤ v4 ∧ v4 ≤ 11 := by rw [← e4]; exact (by have q := hI_M 603 (h - 1) (Nat.le_of_ble_eq_true rfl); rw [xri_row rfl rfl] at q; exact q)
        refine jr.iald (i := (h - 1)) (x := v4) rfl (nlt rfl) rfl (Nat.le_of_ble_eq_true rfl) (by omega) (by omega) ((ju_c _ _ (by decide)).trans e4) ?_
        refine jr.iconst rfl ?_
        refine jr.icmp_ne rfl rfl (by first | (refine rgb (by assumption) ?_; exact rfl) | omega) (rgl rfl) (fun h101 => ?_) (fun h101 => ?_)
        · refine jr.iconst rfl ?_
          refine jr.iadd rfl ?_
          refine jr.iast (i := g) (x := (v3 + 0)) rfl (nlt rfl) rfl (Nat.le_of_ble_eq_true rfl) (by omega) (by omega) ?_
          refine jr.aload_n rfl rfl ?_
          refine jr.getf (i := 32) (v := .ref 621) rfl rfl (nlt rfl) rfl (nlt rfl) rfl rfl rfl rfl ?_
          refine jr.iload_n rfl rfl ?_
          refine jr.aload_n rfl rfl ?_
          refine jr.getf (i := 8) (v := .ref 604) rfl rfl (nlt rfl) rfl (nlt rfl) rfl rfl rfl rfl ?_
          refine jr.iload rfl rfl ?_
          obtain ⟨v5, e5⟩ : ∃ z, M 604 t = z := ⟨_, rfl⟩
          have b5 : 0 ≤ v5 ∧ v5 ≤ 400 := by rw [← e5]; exact (by have q := hI_M 604 t (Nat.le_of_ble_eq_true rfl); rw [xri_row rfl rfl] at q; exact q)
          refine jr.iald (i := t) (x := v5) rfl (nlt rfl) rfl (Nat.le_of_ble_eq_true rfl) (by omega) (by omega) ((ju_c _ _ (by decide)).trans ((ju_c _ _ (by decide)).trans e5)) ?_
          refine jr.iast (i := g) (x := v5) rfl (nlt rfl) rfl (Nat.le_of_ble_eq_true rfl) (by omega) (by omega) ?_
          obtain ⟨v6, e6⟩ : ∃ z, M 613 g = z := ⟨_, rfl⟩
          have b6 : 0 ≤ v6 ∧ v6 ≤ 720 := by rw [← e6]; exact (by have q := hI_M 613 g (Nat.le_of_ble_eq_true rfl); rw [xri_row rfl rfl] at q; exact q)
          obtain ⟨v7, e7⟩ : ∃ z, M 607 g = z := ⟨_, rfl⟩
          have b7 : 0 ≤ v7 ∧ v7 ≤ 11 := by rw [← e7]; exact (by have q := hI_M 607 g (Nat.le_of_ble_eq_true rfl); rw [xri_row rfl rfl] at q; exact q)
          obtain ⟨v8, e8⟩ : ∃ z, M 618 (400 * g + (v5)) = z := ⟨_, rfl⟩
          have b8 : 0 ≤ v8 ∧ v8 ≤ 255 := by rw [← e8]; exact (by have q := hI_M 618 (400 * g + (v5)) (by decide); rw [xri_row rfl rfl] at q; exact q)
          exact jr.vreturn rfl rfl (q _ (RI.u (RI.u (RI.u hI_M (a := 619) (i := g) (by rw [xri_row rfl rfl]; show (0 : Int) ≤ _ ∧ _ ≤ (400 : Int); omega)) (a := 620) (i := g) (by rw [xri_row rfl rfl]; show (0 : Int) ≤ _ ∧ _ ≤ (400 : Int); omega)) (a := 621) (i := g) (by rw [xri_row rfl rfl]; show (0 : Int) ≤ _ ∧ _ ≤ (400 : Int); omega)) (RH.o (RH.o (RH.o hH_M (by decide) (by decide) (by decide)) (by decide) (by decide) (by decide)) (by decide) (by decide) (by decide)) (RF.o (RF.o (RF.o hS_M (by decide) (by decide)) (by decide) (by decide)) (by decide) (by decide))  (RG1.mk (RG1x.s (RG1x.s (RG1x.s hx (by decide)) (by decide)) (by decide)) (RGs.mk' ((ju_c _ _ (by decide)).trans ((ju_c _ _ (by decide)).trans ((ju_c _ _ (by decide)).trans e6))) ((ju_c _ _ (by decide)).trans ((ju_c _ _ (by decide)).trans ((ju_c _ _ (by decide)).trans e1))) (ju_same _ _ _ _) ((ju_c _ _ (by decide)).trans ((ju_c _ _ (by decide)).trans (ju_same _ _ _ _))) ((ju_c _ _ (by decide)).trans (ju_same _ _ _ _)) ((ju_c _ _ (by decide)).trans ((ju_c _ _ (by decide)).trans ((ju_c _ _ (by decide)).trans e7))) (e7 := ((ju_c _ _ (by decide)).trans ((ju_c _ _ (by decide)).trans ((ju_c _ _ (by decide)).trans e8)))) (by omega) (by omega) (by omega) (by omega) (by omega) (by omega) (fun q7 => by obtain ⟨z1, z2, z3⟩ := k4 (by omega); subst z1; have z4 := hy1 (by omega); rw [e5] at z2 z4; omega))) (by have a1 := hF_M 604 h (nne rfl) (nne rfl) (nne rfl) (nne rfl) (nne rfl); have a2 := hF_M 605 h (nne rfl) (nne rfl) (nne rfl) (nne rfl) (nne rfl); have a3 := hF_M 604 t (nne rfl) (nne rfl) (nne rfl) (nne rfl) (nne rfl); have a4 := hF_M 604 (h - 1) (nne rfl) (nne rfl) (nne rfl) (nne rfl) (nne rfl); have a5 := hF_M 603 (h - 1) (nne rfl) (nne rfl) (nne rfl) (nne rfl) (nne rfl); exact ⟨⟨(by rw [show (ju (ju (ju M 619 g v2) 620 g (v3 + 0)) 621 g v5) 617 g = v1 from ((ju_c _ _ (by decide)).trans ((ju_c _ _ (by decide)).trans ((ju_c _ _ (by decide)).trans e1)))]; have h9 := hy2; omega), (by rw [show (ju (ju (ju M 619 g v2) 620 g (v3 + 0)) 621 g v5) 619 g = v2 from ((ju_c _ _ (by decide)).trans ((ju_c _ _ (by decide)).trans (ju_same _ _ _ _)))]; omega), (by rw [show (ju (ju (ju M 619 g v2) 620 g (v3 + 0)) 621 g v5) 621 g = v5 from (ju_same _ _ _ _)]; omega), (by rw [show (ju (ju (ju M 619 g v2) 620 g (v3 + 0)) 621 g v5) 620 g = v3 + 0 from ((ju_c _ _ (by decide)).trans (ju_same _ _ _ _))]; first | (rw [if_pos (by omega)]) | (rw [if_neg (by omega)]; first | (rw [if_pos (by omega)]; omega) | (rw [if_neg (by omega)]; omega)))⟩, fun i i0 i1 => by rw [ju_c _ _ (by decide), ju_c _ _ (by decide), ju_c _ _ (by decide)]; exact hy5 i i0 (by omega), fun b j hb hj => by rw [ju_i _ _ hj, ju_i _ _ hj, ju_i _ _ hj]; exact hy6 b j hb hj, fun j hj => by rw [ju_c _ _ (by decide), ju_c _ _ (by decide), ju_c _ _ (by decide)]; exact hy7 j hj⟩) (fun a i f617 f618 f619 f620 f621 => ((ju_c _ _ f621).trans ((ju_c _ _ f620).trans ((ju_c _ _ f619).trans (hF_M a i f617 f618 f619 f620 f621))))))
        · refine jr.iconst rfl ?_
          refine jr.goto rfl rfl ?_
          refine jr.iadd rfl ?_
          refine jr.iast (i := g) (x := (v3 + 4)) rfl (nlt rfl) rfl (Nat.le_of_ble_eq_true rfl) (by omega) (by omega) ?_
          refine jr.aload_n rfl rfl ?_
          refine jr.getf (i := 32) (v := .ref 621) rfl rfl (nlt rfl) rfl (nlt rfl) rfl rfl rfl rfl ?_
          refine jr.iload_n rfl rfl ?_
          refine jr.aload_n rfl rfl ?_
          refine jr.getf (i := 8) (v := .ref 604) rfl rfl (nlt rfl) rfl (nlt rfl) rfl rfl rfl rfl ?_
          refine jr.iload rfl rfl ?_
          obtain ⟨v9, e9⟩ : ∃ z, M 604 t = z := ⟨_, rfl⟩
          have b9 : 0 ≤ v9 ∧ v9 ≤ 400 := by rw [← e9]; exact (by have q := hI_M 604 t (Nat.le_of_ble_eq_true rfl); rw [xri_row rfl rfl] at q; exact q)
          refine jr.iald (i := t) (x := v9) rfl (nlt rfl) rfl (Nat.le_of_ble_eq_true rfl) (by omega) (by omega) ((ju_c _ _ (by decide)).trans ((ju_c _ _ (by decide)).trans e9)) ?_
          refine jr.iast (i := g) (x := v9) rfl (nlt rfl) rfl (Nat.le_of_ble_eq_true rfl) (by omega) (by omega) ?_
          obtain ⟨v10, e10⟩ : ∃ z, M 613 g = z := ⟨_, rfl⟩
          have b10 : 0 ≤ v10 ∧ v10 ≤ 720 := by rw [← e10]; exact (by have q := hI_M 613 g (Nat.le_of_ble_eq_true rfl); rw [xri_row rfl rfl] at q; exact q)
          obtain ⟨v11, e11⟩ : ∃ z, M 607 g = z := ⟨_, rfl⟩
          have b11 : 0 ≤ v11 ∧ v11 ≤ 11 := by rw [← e11]; exact (by have q := hI_M 607 g (Nat.le_of_ble_eq_true rfl); rw [xri_row rfl rfl] at q; exact q)
          obtain ⟨v12, e12⟩ : ∃ z, M 618 (400 * g + (v9)) = z := ⟨_, rfl⟩
          have b12 : 0 ≤ v12 ∧ v12 ≤ 255 := by rw [← e12]; exact (by have q := hI_M 618 (400 * g + (v9)) (by decide); rw [xri_row rfl rfl] at q; exact q)
          exact jr.vreturn rfl rfl (q _ (RI.u (RI.u (RI.u hI_M (a := 619) (i := g) (by rw [xri_row rfl rfl]; show (0 : Int) ≤ _ ∧ _ ≤ (400 : Int); omega)) (a := 620) (i := g) (by rw [xri_row rfl rfl]; show (0 : Int) ≤ _ ∧ _ ≤ (400 : Int); omega)) (a := 621) (i := g) (by rw [xri_row rfl rfl]; show (0 : Int) ≤ _ ∧ _ ≤ (400 : Int); omega)) (RH.o (RH.o (RH.o hH_M (by decide) (by decide) (by decide)) (by decide) (by decide) (by decide)) (by decide) (by decide) (by decide)) (RF.o (RF.o (RF.o hS_M (by decide) (by decide)) (by decide) (by decide)) (by decide) (by decide))  (RG1.mk (RG1x.s (RG1x.s (RG1x.s hx (by decide)) (by decide)) (by decide)) (RGs.mk' ((ju_c _ _ (by decide)).trans ((ju_c _ _ (by decide)).trans ((ju_c _ _ (by decide)).trans e10))) ((ju_c _ _ (by decide)).trans ((ju_c _ _ (by decide)).trans ((ju_c _ _ (by decide)).trans e1))) (ju_same _ _ _ _) ((ju_c _ _ (by decide)).trans ((ju_c _ _ (by decide)).trans (ju_same _ _ _ _))) ((ju_c _ _ (by decide)).trans (ju_same _ _ _ _)) ((ju_c _ _ (by decide)).trans ((ju_c _ _ (by decide)).trans ((ju_c _ _ (by decide)).trans e11))) (e7 := ((ju_c _ _ (by decide)).trans ((ju_c _ _ (by decide)).trans ((ju_c _ _ (by decide)).trans e12)))) (by omega) (by omega) (by omega) (by omega) (by omega) (by omega) (fun q7 => by obtain ⟨z1, z2, z3⟩ := k4 (by omega); subst z1; have z4 := hy1 (by omega); rw [e9] at z2 z4; omega))) (by have a1 := hF_M 604 h (nne rfl) (nne rfl) (nne rfl) (nne rfl) (nne rfl); have a2 := hF_M 605 h (nne rfl) (nne rfl) (nne rfl) (nne rfl) (nne rfl); have a3 := hF_M 604 t (nne rfl) (nne rfl) (nne rfl) (nne rfl) (nne rfl); have a4 := hF_M 604 (h - 1) (nne rfl) (nne rfl) (nne rfl) (nne rfl) (nne rfl); have a5 := hF_M 603 (h - 1) (nne rfl) (nne rfl) (nne rfl) (nne rfl) (nne rfl); exact ⟨⟨(by rw [show (ju (ju (ju M 619 g v2) 620 g (v3 + 4)) 621 g v9) 617 g = v1 from ((ju_c _ _ (by decide)).trans ((ju_c _ _ (by decide)).trans ((ju_c _ _ (by decide)).trans e1)))]; have h9 := hy2; omega), (by rw [show (ju (ju (ju M 619 g v2) 620 g (v3 + 4)) 621 g v9) 619 g = v2 from ((ju_c _ _ (by decide)).trans ((ju_c _ _ (by decide)).trans (ju_same _ _ _ _)))]; omega), (by rw [show (ju (ju (ju M 619 g v2) 620 g (v3 + 4)) 621 g v9) 621 g = v9 from (ju_same _ _ _ _)]; omega), (by rw [show (ju (ju (ju M 619 g v2) 620 g (v3 + 4)) 621 g v9) 620 g = v3 + 4 from ((ju_c _ _ (by decide)).trans (ju_same _ _ _ _))]; first | (rw [if_pos (by omega)]) | (rw [if_neg (by omega)]; first | (rw [if_pos (by omega)]; omega) | (rw [if_neg (by omega)]; omega)))⟩, fun i i0 i1 => by rw [ju_c _ _ (by decide), ju_c _ _ (by decide), ju_c _ _ (by decide)]; exact hy5 i i0 (by omega), fun b j hb hj => by rw [ju_i _ _ hj, ju_i _ _ hj, ju_i _ _ hj]; exact hy6 b j hb hj, fun j hj => by rw [ju_c _ _ (by decide), ju_c _ _ (by decide), ju_c _ _ (by decide)]; exact hy7 j hj⟩) (fun a i f617 f618 f619 f620 f621 => ((ju_c _ _ f621).trans ((ju_c _ _ f620).trans ((ju_c _ _ f619).trans (hF_M a i f617 f618 f619 f620 f621))))))
      · refine jr.iconst rfl ?_
        refine jr.goto rfl rfl ?_
        refine jr.iast (i := g) (x := 0) rfl (nlt rfl) rfl (Nat.le_of_ble_eq_true rfl) (by omega) (by omega) ?_
        refine jr.aload_n rfl rfl ?_
        refine jr.getf (i := 32) (v := .ref 621) rfl rfl (nlt rfl) rfl (nlt rfl) rfl rfl rfl rfl ?_
        refine jr.iload_n rfl rfl ?_
        refine jr.aload_n rfl rfl ?_
        refine jr.getf (i := 8) (v := .ref 604) rfl rfl (nlt rfl) rfl (nlt rfl) rfl rfl rfl rfl ?_
        refine jr.iload rfl rfl ?_
        obtain ⟨v13, e13⟩ : ∃ z, M 604 t = z := ⟨_, rfl⟩
        have b13 : 0 ≤ v13 ∧ v13 ≤ 400 := by rw [← e13]; exact (by have q := hI_M 604 t (Nat.le_of_ble_eq_true rfl); rw [xri_row rfl rfl] at q; exact q)
        refine jr.iald (i := t) (x := v13) rfl (nlt rfl) rfl (Nat.le_of_ble_eq_true rfl) (by omega) (by omega) ((ju_c _ _ (by decide)).trans ((ju_c _ _ (by decide)).trans e13)) ?_
        refine jr.iast (i := g) (x := v13) rfl (nlt rfl) rfl (Nat.le_of_ble_eq_true rfl) (by omega) (by omega) ?_
        obtain ⟨v14, e14⟩ : ∃ z, M 613 g = z := ⟨_, rfl⟩
        have b14 : 0 ≤ v14 ∧ v14 ≤ 720 := by rw [← e14]; exact (by have q := hI_M 613 g (Nat.le_of_ble_eq_true rfl); rw [xri_row rfl rfl] at q; exact q)
        obtain ⟨v15, e15⟩ : ∃ z, M 607 g = z := ⟨_, rfl⟩
        have b15 : 0 ≤ v15 ∧ v15 ≤ 11 := by rw [← e15]; exact (by have q := hI_M 607 g (Nat.le_of_ble_eq_true rfl); rw [xri_row rfl rfl] at q; exact q)
        obtain ⟨v16, e16⟩ : ∃ z, M 618 (400 * g + (v13)) = z := ⟨_, rfl⟩
        have b16 : 0 ≤ v16 ∧ v16 ≤ 255 := by rw [← e16]; exact (by have q := hI_M 618 (400 * g + (v13)) (by decide); rw [xri_row rfl rfl] at q; exact q)
        exact jr.vreturn rfl rfl (q _ (RI.u (RI.u (RI.u hI_M (a := 619) (i := g) (by rw [xri_row rfl rfl]; show (0 : Int) ≤ _ ∧ _ ≤ (400 : Int); omega)) (a := 620) (i := g) (by rw [xri_row rfl rfl]; show (0 : Int) ≤ _ ∧ _ ≤ (400 : Int); omega)) (a := 621) (i := g) (by rw [xri_row rfl rfl]; show (0 : Int) ≤ _ ∧ _ ≤ (400 : Int); omega)) (RH.o (RH.o (RH.o hH_M (by decide) (by decide) (by decide)) (by decide) (by decide) (by decide)) (by decide) (by decide) (by decide)) (RF.o (RF.o (RF.o hS_M (by decide) (by decide)) (by decide) (by decide)) (by decide) (by decide))  (RG1.mk (RG1x.s (RG1x.s (RG1x.s hx (by decide)) (by decide)) (by decide)) (RGs.mk' ((ju_c _ _ (by decide)).trans ((ju_c _ _ (by decide)).trans ((ju_c _ _ (by decide)).trans e14))) ((ju_c _ _ (by decide)).trans ((ju_c _ _ (by decide)).trans ((ju_c _ _ (by decide)).trans e1))) (ju_same _ _ _ _) ((ju_c _ _ (by decide)).trans ((ju_c _ _ (by decide)).trans (ju_same _ _ _ _))) ((ju_c _ _ (by decide)).trans (ju_same _ _ _ _)) ((ju_c _ _ (by decide)).trans ((ju_c _ _ (by decide)).trans ((ju_c _ _ (by decide)).trans e15))) (e7 := ((ju_c _ _ (by decide)).trans ((ju_c _ _ (by decide)).trans ((ju_c _ _ (by decide)).trans e16)))) (by omega) (by omega) (by omega) (by omega) (by omega) (by omega) (fun q7 => by obtain ⟨z1, z2, z3⟩ := k4 (by omega); subst z1; have z4 := hy1 (by omega); rw [e13] at z2 z4; omega))) (by have a1 := hF_M 604 h (nne rfl) (nne rfl) (nne rfl) (nne rfl) (nne rfl); have a2 := hF_M 605 h (nne rfl) (nne rfl) (nne rfl) (nne rfl) (nne rfl); have a3 := hF_M 604 t (nne rfl) (nne rfl) (nne rfl) (nne rfl) (nne rfl); have a4 := hF_M 604 (h - 1) (nne rfl) (nne rfl) (nne rfl) (nne rfl) (nne rfl); have a5 := hF_M 603 (h - 1) (nne rfl) (nne rfl) (nne rfl) (nne rfl) (nne rfl); exact ⟨⟨(by rw [show (ju (ju (ju M 619 g v2) 620 g 0) 621 g v13) 617 g = v1 from ((ju_c _ _ (by decide)).trans ((ju_c _ _ (by decide)).trans ((ju_c _ _ (by decide)).trans e1)))]; have h9 := hy2; omega), (by rw [show (ju (ju (ju M 619 g v2) 620 g 0) 621 g v13) 619 g = v2 from ((ju_c _ _ (by decide)).trans ((ju_c _ _ (by decide)).trans (ju_same _ _ _ _)))]; omega), (by rw [show (ju (ju (ju M 619 g v2) 620 g 0) 621 g v13) 621 g = v13 from (ju_same _ _ _ _)]; omega), (by rw [show (ju (ju (ju M 619 g v2) 620 g 0) 621 g v13) 620 g = 0 from ((ju_c _ _ (by decide)).trans (ju_same _ _ _ _))]; first | (rw [if_pos (by omega)]) | (rw [if_neg (by omega)]; first | (rw [if_pos (by omega)]; omega) | (rw [if_neg (by omega)]; omega)))⟩, fun i i0 i1 => by rw [ju_c _ _ (by decide), ju_c _ _ (by decide), ju_c _ _ (by decide)]; exact hy5 i i0 (by omega), fun b j hb hj => by rw [ju_i _ _ hj, ju_i _ _ hj, ju_i _ _ hj]; exact hy6 b j hb hj, fun j hj => by rw [ju_c _ _ (by decide), ju_c _ _ (by decide), ju_c _ _ (by decide)]; exact hy7 j hj⟩) (fun a i f617 f618 f619 f620 f621 => ((ju_c _ _ f621).trans ((ju_c _ _ f620).trans ((ju_c _ _ f619).trans (hF_M a i f617 f618 f619 f620 f621))))))
    · refine jr.aload_n rfl rfl ?_
      refine jr.getf (i := 29) (v := .ref 618) rfl rfl (nlt rfl) rfl (nlt rfl) rfl rfl rfl rfl ?_
      refine jr.sipush rfl (by decide) ?_
      refine jr.iload_n rfl rfl ?_
      refine jr.imul rfl ?_
      refine jr.iload rfl rfl ?_
      refine jr.iadd rfl ?_
      refine jr.aload_n rfl rfl ?_
      refine jr.iload_n rfl rfl ?_
      refine jr.iload rfl rfl ?_
      refine jr_v rfl rfl (Or.inl rfl) rfl rfl (nlt rfl) rfl ⟨rfl, Nat.le_of_ble_eq_true rfl, Nat.le_of_ble_eq_true rfl⟩ rfl (jc.deep (r_one hI_M hH_M hS_M (Kp.rfl _) (by omega) (by omega)  (fun r17 z17 w17_0 => ?_)) (Nat.le_of_ble_eq_true rfl))
      refine jr.iast (i := ((400 * g) + k)) (x := r17) rfl (nlt rfl) rfl (Nat.le_of_ble_eq_true rfl) (by omega) (by omega) ?_
      refine jr.iinc (ls' := [_, _, _, _, _, _]) rfl rfl (nlt rfl) rfl ?_
      refine jr.goto rfl rfl ?_
      refine jr.pick (ls := [_, _, _, _, _, _]) [0, 1, 2, 3, 4, 5] rfl rfl ?_
      exact ih (nM - 1) (by omega) (ju M 618 ((400 * g) + k) r17) (k + 1) t h x g (RI.u hI_M (a := 618) (i := ((400 * g) + k)) (by rw [xri_row rfl rfl]; show (0 : Int) ≤ _ ∧ _ ≤ (255 : Int); omega)) (RH.o hH_M (by decide) (by decide) (by decide)) (RF.o hS_M (by decide) (by decide))  (fun a i f617 f618 f619 f620 f621 => ((ju_c _ _ f618).trans (hF_M a i f617 f618 f619 f620 f621))) (by omega) (by omega) (by omega) (by omega) (by omega) (RG1x.b hx (by omega) (by omega)) (by intro q; rw [ju_c _ _ (by decide : (604 : Nat) ≠ 618)] at q ⊢; rw [ju_c _ _ (by decide : (601 : Nat) ≠ 618)]; by_cases z : M 604 t = k; (rw [z, ju_same]; first | omega | (rw [← w17_0])); (rw [ju_i _ _ (by omega)]; exact hy1 (by omega))) (by rw [ju_c _ _ (by decide), ju_c _ _ (by decide), ju_c _ _ (by decide)]; exact hy2) (by rw [ju_c _ _ (by decide), ju_c _ _ (by decide), ju_c _ _ (by decide), ju_c _ _ (by decide), ju_c _ _ (by decide)]; exact hy3) (by rw [ju_c _ _ (by decide)]; exact hy4) (fun i i0 i1 => by by_cases e : i = k; (rw [e, ju_same, rf_a, ← hF_M 601 (400 * x + k) (by decide) (by decide) (by decide) (by decide) (by decide)]; have h9 := w17_0; omega); (rw [ju_i _ _ (by omega)]; exact hy5 i i0 (by omega))) (fun b j hb hj => (ju_c _ _ hb).trans (hy6 b j hb hj)) (fun j hj => (ju_i _ _ (by omega)).trans (hy7 j hj)) (by omega) (by omega) (by omega) (by omega) (by omega)
theorem r_keepHeaders_x {A : Nat → Option (Nat × (Nat → Int32))} {Q : Option Value → jm → Prop} {M : jm} (hI_M : RI M) (hH_M : RH M) (hS_M : RF M) {g : Int} (h_g : 0 ≤ g ∧ g ≤ 7) {x : Int} (h_x : 0 ≤ x ∧ x ≤ 23) {h : Int} (h_h : 0 ≤ h ∧ h ≤ 11) {t : Int} (h_t : 0 ≤ t ∧ t ≤ 11) (p0 : 8 ≤ M 604 h + M 605 h) (p1 : M 604 t ≤ 380) (p2 : M 604 h ≤ 392) (p3 : (M 607 g = 2 → (t = h ∧ M 605 h = 4 * (M 601 (400 * x + M 604 h) % 16) ∧ 20 ≤ M 605 h))) (p4 : 1 ≤ M 613 g) (p5 : RG1 M) (q : ∀ (M' : jm), RI M' → RH M' → RF M' → RG1 M' → ((M' 617 g = M 604 h + M 605 h ∧ M' 619 g = M 604 h ∧ M' 621 g = M 604 t ∧ M' 620 g = (if h = 0 then 0 else M 604 (h - 1) + (if M 603 (h - 1) = 3 then 4 else 0))) ∧ (∀ i : Int, 0 ≤ i → i < M 604 h + M 605 h → M' 618 (400 * g + i) = rf M x i) ∧ (∀ (b : Nat) (j : Int), b ≠ 618 → j ≠ g → M' b j = M b j) ∧ (∀ j : Int, (j < 400 * g ∨ 400 * g + 400 ≤ j) → M' 618 j = M 618 j)) → (∀ (a : Nat) (i : Int), a ≠ 617 → a ≠ 618 → a ≠ 619 → a ≠ 620 → a ≠ 621 → M' a i = M a i) → Q none M') : jc A 2 295 [.ref (598), .int (Int32.ofInt (g)), .int (Int32.ofInt (x)), .int (Int32.ofInt (h)), .int (Int32.ofInt (t))] M Q := by
  have hG1 := p5
  have nb : (0 : Int) ≤ M 604 t ∧ M 604 t ≤ 400 := by have q := hI_M 604 t (Nat.le_of_ble_eq_true rfl); rw [xri_row rfl rfl] at q; exact q
  have rt := RH.two hH_M (h - 1)
  have r1 := (hH_M (h - 1)).2
  have r2 := (hH_M h).2
  refine jc_of (m := xm_295) rfl (Nat.le_of_ble_eq_true rfl) rfl ?_
  refine jr.aload_n rfl rfl ?_
  refine jr.getf (i := 28) (v := .ref 617) rfl rfl (nlt rfl) rfl (nlt rfl) rfl rfl rfl rfl ?_
  refine jr.iload_n rfl rfl ?_
  refine jr.aload_n rfl rfl ?_
  refine jr.getf (i := 8) (v := .ref 604) rfl rfl (nlt rfl) rfl (nlt rfl) rfl rfl rfl rfl ?_
  refine jr.iload_n rfl rfl ?_
  obtain ⟨v1, e1⟩ : ∃ z, M 604 h = z := ⟨_, rfl⟩
  have b1 : 0 ≤ v1 ∧ v1 ≤ 400 := by rw [← e1]; exact (by have q := hI_M 604 h (Nat.le_of_ble_eq_true rfl); rw [xri_row rfl rfl] at q; exact q)
  refine jr.iald (i := h) (x := v1) rfl (nlt rfl) rfl (Nat.le_of_ble_eq_true rfl) (by omega) (by omega) e1 ?_
  refine jr.aload_n rfl rfl ?_
  refine jr.getf (i := 9) (v := .ref 605) rfl rfl (nlt rfl) rfl (nlt rfl) rfl rfl rfl rfl ?_
  refine jr.iload_n rfl rfl ?_
  obtain ⟨v2, e2⟩ : ∃ z, M 605 h = z := ⟨_, rfl⟩
  have b2 : 0 ≤ v2 ∧ v2 ≤ 400 := by rw [← e2]; exact (by have q := hI_M 605 h (Nat.le_of_ble_eq_true rfl); rw [xri_row rfl rfl] at q; exact q)
  refine jr.iald (i := h) (x := v2) rfl (nlt rfl) rfl (Nat.le_of_ble_eq_true rfl) (by omega) (by omega) e2 ?_
  refine jr.iadd rfl ?_
  refine jr.iast (i := g) (x := (v1 + v2)) rfl (nlt rfl) rfl (Nat.le_of_ble_eq_true rfl) (by omega) (by omega) ?_
  refine jr.iconst rfl ?_
  refine jr.istore (ls' := [_, _, _, _, _, _]) rfl (nlt rfl) rfl ?_
  refine jr.pick (ls := [_, _, _, _, _, _]) [0, 5, 4, 3, 2, 1] rfl rfl ?_
  exact r_keepHeaders_L22_x q 400 (ju M 617 g (v1 + v2)) 0 t h x g (RI.u hI_M (a := 617) (i := g) (by rw [xri_row rfl rfl]; show (-1 : Int) ≤ _ ∧ _ ≤ (400 : Int); omega)) (RH.o hH_M (by decide) (by decide) (by decide)) (RF.o hS_M (by decide) (by decide))  (fun a i f617 f618 f619 f620 f621 => ((ju_c _ _ f617).trans rfl)) (by omega) (by omega) (by omega) (by omega) (by omega) (RG1x.s (RG1.x hG1 _) (by decide)) (fun q => by exfalso; rw [ju_c _ _ (by decide)] at q; omega) (by rw [ju_same, ju_c _ _ (by decide), ju_c _ _ (by decide)]; omega) (by rw [ju_c _ _ (by decide), ju_c _ _ (by decide), ju_c _ _ (by decide), ju_c _ _ (by decide), ju_c _ _ (by decide)]; exact ⟨p0, p1, p2, p3⟩) (by rw [ju_c _ _ (by decide)]; exact p4) (fun i i0 i1 => absurd i1 (by omega)) (fun b j hb hj => ju_i _ _ hj) (fun j hj => ju_c _ _ (by decide)) (by omega) (by omega) (by omega) (by omega) (by omega)
end
