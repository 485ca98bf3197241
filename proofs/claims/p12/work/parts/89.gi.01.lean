section
theorem r_piece_L67_x {A : Nat → Option (Nat × (Nat → Int32))} {Q : Option Value → jm → Prop} {f : Int → Int} {N C : Int} {M : jm} (hI_M : RI M) (hH_M : RH M) (hS_M : RF M) (q : ∀ (r : Int), (-1) ≤ r ∧ r ≤ 11 → (r = -1 ∨ (0 ≤ r ∧ r < M 598 6 ∧ (M 603 r = 2 ∧ M 604 r ≤ 380 ∨ M 603 r = 6 ∧ M 604 r ≤ 392 ∧ 1 ≤ r))) → (r ≠ -1 → (∃ t : Int, 0 ≤ t ∧ t < M 598 6 ∧ (M 603 t = 2 ∨ M 603 t = 3) ∧ (∀ j : Int, 0 ≤ j → j < t → M 603 j ≠ 2 ∧ M 603 j ≠ 3) ∧ ((M 603 r = 2 ∧ t = r) ∨ (M 603 r = 6 ∧ M 603 t = 3)))) → r = pcf f N C → Q (some (.int (Int32.ofInt r))) M) : ∀ (nM : Nat) (h : Int) (x : Int), 1 ≤ h ∧ h ≤ 13 → 0 ≤ x ∧ x ≤ 23 → (∃ t : Int, 0 ≤ t ∧ t < M 598 6 ∧ M 603 t = 3 ∧ (∀ j : Int, 0 ≤ j → j < t → M 603 j ≠ 2 ∧ M 603 j ≠ 3)) → HT M f N C → rf M x = f → pcf f N C = (if kA f N C (nxI f N (C - h).toNat h) = 6 then nxI f N (C - h).toNat h else -1) → 13 - h ≤ nM → jr A 4 xm_287 67 [(2, .int (Int32.ofInt (h))), (1, .int (Int32.ofInt (x))), (0, .ref (598))] [] M Q := by
  intro nM
  induction nM using Nat.strongRecOn with
  | ind nM ih =>
    intro h x h_h h_x hy0 hy1 hy2 hy3 hm
    have rt := RH.part hH_M h
    refine jr.iload_n rfl rfl ?_
    refine jr.aload_n rfl rfl ?_
    obtain ⟨v1, e1⟩ : ∃ z, M 598 6 = z := ⟨_, rfl⟩
    have b1 : 0 ≤ v1 ∧ v1 ≤ 12 := by rw [← e1]; exact hI_M 598 6 (by decide)
    refine jr.getf (i := 6) (x := v1) (v := .int (Int32.ofInt (v1))) rfl rfl (by decide) rfl (by decide) rfl rfl e1 rfl ?_
    refine jr.icmp_ge rfl rfl (by omega) (by omega) (fun h72 => ?_) (fun h72 => ?_)
    · refine jr.iload_n rfl rfl ?_
      refine jr.aload_n rfl rfl ?_
      refine jr.getf (i := 6) (x := v1) (v := .int (Int32.ofInt (v1))) rfl rfl (by decide) rfl (by decide) rfl rfl e1 rfl ?_
      refine jr.icmp_ge rfl rfl (by omega) (by omega) (fun h106 => ?_) (fun h106 => ?_)
      · refine jr.iconst rfl ?_
        exact jr.ireturn rfl rfl rfl (q _ (by omega) (by omega) (fun q => by first | exact absurd rfl q | (obtain ⟨t, z1, z2, z3, z4⟩ := hy0; exact ⟨t, z1, z2, Or.inr z3, z4, Or.inr ⟨by omega, z3⟩⟩) | exact ⟨r1, by omega, by omega, by omega, w1_2, Or.inl ⟨by omega, rfl⟩⟩) (by first | (exfalso; omega) | (rw [hy3, nxI_e (by have h9 := hy1.1; omega)]; split <;> rfl) | (have hc : 0 ≤ h ∧ h < C := (by have h9 := hy1.1; omega); have hh := HT.f hy1 hc; have e : nxI f N (C - h).toNat h = h := (by rw [nxI_s hc.2, if_neg (by omega)]); rw [hy3, e, kA_i hc, if_neg (by omega)])))
      · refine jr.aload_n rfl rfl ?_
        refine jr.getf (i := 7) (v := .ref 603) rfl rfl (by decide) rfl (by decide) rfl rfl rfl rfl ?_
        refine jr.iload_n rfl rfl ?_
        obtain ⟨v2, e2⟩ : ∃ z, M 603 h = z := ⟨_, rfl⟩
        have b2 : 0 ≤ v2 ∧ v2 ≤ 11 := by rw [← e2]; exact (by have q := hI_M 603 h (by decide); rw [xri_row rfl rfl] at q; exact q)
        refine jr.iald (i := h) (x := v2) rfl (by decide) rfl (by decide) (by omega) (by omega) e2 ?_
        refine jr.bipush rfl (by decide) ?_
        refine jr.icmp_ne rfl rfl (by omega) (by omega) (fun h117 => ?_) (fun h117 => ?_)
        · refine jr.iconst rfl ?_
          exact jr.ireturn rfl rfl rfl (q _ (by omega) (by omega) (fun q => by first | exact absurd rfl q | (obtain ⟨t, z1, z2, z3, z4⟩ := hy0; exact ⟨t, z1, z2, Or.inr z3, z4, Or.inr ⟨by omega, z3⟩⟩) | exact ⟨r1, by omega, by omega, by omega, w1_2, Or.inl ⟨by omega, rfl⟩⟩) (by first | (exfalso; omega) | (rw [hy3, nxI_e (by have h9 := hy1.1; omega)]; split <;> rfl) | (have hc : 0 ≤ h ∧ h < C := (by have h9 := hy1.1; omega); have hh := HT.f hy1 hc; have e : nxI f N (C - h).toNat h = h := (by rw [nxI_s hc.2, if_neg (by omega)]); rw [hy3, e, kA_i hc, if_neg (by omega)])))
        · refine jr.iload_n rfl rfl ?_
          refine jr.goto rfl rfl ?_
          exact jr.ireturn rfl rfl rfl (q _ (by omega) (by omega) (fun q => by first | exact absurd rfl q | (obtain ⟨t, z1, z2, z3, z4⟩ := hy0; exact ⟨t, z1, z2, Or.inr z3, z4, Or.inr ⟨by omega, z3⟩⟩) | exact ⟨r1, by omega, by omega, by omega, w1_2, Or.inl ⟨by omega, rfl⟩⟩) (by have hc : 0 ≤ h ∧ h < C := (by have h9 := hy1.1; omega); have hh := HT.f hy1 hc; have e : nxI f N (C - h).toNat h = h := (by rw [nxI_s hc.2, if_neg (by omega)]); rw [hy3, e, kA_i hc, if_pos (by omega)]))
    · refine jr.aload_n rfl rfl ?_
      refine jr.getf (i := 7) (v := .ref 603) rfl rfl (by decide) rfl (by decide) rfl rfl rfl rfl ?_
      refine jr.iload_n rfl rfl ?_
      obtain ⟨v3, e3⟩ : ∃ z, M 603 h = z := ⟨_, rfl⟩
      have b3 : 0 ≤ v3 ∧ v3 ≤ 11 := by rw [← e3]; exact (by have q := hI_M 603 h (by decide); rw [xri_row rfl rfl] at q; exact q)
      refine jr.iald (i := h) (x := v3) rfl (by decide) rfl (by decide) (by omega) (by omega) e3 ?_
      refine jr.iconst rfl ?_
      refine jr.icmp_eq rfl rfl (by omega) (by omega) (fun h82 => ?_) (fun h82 => ?_)
      · refine jr.iinc (ls' := [_, _, _]) rfl rfl (by decide) rfl ?_
        refine jr.goto rfl rfl ?_
        refine jr.pick (ls := [_, _, _]) [0, 1, 2] rfl rfl ?_
        exact ih (nM - 1) (by omega) (h + 1) x (by omega) (by omega) hy0 hy1 hy2 (by have hc : 0 ≤ h ∧ h < C := (by have h9 := hy1.1; omega); have hh := HT.f hy1 hc; have e : nxI f N (C - h).toNat h = nxI f N (C - (h + 1)).toNat (h + 1) := (by rw [nxI_s hc.2, if_pos (by omega)]); rw [hy3, e]) (by omega)
      · refine jr.aload_n rfl rfl ?_
        refine jr.getf (i := 7) (v := .ref 603) rfl rfl (by decide) rfl (by decide) rfl rfl rfl rfl ?_
        refine jr.iload_n rfl rfl ?_
        refine jr.iald (i := h) (x := v3) rfl (by decide) rfl (by decide) (by omega) (by omega) e3 ?_
        refine jr.iconst rfl ?_
        refine jr.icmp_ne rfl rfl (by omega) (by omega) (fun h92 => ?_) (fun h92 => ?_)
        · refine jr.iload_n rfl rfl ?_
          refine jr.aload_n rfl rfl ?_
          refine jr.getf (i := 6) (x := v1) (v := .int (Int32.ofInt (v1))) rfl rfl (by decide) rfl (by decide) rfl rfl e1 rfl ?_
          refine jr.icmp_ge rfl rfl (by omega) (by omega) (fun h106 => ?_) (fun h106 => ?_)
          · refine jr.iconst rfl ?_
            exact jr.ireturn rfl rfl rfl (q _ (by omega) (by omega) (fun q => by first | exact absurd rfl q | (obtain ⟨t, z1, z2, z3, z4⟩ := hy0; exact ⟨t, z1, z2, Or.inr z3, z4, Or.inr ⟨by omega, z3⟩⟩) | exact ⟨r1, by omega, by omega, by omega, w1_2, Or.inl ⟨by omega, rfl⟩⟩) (by first | (exfalso; omega) | (rw [hy3, nxI_e (by have h9 := hy1.1; omega)]; split <;> rfl) | (have hc : 0 ≤ h ∧ h < C := (by have h9 := hy1.1; omega); have hh := HT.f hy1 hc; have e : nxI f N (C - h).toNat h = h := (by rw [nxI_s hc.2, if_neg (by omega)]); rw [hy3, e, kA_i hc, if_neg (by omega)])))
          · refine jr.aload_n rfl rfl ?_
            refine jr.getf (i := 7) (v := .ref 603) rfl rfl (by decide) rfl (by decide) rfl rfl rfl rfl ?_
            refine jr.iload_n rfl rfl ?_
            refine jr.iald (i := h) (x := v3) rfl (by decide) rfl (by decide) (by omega) (by omega) e3 ?_
            refine jr.bipush rfl (by decide) ?_
            refine jr.icmp_ne rfl rfl (by omega) (by omega) (fun h117 => ?_) (fun h117 => ?_)
            · refine jr.iconst rfl ?_
              exact jr.ireturn rfl rfl rfl (q _ (by omega) (by omega) (fun q => by first | exact absurd rfl q | (obtain ⟨t, z1, z2, z3, z4⟩ := hy0; exact ⟨t, z1, z2, Or.inr z3, z4, Or.inr ⟨by omega, z3⟩⟩) | exact ⟨r1, by omega, by omega, by omega, w1_2, Or.inl ⟨by omega, rfl⟩⟩) (by first | (exfalso; omega) | (rw [hy3, nxI_e (by have h9 := hy1.1; omega)]; split <;> rfl) | (have hc : 0 ≤ h ∧ h < C := (by have h9 := hy1.1; omega); have hh := HT.f hy1 hc; have e : nxI f N (C - h).toNat h = h := (by rw [nxI_s hc.2, if_neg (by omega)]); rw [hy3, e, kA_i hc, if_neg (by omega)])))
            · refine jr.iload_n rfl rfl ?_
              refine jr.goto rfl rfl ?_
              exact jr.ireturn rfl rfl rfl (q _ (by omega) (by omega) (fun q => by first | exact absurd rfl q | (obtain ⟨t, z1, z2, z3, z4⟩ := hy0; exact ⟨t, z1, z2, Or.inr z3, z4, Or.inr ⟨by omega, z3⟩⟩) | exact ⟨r1, by omega, by omega, by omega, w1_2, Or.inl ⟨by omega, rfl⟩⟩) (by have hc : 0 ≤ h ∧ h < C := (by have h9 := hy1.1; omega); have hh := HT.f hy1 hc; have e : nxI f N (C - h).toNat h = h := (by rw [nxI_s hc.2, if_neg (by omega)]); rw [hy3, e, kA_i hc, if_pos (by omega)]))
        · refine jr.iinc (ls' := [_, _, _]) rfl rfl (by decide) rfl ?_
          refine jr.goto rfl rfl ?_
          refine jr.pick (ls := [_, _, _]) [0, 1, 2] rfl rfl ?_
          exact ih (nM - 1) (by omega) (h + 1) x (by omega) (by omega) hy0 hy1 hy2 (by have hc : 0 ≤ h ∧ h < C := (by have h9 := hy1.1; omega); have hh := HT.f hy1 hc; have e : nxI f N (C - h).toNat h = nxI f N (C - (h + 1)).toNat (h + 1) := (by rw [nxI_s hc.2, if_pos (by omega)]); rw [hy3, e]) (by omega)
end
