section
theorem r_piece_x {A : Nat → Option (Nat × (Nat → Int32))} {Q : Option Value → jm → Prop} {f : Int → Int} {N C : Int} {M : jm} (hI_M : RI M) (hH_M : RH M) (hS_M : RF M) {x : Int} (h_x : 0 ≤ x ∧ x ≤ 23) (p0 : HT M f N C) (p1 : rf M x = f) (q : ∀ (r : Int), (-1) ≤ r ∧ r ≤ 11 → (r = -1 ∨ (0 ≤ r ∧ r < M 598 6 ∧ (M 603 r = 2 ∧ M 604 r ≤ 380 ∨ M 603 r = 6 ∧ M 604 r ≤ 392 ∧ 1 ≤ r))) → (r ≠ -1 → (∃ t : Int, 0 ≤ t ∧ t < M 598 6 ∧ (M 603 t = 2 ∨ M 603 t = 3) ∧ (∀ j : Int, 0 ≤ j → j < t → M 603 j ≠ 2 ∧ M 603 j ≠ 3) ∧ ((M 603 r = 2 ∧ t = r) ∨ (M 603 r = 6 ∧ M 603 t = 3)))) → r = pcf f N C → Q (some (.int (Int32.ofInt r))) M) : jc A 5 287 [.ref (598), .int (Int32.ofInt (x))] M Q := by
  refine jc_of (m := xm_287) rfl (Nat.le_of_ble_eq_true rfl) rfl ?_
  refine jr.aload_n rfl rfl ?_
  refine jr_v rfl rfl (Or.inl rfl) rfl rfl (by decide) rfl ⟨rfl, Nat.le_of_ble_eq_true rfl, Nat.le_of_ble_eq_true rfl⟩ rfl (jc.deep (r_net_x hI_M hH_M hS_M   p0 (fun r1 z1 w1_0 w1_1 w1_2 w1_3 => ?_)) (by decide))
  refine jr.istore_n (ls' := [_, _, _]) rfl (by decide) rfl ?_
  refine jr.iload_n rfl rfl ?_
  refine jr.iconst rfl ?_
  refine jr.icmp_ne rfl rfl (by omega) (by omega) (fun h7 => ?_) (fun h7 => ?_)
  · refine jr.aload_n rfl rfl ?_
    refine jr.getf (i := 7) (v := .ref 603) rfl rfl (by decide) rfl (by decide) rfl rfl rfl rfl ?_
    refine jr.iload_n rfl rfl ?_
    obtain ⟨v2, e2⟩ : ∃ z, M 603 r1 = z := ⟨_, rfl⟩
    have b2 : 0 ≤ v2 ∧ v2 ≤ 11 := by rw [← e2]; exact (by have q := hI_M 603 r1 (by decide); rw [xri_row rfl rfl] at q; exact q)
    refine jr.iald (i := r1) (x := v2) rfl (by decide) rfl (by decide) (by omega) (by omega) e2 ?_
    refine jr.iconst rfl ?_
    refine jr.icmp_ne rfl rfl (by omega) (by omega) (fun h19 => ?_) (fun h19 => ?_)
    · refine jr.iinc (ls' := [_, _, _]) rfl rfl (by decide) rfl ?_
      refine jr.pick (ls := [_, _, _]) [0, 2, 1] rfl rfl ?_
      exact r_piece_L67_x hI_M hH_M hS_M q 13 (r1 + 1) x (by omega) (by omega) ⟨r1, by omega, by omega, by omega, w1_2⟩ p0 p1 (by have h6 := p0.1; have hc : 0 ≤ r1 ∧ r1 < C := (by omega); have hh := HT.f p0 hc; unfold pcf; rw [← w1_3, if_neg (by omega), if_neg (by rw [kA_i hc]; omega)]; rfl) (by omega)
    · refine jr.aload_n rfl rfl ?_
      refine jr.iload_n rfl rfl ?_
      refine jr.aload_n rfl rfl ?_
      refine jr.getf (i := 8) (v := .ref 604) rfl rfl (by decide) rfl (by decide) rfl rfl rfl rfl ?_
      refine jr.iload_n rfl rfl ?_
      obtain ⟨v3, e3⟩ : ∃ z, M 604 r1 = z := ⟨_, rfl⟩
      have b3 : 0 ≤ v3 ∧ v3 ≤ 400 := by rw [← e3]; exact (by have q := hI_M 604 r1 (by decide); rw [xri_row rfl rfl] at q; exact q)
      refine jr.iald (i := r1) (x := v3) rfl (by decide) rfl (by decide) (by omega) (by omega) e3 ?_
      refine jr.iconst rfl ?_
      refine jr_v rfl rfl (Or.inl rfl) rfl rfl (by decide) rfl ⟨rfl, Nat.le_of_ble_eq_true rfl, Nat.le_of_ble_eq_true rfl⟩ rfl (jc.deep (r_ofFour_x hI_M hH_M hS_M  (by omega) (by omega) (by omega)  (fun r4 z4 w4_0 => ?_)) (by decide))
      refine jr.lconst (x := 0) rfl (by decide) ?_
      refine jr.lcmp_gt rfl rfl rfl (by omega) (by omega) (fun h35 => ?_) (fun h35 => ?_)
      · refine jr.iload_n rfl rfl ?_
        refine jr.goto rfl rfl ?_
        exact jr.ireturn rfl rfl rfl (q _ (by omega) (by omega) (fun q => by first | exact absurd rfl q | (obtain ⟨t, z1, z2, z3, z4⟩ := hy0; exact ⟨t, z1, z2, Or.inr z3, z4, Or.inr ⟨by omega, z3⟩⟩) | exact ⟨r1, by omega, by omega, by omega, w1_2, Or.inl ⟨by omega, rfl⟩⟩) (by have h6 := p0.1; have hc : 0 ≤ r1 ∧ r1 < C := (by omega); have hh := HT.f p0 hc; have hk : hX f N r1 = 2 := (by omega); have hka : kA f N C r1 = 2 := (by rw [kA_i hc]; exact hk); have v5 := vA_k (j := 5) hc hk (by decide +kernel); have v4 := vA_k (j := 4) hc hk (by decide +kernel); rw [← hh.2.1, e3] at v5 v4; have o5 : ofs f N C r1 = 8 * r4 := (by unfold ofs; rw [if_pos hka, v5, ← p1, ← w4_0 _]); unfold pcf; rw [← w1_3, if_neg (by omega), if_pos hka]; first | (rw [if_pos (Or.inr (by omega))]; done) | (rw [if_pos (Or.inl (by omega))])))
      · refine jr.aload_n rfl rfl ?_
        refine jr.iload_n rfl rfl ?_
        refine jr.aload_n rfl rfl ?_
        refine jr.getf (i := 8) (v := .ref 604) rfl rfl (by decide) rfl (by decide) rfl rfl rfl rfl ?_
        refine jr.iload_n rfl rfl ?_
        refine jr.iald (i := r1) (x := v3) rfl (by decide) rfl (by decide) (by omega) (by omega) e3 ?_
        refine jr.iconst rfl ?_
        refine jr_v rfl rfl (Or.inl rfl) rfl rfl (by decide) rfl ⟨rfl, Nat.le_of_ble_eq_true rfl, Nat.le_of_ble_eq_true rfl⟩ rfl (jc.deep (r_ofFour_x hI_M hH_M hS_M  (by omega) (by omega) (by omega)  (fun r5 z5 w5_0 => ?_)) (by decide))
        refine jr.lconst (x := 1) rfl (by decide) ?_
        refine jr.land rfl ?_
        have b6 : jl_and r5 1 = r5 % 2 ∧ 0 ≤ jl_and r5 1 ∧ jl_and r5 1 ≤ 1 := ⟨jl_and_1 _, by rw [jl_and_1]; omega⟩
        generalize jl_and r5 1 = v6 at b6 ⊢
        refine jr.lconst (x := 1) rfl (by decide) ?_
        refine jr.lcmp_ne rfl rfl rfl (by omega) (by omega) (fun h54 => ?_) (fun h54 => ?_)
        · refine jr.iconst rfl ?_
          exact jr.ireturn rfl rfl rfl (q _ (by omega) (by omega) (fun q => by first | exact absurd rfl q | (obtain ⟨t, z1, z2, z3, z4⟩ := hy0; exact ⟨t, z1, z2, Or.inr z3, z4, Or.inr ⟨by omega, z3⟩⟩) | exact ⟨r1, by omega, by omega, by omega, w1_2, Or.inl ⟨by omega, rfl⟩⟩) (by have h6 := p0.1; have hc : 0 ≤ r1 ∧ r1 < C := (by omega); have hh := HT.f p0 hc; have hk : hX f N r1 = 2 := (by omega); have hka : kA f N C r1 = 2 := (by rw [kA_i hc]; exact hk); have v5 := vA_k (j := 5) hc hk (by decide +kernel); have v4 := vA_k (j := 4) hc hk (by decide +kernel); rw [← hh.2.1, e3] at v5 v4; have o5 : ofs f N C r1 = 8 * r4 := (by unfold ofs; rw [if_pos hka, v5, ← p1, ← w4_0 _]); have m4 : mrf f N C r1 = r5 % 2 := (by unfold mrf; rw [if_pos hka, v4, ← p1, ← w5_0 _]); unfold pcf; rw [← w1_3, if_neg (by omega), if_pos hka]; rw [if_neg (by omega)]))
        · refine jr.iload_n rfl rfl ?_
          refine jr.goto rfl rfl ?_
          exact jr.ireturn rfl rfl rfl (q _ (by omega) (by omega) (fun q => by first | exact absurd rfl q | (obtain ⟨t, z1, z2, z3, z4⟩ := hy0; exact ⟨t, z1, z2, Or.inr z3, z4, Or.inr ⟨by omega, z3⟩⟩) | exact ⟨r1, by omega, by omega, by omega, w1_2, Or.inl ⟨by omega, rfl⟩⟩) (by have h6 := p0.1; have hc : 0 ≤ r1 ∧ r1 < C := (by omega); have hh := HT.f p0 hc; have hk : hX f N r1 = 2 := (by omega); have hka : kA f N C r1 = 2 := (by rw [kA_i hc]; exact hk); have v5 := vA_k (j := 5) hc hk (by decide +kernel); have v4 := vA_k (j := 4) hc hk (by decide +kernel); rw [← hh.2.1, e3] at v5 v4; have o5 : ofs f N C r1 = 8 * r4 := (by unfold ofs; rw [if_pos hka, v5, ← p1, ← w4_0 _]); unfold pcf; rw [← w1_3, if_neg (by omega), if_pos hka]; first | (rw [if_pos (Or.inr (by omega))]; done) | (have m4 : mrf f N C r1 = r5 % 2 := (by unfold mrf; rw [if_pos hka, v4, ← p1, ← w5_0 _]); rw [if_pos (Or.inl (by omega))])))
  · refine jr.iconst rfl ?_
    exact jr.ireturn rfl rfl rfl (q _ (by omega) (by omega) (fun q => by first | exact absurd rfl q | (obtain ⟨t, z1, z2, z3, z4⟩ := hy0; exact ⟨t, z1, z2, Or.inr z3, z4, Or.inr ⟨by omega, z3⟩⟩) | exact ⟨r1, by omega, by omega, by omega, w1_2, Or.inl ⟨by omega, rfl⟩⟩) (by unfold pcf; rw [← w1_3, if_pos (by omega)]))
/-! ===== the reference: gatherings, exactly ===== -/
/-- the last gathering of that name below n -/
noncomputable def gL (M : jm) (k a b c o : Int) : Nat → Int
  | 0 => -1
  | n + 1 => if M 606 (n : Int) ≠ 0 ∧ M 607 (n : Int) = k ∧ M 608 (n : Int) = a ∧ M 609 (n : Int) = b ∧ M 610 (n : Int) = c ∧ M 611 (n : Int) = o then (n : Int) else gL M k a b c o n
theorem gL_s {M : jm} {k a b c o i : Int} (h : 0 ≤ i) : gL M k a b c o (i + 1).toNat = if M 606 i ≠ 0 ∧ M 607 i = k ∧ M 608 i = a ∧ M 609 i = b ∧ M 610 i = c ∧ M 611 i = o then i else gL M k a b c o i.toNat := by
  obtain ⟨n, rfl⟩ := Int.eq_ofNat_of_zero_le h
  rw [show ((n : Int) + 1).toNat = n + 1 by omega, show ((n : Int)).toNat = n by omega]
  rfl
noncomputable def gE (M : jm) : Nat → Int → Int
  | 0, _ => -1
  | n + 1, i => if M 606 i = 0 then i else gE M n (i + 1)
theorem gE_s {M : jm} {i : Int} (h : i < 8) : gE M (8 - i).toNat i = if M 606 i = 0 then i else gE M (8 - (i + 1)).toNat (i + 1) := by
  obtain ⟨n, hn⟩ : ∃ n : Nat, i = 7 - n := ⟨(7 - i).toNat, by omega⟩
  subst hn
  rw [show (8 - (7 - (n : Int))).toNat = n + 1 by omega, show (8 - (7 - (n : Int) + 1)).toNat = n by omega]
  rfl
end
