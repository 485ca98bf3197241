section
/-! ===== the reference: contracts, 35.pf ===== -/
theorem XS.dpz {M : jm} {b k d z x : Int} (h : XS M b k d z x) (hb : M 598 107 = 0) : XS (ju M 598 100 0) b k 0 z x := by
  rw [XS.rows] at h ⊢
  obtain ⟨ht, P, D, E, h⟩ := h
  obtain ⟨⟨g1, g2, g3, g4, g5, g6, g7, g8, g9, g10, g11⟩, i1, i2, i3, i4, i5, i6, i7, i8⟩ := id h
  have q := h.adj (nn' := M 598 89) (tt' := M 598 73) (k' := k) (z' := z) (dp' := 0) (d' := 0) (by omega) g11 (by omega) (by omega)
  simp (decide := true) only [jw_o, jw_s, fu_ne, fu_eq, ne_eq, not_false_eq_true]
  exact ⟨_, _, _, _, q⟩
theorem r_chain_L148 {A : Nat → Option (Nat × (Nat → Int32))} {Q : Option Value → jm → Prop} {dd : Int} {M0 : jm} (q : ∀ (M' : jm), RI M' → RH M' → RF M' → (BT M' ∨ (DS M' 1 ∧ M' 598 107 = 0 ∧ TK M' < TK M0 ∧ 1 ≤ M' 598 88 ∧ 1 ≤ M' 598 90 ∧ M' 659 (M' 598 90 - 1) = 3)) → TK M' ≤ TK M0 → M' 598 73 ≤ M' 598 72 → (M' 598 80 ≠ 0 ∨ TK M' < TK M0) → (∀ (a : Nat) (i : Int), a ≠ 598 → a ≠ 659 → a ≠ 660 → a ≠ 661 → a ≠ 662 → a ≠ 663 → a ≠ 664 → a ≠ 665 → a ≠ 666 → a ≠ 667 → a ≠ 668 → a ≠ 669 → a ≠ 656 → a ≠ 657 → a ≠ 658 → M' a i = M0 a i) → (∀ (i : Int), i ≠ 73 → i ≠ 74 → i ≠ 75 → i ≠ 76 → i ≠ 77 → i ≠ 78 → i ≠ 79 → i ≠ 80 → i ≠ 81 → i ≠ 89 → i ≠ 90 → i ≠ 96 → i ≠ 100 → i ≠ 102 → i ≠ 107 → i ≠ 88 → i ≠ 101 → M' 598 i = M0 598 i) → Q none M') : ∀ (nM : Nat) (M : jm) , RI M → RH M → RF M → (∀ (a : Nat) (i : Int), a ≠ 598 → a ≠ 659 → a ≠ 660 → a ≠ 661 → a ≠ 662 → a ≠ 663 → a ≠ 664 → a ≠ 665 → a ≠ 666 → a ≠ 667 → a ≠ 668 → a ≠ 669 → a ≠ 656 → a ≠ 657 → a ≠ 658 → M a i = M0 a i) → (∀ (i : Int), i ≠ 73 → i ≠ 74 → i ≠ 75 → i ≠ 76 → i ≠ 77 → i ≠ 78 → i ≠ 79 → i ≠ 80 → i ≠ 81 → i ≠ 89 → i ≠ 90 → i ≠ 96 → i ≠ 100 → i ≠ 102 → i ≠ 107 → i ≠ 88 → i ≠ 101 → M 598 i = M0 598 i) → (BT M ∨ (1 ≤ M 598 107 ∧ DS M 0) ∨ (M 598 107 = 0 ∧ DS M 1 ∧ 1 ≤ M 598 90 ∧ M 659 (M 598 90 - 1) = 3)) → M 598 73 ≤ M 598 72 → TK M ≤ TK M0 → (M 598 80 ≠ 0 ∨ TK M < TK M0) → 1 ≤ M 598 88 → TK M + 1 - min 1 (M 598 80) ≤ nM → jr A 8 xm_369 148 [(0, .ref (598))] [] M Q := by
  intro nM
  induction nM using Nat.strongRecOn with
  | ind nM ih =>
    intro M  hI_M hH_M hS_M hF_M hG_M  hy0 hy1 hy2 hy3 hy4 hm
    rcases hy0 with hz | hz | hz
    · obtain ⟨za, zc⟩ := id hz
      refine jr.aload_n rfl rfl ?_
      obtain ⟨v1, e1⟩ : ∃ z, M 598 80 = z := ⟨_, rfl⟩
      have b1 : 0 ≤ v1 ∧ v1 ≤ 7 := by rw [← e1]; exact hI_M 598 80 (by decide)
      refine jr_v rfl rfl (Or.inl rfl) rfl rfl (by decide) rfl ⟨rfl, Nat.le_of_ble_eq_true rfl, Nat.le_of_ble_eq_true rfl⟩ rfl (jc.deep (c_good hI_M  (fun t149_0 => ?_) (fun f149_0 => ?_)) (by decide))
      · exfalso
        omega
      · refine jr.if_eq rfl rfl (by omega) (fun _ => ?_) (fun h => absurd (by decide) h)
        exact jr.vreturn rfl rfl (q _ hI_M hH_M hS_M  (Or.inl hz) (by omega) (by omega) (by omega) (fun a i f598 f659 f660 f661 f662 f663 f664 f665 f666 f667 f668 f669 f656 f657 f658 => (hF_M a i f598 f659 f660 f661 f662 f663 f664 f665 f666 f667 f668 f669 f656 f657 f658)) (fun i g73 g74 g75 g76 g77 g78 g79 g80 g81 g89 g90 g96 g100 g102 g107 g88 g101 => (hG_M i g73 g74 g75 g76 g77 g78 g79 g80 g81 g89 g90 g96 g100 g102 g107 g88 g101)))
    · obtain ⟨zb1, ⟨ds1, ds2, ds3, ds4, ds5, ds6, ds7, ds8, ds9⟩⟩ := id hz
      have b74 : (0 : Int) ≤ M 598 74 ∧ M 598 74 ≤ 4 := hI_M 598 74 (by decide)
      have b73 : (0 : Int) ≤ M 598 73 ∧ M 598 73 ≤ 1600 := hI_M 598 73 (by decide)
      have tg := TK.ge (M := M) (by omega) (by omega)
      obtain ⟨vb, hvb⟩ : ∃ z, M 598 107 = z := ⟨_, rfl⟩
      have bvb : (0 : Int) ≤ vb ∧ vb ≤ 16 := by rw [← hvb]; exact hI_M 598 107 (by decide)
      refine jr.aload_n rfl rfl ?_
      obtain ⟨v2, e2⟩ : ∃ z, M 598 80 = z := ⟨_, rfl⟩
      have b2 : 0 ≤ v2 ∧ v2 ≤ 7 := by rw [← e2]; exact hI_M 598 80 (by decide)
      refine jr_v rfl rfl (Or.inl rfl) rfl rfl (by decide) rfl ⟨rfl, Nat.le_of_ble_eq_true rfl, Nat.le_of_ble_eq_true rfl⟩ rfl (jc.deep (c_good hI_M  (fun t149_0 => ?_) (fun f149_0 => ?_)) (by decide))
      · refine jr.if_eq rfl rfl (by omega) (fun h => absurd h (by decide)) (fun _ => ?_)
        refine jr.aload_n rfl rfl ?_
        refine jr.getf (i := 107) (x := vb) (v := .int (Int32.ofInt (vb))) rfl rfl (by decide) rfl (by decide) rfl rfl hvb rfl ?_
        refine jr.if_le rfl rfl (by omega) (fun h159 => ?_) (fun h159 => ?_)
        · exact absurd h159 (by omega)
        · refine jr.aload_n rfl rfl ?_
          refine jr.bipush rfl (by decide) ?_
          refine jr_v rfl rfl (Or.inl rfl) rfl rfl (by decide) rfl ⟨rfl, Nat.le_of_ble_eq_true rfl, Nat.le_of_ble_eq_true rfl⟩ rfl (jc.deep (c_isSign hI_M (by omega) (fun t165_0 t165_1 => ?_) (fun f165_0 => ?_)) (by decide))
          · refine jr.if_eq rfl rfl (by omega) (fun h => absurd h (by decide)) (fun _ => ?_)
            refine jr.aload_n rfl rfl ?_
            obtain ⟨v4, e4⟩ : ∃ z, M 598 88 = z := ⟨_, rfl⟩
            have b4 : 0 ≤ v4 ∧ v4 ≤ 16 := by rw [← e4]; exact hI_M 598 88 (by decide)
            obtain ⟨v5, e5⟩ : ∃ z, M 598 74 = z := ⟨_, rfl⟩
            have b5 : 0 ≤ v5 ∧ v5 ≤ 4 := by rw [← e5]; exact hI_M 598 74 (by decide)
            refine jr_v rfl rfl (Or.inl rfl) rfl rfl (by decide) rfl ⟨rfl, Nat.le_of_ble_eq_true rfl, Nat.le_of_ble_eq_true rfl⟩ rfl (jc.deep (r_closeBlock hI_M hH_M hS_M   hz.2 (by rw [hvb]; omega) (by rw [e4]; omega) (by rw [e5]; omega) (fun M3 hI_M3 hH_M3 hS_M3  w3_0 w3_1 w3_2 w3_3 w3_4 w3_5 => ?_)) (by decide))
            refine jr.goto rfl rfl ?_
            obtain ⟨v6, e6⟩ : ∃ z, M3 598 73 = z := ⟨_, rfl⟩
            have b6 : 0 ≤ v6 ∧ v6 ≤ 1600 := by rw [← e6]; exact hI_M3 598 73 (by decide)
            obtain ⟨v7, e7⟩ : ∃ z, M 598 72 = z := ⟨_, rfl⟩
            have b7 : 0 ≤ v7 ∧ v7 ≤ 1600 := by rw [← e7]; exact hI_M 598 72 (by decide)
            have e8 : M3 598 72 = v7 := ((w3_5 72 (by decide) (by decide) (by decide) (by decide) (by decide) (by decide) (by decide) (by decide) (by decide) (by decide) (by decide) (by decide) (by decide)).trans e7)
            obtain ⟨v9, e9⟩ : ∃ z, M3 598 80 = z := ⟨_, rfl⟩
            have b9 : 0 ≤ v9 ∧ v9 ≤ 7 := by rw [← e9]; exact hI_M3 598 80 (by decide)
            have y10 : M3 598 80 = v9 := e9
            have e11 : M3 598 88 = v4 := ((w3_5 88 (by decide) (by decide) (by decide) (by decide) (by decide) (by decide) (by decide) (by decide) (by decide) (by decide) (by decide) (by decide) (by decide)).trans e4)
            refine jr.pick (ls := [_]) [0] rfl rfl ?_
            have y12 : M3 598 80 = v9 := e9
            exact ih (nM - 1) (by omega) M3  hI_M3 hH_M3 hS_M3  (fun a i f598 f659 f660 f661 f662 f663 f664 f665 f666 f667 f668 f669 f656 f657 f658 => ((w3_4 a i f598 f658 f659 f660 f668 f669).trans (hF_M a i f598 f659 f660 f661 f662 f663 f664 f665 f666 f667 f668 f669 f656 f657 f658))) (fun i g73 g74 g75 g76 g77 g78 g79 g80 g81 g89 g90 g96 g100 g102 g107 g88 g101 => ((w3_5 i g73 g74 g75 g76 g77 g78 g79 g80 g81 g90 g100 g101 g107).trans (hG_M i g73 g74 g75 g76 g77 g78 g79 g80 g81 g89 g90 g96 g100 g102 g107 g88 g101)))  (by rcases w3_0 with z | ⟨z, z1 | z1⟩; (exact Or.inl z); (exact Or.inr (Or.inl z1)); (exact Or.inr (Or.inr z1))) (by rw [e6, e8] <;> omega) (by omega) (by omega) (by rw [e11] <;> omega) (by omega)
          · refine jr.if_eq rfl rfl (by omega) (fun _ => ?_) (fun h => absurd (by decide) h)
            refine jr.aload_n rfl rfl ?_
            obtain ⟨v14, e14⟩ : ∃ z, M 598 88 = z := ⟨_, rfl⟩
            have b14 : 0 ≤ v14 ∧ v14 ≤ 16 := by rw [← e14]; exact hI_M 598 88 (by decide)
            refine jr_v rfl rfl (Or.inl rfl) rfl rfl (by decide) rfl ⟨rfl, Nat.le_of_ble_eq_true rfl, Nat.le_of_ble_eq_true rfl⟩ rfl (jc.deep (r_deed hI_M hH_M hS_M   hz.2 (by rw [hvb]; omega) (by rw [e14]; omega) (fun M13 hI_M13 hH_M13 hS_M13  w13_0 w13_1 w13_2 w13_3 w13_4 w13_5 w13_6 => ?_)) (by decide))
            refine jr.goto rfl rfl ?_
            obtain ⟨v15, e15⟩ : ∃ z, M13 598 73 = z := ⟨_, rfl⟩
            have b15 : 0 ≤ v15 ∧ v15 ≤ 1600 := by rw [← e15]; exact hI_M13 598 73 (by decide)
            obtain ⟨v16, e16⟩ : ∃ z, M 598 72 = z := ⟨_, rfl⟩
            have b16 : 0 ≤ v16 ∧ v16 ≤ 1600 := by rw [← e16]; exact hI_M 598 72 (by decide)
            have e17 : M13 598 72 = v16 := ((w13_6 72 (by decide) (by decide) (by decide) (by decide) (by decide) (by decide) (by decide) (by decide) (by decide) (by decide) (by decide) (by decide) (by decide) (by decide) (by decide)).trans e16)
            obtain ⟨v18, e18⟩ : ∃ z, M13 598 80 = z := ⟨_, rfl⟩
            have b18 : 0 ≤ v18 ∧ v18 ≤ 7 := by rw [← e18]; exact hI_M13 598 80 (by decide)
            have y19 : M13 598 80 = v18 := e18
            have e20 : M13 598 88 = v14 := ((w13_6 88 (by decide) (by decide) (by decide) (by decide) (by decide) (by decide) (by decide) (by decide) (by decide) (by decide) (by decide) (by decide) (by decide) (by decide) (by decide)).trans e14)
            refine jr.pick (ls := [_]) [0] rfl rfl ?_
            have y21 : M13 598 80 = v18 := e18
            exact ih (nM - 1) (by omega) M13  hI_M13 hH_M13 hS_M13  (fun a i f598 f659 f660 f661 f662 f663 f664 f665 f666 f667 f668 f669 f656 f657 f658 => ((w13_5 a i f598 f659 f660 f661 f662 f663 f664 f665 f666 f667 f668 f669).trans (hF_M a i f598 f659 f660 f661 f662 f663 f664 f665 f666 f667 f668 f669 f656 f657 f658))) (fun i g73 g74 g75 g76 g77 g78 g79 g80 g81 g89 g90 g96 g100 g102 g107 g88 g101 => ((w13_6 i g73 g74 g75 g76 g77 g78 g79 g80 g81 g89 g90 g96 g100 g102 g107).trans (hG_M i g73 g74 g75 g76 g77 g78 g79 g80 g81 g89 g90 g96 g100 g102 g107 g88 g101)))  (by rcases w13_0 with z | ⟨z, z1⟩; (exact Or.inl z); (exact Or.inr (Or.inl ⟨by omega, z⟩))) (by rw [e15, e17] <;> omega) (by omega) (by omega) (by rw [e20] <;> omega) (by omega)
      · exfalso
        omega
    · obtain ⟨zb1, ⟨ds1, ds2, ds3, ds4, ds5, ds6, ds7, ds8, ds9⟩, zb2, zb3⟩ := id hz
      refine jr.aload_n rfl rfl ?_
      obtain ⟨v22, e22⟩ : ∃ z, M 598 80 = z := ⟨_, rfl⟩
      have b22 : 0 ≤ v22 ∧ v22 ≤ 7 := by rw [← e22]; exact hI_M 598 80 (by decide)
      refine jr_v rfl rfl (Or.inl rfl) rfl rfl (by decide) rfl ⟨rfl, Nat.le_of_ble_eq_true rfl, Nat.le_of_ble_eq_true rfl⟩ rfl (jc.deep (c_good hI_M  (fun t149_0 => ?_) (fun f149_0 => ?_)) (by decide))
      · refine jr.if_eq rfl rfl (by omega) (fun h => absurd h (by decide)) (fun _ => ?_)
        refine jr.aload_n rfl rfl ?_
        refine jr.getf (i := 107) (x := 0) (v := .int (Int32.ofInt (0))) rfl rfl (by decide) rfl (by decide) rfl rfl zb1 rfl ?_
        refine jr.if_le rfl rfl (by omega) (fun h159 => ?_) (fun h159 => ?_)
        · exact jr.vreturn rfl rfl (q _ hI_M hH_M hS_M  (Or.inr ⟨hz.2.1, hz.1, by omega, by omega, hz.2.2.1, hz.2.2.2⟩) (by omega) (by omega) (by omega) (fun a i f598 f659 f660 f661 f662 f663 f664 f665 f666 f667 f668 f669 f656 f657 f658 => (hF_M a i f598 f659 f660 f661 f662 f663 f664 f665 f666 f667 f668 f669 f656 f657 f658)) (fun i g73 g74 g75 g76 g77 g78 g79 g80 g81 g89 g90 g96 g100 g102 g107 g88 g101 => (hG_M i g73 g74 g75 g76 g77 g78 g79 g80 g81 g89 g90 g96 g100 g102 g107 g88 g101)))
        · exact absurd (by omega) h159
      · exfalso
        omega
end
