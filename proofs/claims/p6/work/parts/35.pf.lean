/-! ===== the reference: contracts, 35.pf ===== -/
theorem XS.dpz {M : jm} {b k d z x : Int} (h : XS M b k d z x) (hb : M 598 107 = 0) : XS (ju M 598 100 0) b k 0 z x := by
  rw [XS.rows] at h ⊢
  obtain ⟨ht, P, D, E, h⟩ := h
  obtain ⟨⟨g1, g2, g3, g4, g5, g6, g7, g8, g9, g10, g11⟩, i1, i2, i3, i4, i5, i6, i7, i8⟩ := id h
  have q := h.adj (nn' := M 598 89) (tt' := M 598 73) (k' := k) (z' := z) (dp' := 0) (d' := 0) (by omega) g11 (by omega) (by omega)
  simp (decide := true) only [jw_o, jw_s, fu_ne, fu_eq, ne_eq, not_false_eq_true]
  exact ⟨_, _, _, _, q⟩
theorem r_chain_L148 {A : Nat → Option (Nat × (Nat → Int32))} {Q : Option Value → jm → Prop} {dd : Int} {M0 : jm} (q : ∀ (M' : jm), RI M' → RH M' → RF M' → (BT M' ∨ (DS M' 1 ∧ M' 598 107 = 0 ∧ TK M' < TK M0 ∧ 1 ≤ M' 598 88 ∧ 1 ≤ M' 598 90 ∧ M' 659 (M' 598 90 - 1) = 3)) → TK M' ≤ TK M0 → M' 598 73 ≤ M' 598 72 → (M' 598 80 ≠ 0 ∨ TK M' < TK M0) → (∀ (a : Nat) (i : Int), a ≠ 598 → a ≠ 659 → a ≠ 660 → a ≠ 661 → a ≠ 662 → a ≠ 663 → a ≠ 664 → a ≠ 665 → a ≠ 666 → a ≠ 667 → a ≠ 668 → a ≠ 669 → a ≠ 656 → a ≠ 657 → a ≠ 658 → M' a i = M0 a i) → (∀ (i : Int), i ≠ 73 → i ≠ 74 → i ≠ 75 → i ≠ 76 → i ≠ 77 → i ≠ 78 → i ≠ 79 → i ≠ 80 → i ≠ 81 → i ≠ 89 → i ≠ 90 → i ≠ 96 → i ≠ 100 → i ≠ 102 → i ≠ 107 → i ≠ 88 → i ≠ 101 → M' 598 i = M0 598 i) → Q none M') : ∀ (nM : Nat) (M : jm) , RI M → RH M → RF M → (∀ (a : Nat) (i : Int), a ≠ 598 → a ≠ 659 → a ≠ 660 → a ≠ 661 → a ≠ 662 → a ≠ 663 → a ≠ 664 → a ≠ 665 → a ≠ 666 → a ≠ 667 → a ≠ 668 → a ≠ 669 → a ≠ 656 → a ≠ 657 → a ≠ 658 → M a i = M0 a i) → (∀ (i : Int), i ≠ 73 → i ≠ 74 → i ≠ 75 → i ≠ 76 → i ≠ 77 → i ≠ 78 → i ≠ 79 → i ≠ 80 → i ≠ 81 → i ≠ 89 → i ≠ 90 → i ≠ 96 → i ≠ 100 → i ≠ 102 → i ≠ 107 → i ≠ 88 → i ≠ 101 → M 598 i = M0 598 i) → (BT M ∨ (1 ≤ M 598 107 ∧ DS M 0) ∨ (M 598 107 = 0 ∧ DS M 1 ∧ 1 ≤ M 598 90 ∧ M 659 (M 598 90 - 1) = 3)) → M 598 73 ≤ M 598 72 → TK M ≤ TK M0 → (M 598 80 ≠ 0 ∨ TK M < TK M0) → 1 ≤ M 598 88 → TK M + 1 - min 1 (M 598 80) ≤ nM → jr A 8 xm_369 148 [(0, .ref (598))] [] M Q := by
  intro nM
  induction nM using Nat.strongRecOn with
  | ind nM ih =>
    intro M  hI_M hH_M hS_M hF_M hG_M  hy0 hy1 hy2 hy3 hy4 hm
    rcases hy0 with hz | hz | hz
    · obtain ⟨za, zc⟩ := id hz
      refine jr.aload_n rfl rfl ?_
      obtain ⟨v1, e1⟩ : ∃ z, M 598 80 = z := ⟨_, rfl⟩
      have b1 : 0 ≤ v1 ∧ v1 ≤ 7 := by rw [← e1]; exact hI_M 598 80 (by decide)
      refine jr_v rfl rfl (Or.inl rfl) rfl rfl (by decide) rfl ⟨rfl, Nat.le_of_ble_eq_true rfl, Nat.le_of_ble_eq_true rfl⟩ rfl (jc.deep (c_good hI_M  (fun t149_0 => ?_) (fun f149_0 => ?_)) (by decide))
      · exfalso
        omega
      · refine jr.if_eq rfl rfl (by omega) (fun _ => ?_) (fun h => absurd (by decide) h)
        exact jr.vreturn rfl rfl (q _ hI_M hH_M hS_M  (Or.inl hz) (by omega) (by omega) (by omega) (fun a i f598 f659 f660 f661 f662 f663 f664 f665 f666 f667 f668 f669 f656 f657 f658 => (hF_M a i f598 f659 f660 f661 f662 f663 f664 f665 f666 f667 f668 f669 f656 f657 f658)) (fun i g73 g74 g75 g76 g77 g78 g79 g80 g81 g89 g90 g96 g100 g102 g107 g88 g101 => (hG_M i g73 g74 g75 g76 g77 g78 g79 g80 g81 g89 g90 g96 g100 g102 g107 g88 g101)))
    · obtain ⟨zb1, ⟨ds1, ds2, ds3, ds4, ds5, ds6, ds7, ds8, ds9⟩⟩ := id hz
      have b74 : (0 : Int) ≤ M 598 74 ∧ M 598 74 ≤ 4 := hI_M 598 74 (by decide)
      have b73 : (0 : Int) ≤ M 598 73 ∧ M 598 73 ≤ 1600 := hI_M 598 73 (by decide)
      have tg := TK.ge (M := M) (by omega) (by omega)
      obtain ⟨vb, hvb⟩ : ∃ z, M 598 107 = z := ⟨_, rfl⟩
      have bvb : (0 : Int) ≤ vb ∧ vb ≤ 16 := by rw [← hvb]; exact hI_M 598 107 (by decide)
      refine jr.aload_n rfl rfl ?_
      obtain ⟨v2, e2⟩ : ∃ z, M 598 80 = z := ⟨_, rfl⟩
      have b2 : 0 ≤ v2 ∧ v2 ≤ 7 := by rw [← e2]; exact hI_M 598 80 (by decide)
      refine jr_v rfl rfl (Or.inl rfl) rfl rfl (by decide) rfl ⟨rfl, Nat.le_of_ble_eq_true rfl, Nat.le_of_ble_eq_true rfl⟩ rfl (jc.deep (c_good hI_M  (fun t149_0 => ?_) (fun f149_0 => ?_)) (by decide))
      · refine jr.if_eq rfl rfl (by omega) (fun h => absurd h (by decide)) (fun _ => ?_)
        refine jr.aload_n rfl rfl ?_
        refine jr.getf (i := 107) (x := vb) (v := .int (Int32.ofInt (vb))) rfl rfl (by decide) rfl (by decide) rfl rfl hvb rfl ?_
        refine jr.if_le rfl rfl (by omega) (fun h159 => ?_) (fun h159 => ?_)
        · exact absurd h159 (by omega)
        · refine jr.aload_n rfl rfl ?_
          refine jr.bipush rfl (by decide) ?_
          refine jr_v rfl rfl (Or.inl rfl) rfl rfl (by decide) rfl ⟨rfl, Nat.le_of_ble_eq_true rfl, Nat.le_of_ble_eq_true rfl⟩ rfl (jc.deep (c_isSign hI_M (by omega) (fun t165_0 t165_1 => ?_) (fun f165_0 => ?_)) (by decide))
          · refine jr.if_eq rfl rfl (by omega) (fun h => absurd h (by decide)) (fun _ => ?_)
            refine jr.aload_n rfl rfl ?_
            obtain ⟨v4, e4⟩ : ∃ z, M 598 88 = z := ⟨_, rfl⟩
            have b4 : 0 ≤ v4 ∧ v4 ≤ 16 := by rw [← e4]; exact hI_M 598 88 (by decide)
            obtain ⟨v5, e5⟩ : ∃ z, M 598 74 = z := ⟨_, rfl⟩
            have b5 : 0 ≤ v5 ∧ v5 ≤ 4 := by rw [← e5]; exact hI_M 598 74 (by decide)
            refine jr_v rfl rfl (Or.inl rfl) rfl rfl (by decide) rfl ⟨rfl, Nat.le_of_ble_eq_true rfl, Nat.le_of_ble_eq_true rfl⟩ rfl (jc.deep (r_closeBlock hI_M hH_M hS_M   hz.2 (by rw [hvb]; omega) (by rw [e4]; omega) (by rw [e5]; omega) (fun M3 hI_M3 hH_M3 hS_M3  w3_0 w3_1 w3_2 w3_3 w3_4 w3_5 => ?_)) (by decide))
            refine jr.goto rfl rfl ?_
            obtain ⟨v6, e6⟩ : ∃ z, M3 598 73 = z := ⟨_, rfl⟩
            have b6 : 0 ≤ v6 ∧ v6 ≤ 1600 := by rw [← e6]; exact hI_M3 598 73 (by decide)
            obtain ⟨v7, e7⟩ : ∃ z, M 598 72 = z := ⟨_, rfl⟩
            have b7 : 0 ≤ v7 ∧ v7 ≤ 1600 := by rw [← e7]; exact hI_M 598 72 (by decide)
            have e8 : M3 598 72 = v7 := ((w3_5 72 (by decide) (by decide) (by decide) (by decide) (by decide) (by decide) (by decide) (by decide) (by decide) (by decide) (by decide) (by decide) (by decide)).trans e7)
            obtain ⟨v9, e9⟩ : ∃ z, M3 598 80 = z := ⟨_, rfl⟩
            have b9 : 0 ≤ v9 ∧ v9 ≤ 7 := by rw [← e9]; exact hI_M3 598 80 (by decide)
            have y10 : M3 598 80 = v9 := e9
            have e11 : M3 598 88 = v4 := ((w3_5 88 (by decide) (by decide) (by decide) (by decide) (by decide) (by decide) (by decide) (by decide) (by decide) (by decide) (by decide) (by decide) (by decide)).trans e4)
            refine jr.pick [0] rfl rfl ?_
            have y12 : M3 598 80 = v9 := e9
            exact ih (nM - 1) (by omega) M3  hI_M3 hH_M3 hS_M3  (fun a i f598 f659 f660 f661 f662 f663 f664 f665 f666 f667 f668 f669 f656 f657 f658 => ((w3_4 a i f598 f658 f659 f660 f668 f669).trans (hF_M a i f598 f659 f660 f661 f662 f663 f664 f665 f666 f667 f668 f669 f656 f657 f658))) (fun i g73 g74 g75 g76 g77 g78 g79 g80 g81 g89 g90 g96 g100 g102 g107 g88 g101 => ((w3_5 i g73 g74 g75 g76 g77 g78 g79 g80 g81 g90 g100 g101 g107).trans (hG_M i g73 g74 g75 g76 g77 g78 g79 g80 g81 g89 g90 g96 g100 g102 g107 g88 g101)))  (by rcases w3_0 with z | ⟨z, z1 | z1⟩; (exact Or.inl z); (exact Or.inr (Or.inl z1)); (exact Or.inr (Or.inr z1))) (by rw [e6, e8] <;> omega) (by omega) (by omega) (by rw [e11] <;> omega) (by omega)
          · refine jr.if_eq rfl rfl (by omega) (fun _ => ?_) (fun h => absurd (by decide) h)
            refine jr.aload_n rfl rfl ?_
            obtain ⟨v14, e14⟩ : ∃ z, M 598 88 = z := ⟨_, rfl⟩
            have b14 : 0 ≤ v14 ∧ v14 ≤ 16 := by rw [← e14]; exact hI_M 598 88 (by decide)
            refine jr_v rfl rfl (Or.inl rfl) rfl rfl (by decide) rfl ⟨rfl, Nat.le_of_ble_eq_true rfl, Nat.le_of_ble_eq_true rfl⟩ rfl (jc.deep (r_deed hI_M hH_M hS_M   hz.2 (by rw [hvb]; omega) (by rw [e14]; omega) (fun M13 hI_M13 hH_M13 hS_M13  w13_0 w13_1 w13_2 w13_3 w13_4 w13_5 w13_6 => ?_)) (by decide))
            refine jr.goto rfl rfl ?_
            obtain ⟨v15, e15⟩ : ∃ z, M13 598 73 = z := ⟨_, rfl⟩
            have b15 : 0 ≤ v15 ∧ v15 ≤ 1600 := by rw [← e15]; exact hI_M13 598 73 (by decide)
            obtain ⟨v16, e16⟩ : ∃ z, M 598 72 = z := ⟨_, rfl⟩
            have b16 : 0 ≤ v16 ∧ v16 ≤ 1600 := by rw [← e16]; exact hI_M 598 72 (by decide)
            have e17 : M13 598 72 = v16 := ((w13_6 72 (by decide) (by decide) (by decide) (by decide) (by decide) (by decide) (by decide) (by decide) (by decide) (by decide) (by decide) (by decide) (by decide) (by decide) (by decide)).trans e16)
            obtain ⟨v18, e18⟩ : ∃ z, M13 598 80 = z := ⟨_, rfl⟩
            have b18 : 0 ≤ v18 ∧ v18 ≤ 7 := by rw [← e18]; exact hI_M13 598 80 (by decide)
            have y19 : M13 598 80 = v18 := e18
            have e20 : M13 598 88 = v14 := ((w13_6 88 (by decide) (by decide) (by decide) (by decide) (by decide) (by decide) (by decide) (by decide) (by decide) (by decide) (by decide) (by decide) (by decide) (by decide) (by decide)).trans e14)
            refine jr.pick [0] rfl rfl ?_
            have y21 : M13 598 80 = v18 := e18
            exact ih (nM - 1) (by omega) M13  hI_M13 hH_M13 hS_M13  (fun a i f598 f659 f660 f661 f662 f663 f664 f665 f666 f667 f668 f669 f656 f657 f658 => ((w13_5 a i f598 f659 f660 f661 f662 f663 f664 f665 f666 f667 f668 f669).trans (hF_M a i f598 f659 f660 f661 f662 f663 f664 f665 f666 f667 f668 f669 f656 f657 f658))) (fun i g73 g74 g75 g76 g77 g78 g79 g80 g81 g89 g90 g96 g100 g102 g107 g88 g101 => ((w13_6 i g73 g74 g75 g76 g77 g78 g79 g80 g81 g89 g90 g96 g100 g102 g107).trans (hG_M i g73 g74 g75 g76 g77 g78 g79 g80 g81 g89 g90 g96 g100 g102 g107 g88 g101)))  (by rcases w13_0 with z | ⟨z, z1⟩; (exact Or.inl z); (exact Or.inr (Or.inl ⟨by omega, z⟩))) (by rw [e15, e17] <;> omega) (by omega) (by omega) (by rw [e20] <;> omega) (by omega)
      · exfalso
        omega
    · obtain ⟨zb1, ⟨ds1, ds2, ds3, ds4, ds5, ds6, ds7, ds8, ds9⟩, zb2, zb3⟩ := id hz
      refine jr.aload_n rfl rfl ?_
      obtain ⟨v22, e22⟩ : ∃ z, M 598 80 = z := ⟨_, rfl⟩
      have b22 : 0 ≤ v22 ∧ v22 ≤ 7 := by rw [← e22]; exact hI_M 598 80 (by decide)
      refine jr_v rfl rfl (Or.inl rfl) rfl rfl (by decide) rfl ⟨rfl, Nat.le_of_ble_eq_true rfl, Nat.le_of_ble_eq_true rfl⟩ rfl (jc.deep (c_good hI_M  (fun t149_0 => ?_) (fun f149_0 => ?_)) (by decide))
      · refine jr.if_eq rfl rfl (by omega) (fun h => absurd h (by decide)) (fun _ => ?_)
        refine jr.aload_n rfl rfl ?_
        refine jr.getf (i := 107) (x := 0) (v := .int (Int32.ofInt (0))) rfl rfl (by decide) rfl (by decide) rfl rfl zb1 rfl ?_
        refine jr.if_le rfl rfl (by omega) (fun h159 => ?_) (fun h159 => ?_)
        · exact jr.vreturn rfl rfl (q _ hI_M hH_M hS_M  (Or.inr ⟨hz.2.1, hz.1, by omega, by omega, hz.2.2.1, hz.2.2.2⟩) (by omega) (by omega) (by omega) (fun a i f598 f659 f660 f661 f662 f663 f664 f665 f666 f667 f668 f669 f656 f657 f658 => (hF_M a i f598 f659 f660 f661 f662 f663 f664 f665 f666 f667 f668 f669 f656 f657 f658)) (fun i g73 g74 g75 g76 g77 g78 g79 g80 g81 g89 g90 g96 g100 g102 g107 g88 g101 => (hG_M i g73 g74 g75 g76 g77 g78 g79 g80 g81 g89 g90 g96 g100 g102 g107 g88 g101)))
        · exact absurd (by omega) h159
      · exfalso
        omega
theorem r_chain_L82 {A : Nat → Option (Nat × (Nat → Int32))} {Q : Option Value → jm → Prop} {dd : Int} {M0 : jm} (q : ∀ (M' : jm), RI M' → RH M' → RF M' → (BT M' ∨ (DS M' 1 ∧ M' 598 107 = 0 ∧ TK M' < TK M0 ∧ 1 ≤ M' 598 88 ∧ 1 ≤ M' 598 90 ∧ M' 659 (M' 598 90 - 1) = 3)) → TK M' ≤ TK M0 → M' 598 73 ≤ M' 598 72 → (M' 598 80 ≠ 0 ∨ TK M' < TK M0) → (∀ (a : Nat) (i : Int), a ≠ 598 → a ≠ 659 → a ≠ 660 → a ≠ 661 → a ≠ 662 → a ≠ 663 → a ≠ 664 → a ≠ 665 → a ≠ 666 → a ≠ 667 → a ≠ 668 → a ≠ 669 → a ≠ 656 → a ≠ 657 → a ≠ 658 → M' a i = M0 a i) → (∀ (i : Int), i ≠ 73 → i ≠ 74 → i ≠ 75 → i ≠ 76 → i ≠ 77 → i ≠ 78 → i ≠ 79 → i ≠ 80 → i ≠ 81 → i ≠ 89 → i ≠ 90 → i ≠ 96 → i ≠ 100 → i ≠ 102 → i ≠ 107 → i ≠ 88 → i ≠ 101 → M' 598 i = M0 598 i) → Q none M') : ∀ (M : jm) , RI M → RH M → RF M → (∀ (a : Nat) (i : Int), a ≠ 598 → a ≠ 659 → a ≠ 660 → a ≠ 661 → a ≠ 662 → a ≠ 663 → a ≠ 664 → a ≠ 665 → a ≠ 666 → a ≠ 667 → a ≠ 668 → a ≠ 669 → a ≠ 656 → a ≠ 657 → a ≠ 658 → M a i = M0 a i) → (∀ (i : Int), i ≠ 73 → i ≠ 74 → i ≠ 75 → i ≠ 76 → i ≠ 77 → i ≠ 78 → i ≠ 79 → i ≠ 80 → i ≠ 81 → i ≠ 89 → i ≠ 90 → i ≠ 96 → i ≠ 100 → i ≠ 102 → i ≠ 107 → i ≠ 88 → i ≠ 101 → M 598 i = M0 598 i) → XS M 0 0 dd 0 (-1) → AK M → LB M → M 598 96 ≤ M 598 89 ∧ M 598 89 ≤ 300 → M 598 73 ≤ M 598 72 → M 598 107 = 0 → 0 ≤ M 598 88 ∧ M 598 88 ≤ 15 → (M 598 74 = 3 → M 598 79 ≠ 10 ∧ M 598 79 ≠ 11) → TK M < TK M0 → M 598 74 = 1 → M 598 80 = 0 → jr A 8 xm_369 82 [(0, .ref (598))] [] M Q := by
    intro M  hI_M hH_M hS_M hF_M hG_M  hy0 hy1 hy2 hy3 hy4 hy5 hy6 hy7 hy8 hy9 hy10
    have hX := hy0
    have hA := hy1
    have hB := hy2
    have dpx := XS.dep hy0
    have sl := XS.sgle hy0
    have kb := XS.kz hy0
    have bM_107 : (0 : Int) ≤ M 598 107 ∧ M 598 107 ≤ 16 := hI_M 598 107 (by decide)
    have bM_73 : (0 : Int) ≤ M 598 73 ∧ M 598 73 ≤ 1600 := hI_M 598 73 (by decide)
    have bM_88 : (0 : Int) ≤ M 598 88 ∧ M 598 88 ≤ 16 := hI_M 598 88 (by decide)
    have bM_100 : (0 : Int) ≤ M 598 100 ∧ M 598 100 ≤ 13 := hI_M 598 100 (by decide)
    refine jr.aload_n rfl rfl ?_
    refine jr.getf (i := 91) (v := .ref 656) rfl rfl (by decide) rfl (by decide) rfl rfl rfl rfl ?_
    refine jr.aload_n rfl rfl ?_
    obtain ⟨v1, e1⟩ : ∃ z, M 598 88 = z := ⟨_, rfl⟩
    have b1 : 0 ≤ v1 ∧ v1 ≤ 16 := by rw [← e1]; exact hI_M 598 88 (by decide)
    refine jr.getf (i := 88) (x := v1) (v := .int (Int32.ofInt (v1))) rfl rfl (by decide) rfl (by decide) rfl rfl e1 rfl ?_
    refine jr.aload_n rfl rfl ?_
    obtain ⟨v2, e2⟩ : ∃ z, M 598 77 = z := ⟨_, rfl⟩
    have b2 : (-9223372036854775808) ≤ v2 ∧ v2 ≤ 9223372036854775807 := by rw [← e2]; exact hI_M 598 77 (by decide)
    refine jr.getf (i := 77) (x := v2) (v := .long (Int64.ofInt (v2))) rfl rfl (by decide) rfl (by decide) rfl rfl e2 rfl ?_
    refine jr.last (i := v1) (x := v2) rfl (by decide) rfl (by decide) (by omega) (by omega) ?_
    refine jr.aload_n rfl rfl ?_
    refine jr.getf (i := 92) (v := .ref 657) rfl rfl (by decide) rfl (by decide) rfl rfl rfl rfl ?_
    refine jr.aload_n rfl rfl ?_
    refine jr.getf (i := 88) (x := v1) (v := .int (Int32.ofInt (v1))) rfl rfl (by decide) rfl (by decide) rfl rfl ((ju_c _ _ (by decide)).trans e1) rfl ?_
    refine jr.aload_n rfl rfl ?_
    obtain ⟨v3, e3⟩ : ∃ z, M 598 90 = z := ⟨_, rfl⟩
    have b3 : 0 ≤ v3 ∧ v3 ≤ 2200 := by rw [← e3]; exact hI_M 598 90 (by decide)
    refine jr.getf (i := 90) (x := v3) (v := .int (Int32.ofInt (v3))) rfl rfl (by decide) rfl (by decide) rfl rfl ((ju_c _ _ (by decide)).trans e3) rfl ?_
    refine jr.iast (i := v1) (x := v3) rfl (by decide) rfl (by decide) (by omega) (by omega) ?_
    refine jr.aload_n rfl rfl ?_
    refine jr.getf (i := 93) (v := .ref 658) rfl rfl (by decide) rfl (by decide) rfl rfl rfl rfl ?_
    refine jr.aload_n rfl rfl ?_
    refine jr.getf (i := 88) (x := v1) (v := .int (Int32.ofInt (v1))) rfl rfl (by decide) rfl (by decide) rfl rfl ((ju_c _ _ (by decide)).trans ((ju_c _ _ (by decide)).trans e1)) rfl ?_
    refine jr.iconst rfl ?_
    refine jr.iast (i := v1) (x := (-1)) rfl (by decide) rfl (by decide) (by omega) (by omega) ?_
    refine jr.aload_n rfl rfl ?_
    refine jr.dup rfl rfl ?_
    refine jr.getf (i := 88) (x := v1) (v := .int (Int32.ofInt (v1))) rfl rfl (by decide) rfl (by decide) rfl rfl ((ju_c _ _ (by decide)).trans ((ju_c _ _ (by decide)).trans ((ju_c _ _ (by decide)).trans e1))) rfl ?_
    refine jr.iconst rfl ?_
    refine jr.iadd rfl ?_
    refine jr.putf (i := 88) (x := (v1 + 1)) rfl rfl (by decide) rfl (by decide) rfl rfl rfl rfl rfl ?_
    refine jr.aload_n rfl rfl ?_
    obtain ⟨v5, e5⟩ : ∃ z, M 598 73 = z := ⟨_, rfl⟩
    have b5 : 0 ≤ v5 ∧ v5 ≤ 1600 := by rw [← e5]; exact hI_M 598 73 (by decide)
    obtain ⟨v6, e6⟩ : ∃ z, M 598 72 = z := ⟨_, rfl⟩
    have b6 : 0 ≤ v6 ∧ v6 ≤ 1600 := by rw [← e6]; exact hI_M 598 72 (by decide)
    obtain ⟨v10, e10⟩ : ∃ z, M 598 74 = z := ⟨_, rfl⟩
    have b10 : 0 ≤ v10 ∧ v10 ≤ 4 := by rw [← e10]; exact hI_M 598 74 (by decide)
    obtain ⟨v12, e12⟩ : ∃ z, M 598 89 = z := ⟨_, rfl⟩
    have b12 : 0 ≤ v12 ∧ v12 ≤ 301 := by rw [← e12]; exact hI_M 598 89 (by decide)
    obtain ⟨v14, e14⟩ : ∃ z, M 598 100 = z := ⟨_, rfl⟩
    have b14 : 0 ≤ v14 ∧ v14 ≤ 13 := by rw [← e14]; exact hI_M 598 100 (by decide)
    obtain ⟨v16, e16⟩ : ∃ z, M 598 107 = z := ⟨_, rfl⟩
    have b16 : 0 ≤ v16 ∧ v16 ≤ 16 := by rw [← e16]; exact hI_M 598 107 (by decide)
    refine jr_v rfl rfl (Or.inl rfl) rfl rfl (by decide) rfl ⟨rfl, Nat.le_of_ble_eq_true rfl, Nat.le_of_ble_eq_true rfl⟩ rfl (jc.deep (r_next (RI.u (RI.u (RI.u (RI.u hI_M (a := 656) (i := v1) (by rw [xri_row rfl rfl]; show (-9223372036854775808 : Int) ≤ _ ∧ _ ≤ (9223372036854775807 : Int); omega)) (a := 657) (i := v1) (by rw [xri_row rfl rfl]; show (0 : Int) ≤ _ ∧ _ ≤ (2200 : Int); omega)) (a := 658) (i := v1) (by rw [xri_row rfl rfl]; show (-1 : Int) ≤ _ ∧ _ ≤ (2200 : Int); omega)) (a := 598) (i := 88) (show (0 : Int) ≤ _ ∧ _ ≤ (16 : Int) from by omega)) (RH.o (RH.o (RH.o (RH.o hH_M (by decide) (by decide) (by decide)) (by decide) (by decide) (by decide)) (by decide) (by decide) (by decide)) (by decide) (by decide) (by decide)) (RF.o (RF.o (RF.o (RF.o hS_M (by decide) (by decide)) (by decide) (by decide)) (by decide) (by decide)) (by decide) (by decide))   (by rw [((ju_i _ _ (by decide)).trans ((ju_c _ _ (by decide)).trans ((ju_c _ _ (by decide)).trans ((ju_c _ _ (by decide)).trans e5)))), ((ju_i _ _ (by decide)).trans ((ju_c _ _ (by decide)).trans ((ju_c _ _ (by decide)).trans ((ju_c _ _ (by decide)).trans e6))))]; omega) (fun M4 hI_M4 hH_M4 hS_M4  w4_0 w4_1 w4_2 w4_3 w4_4 w4_5 w4_6 => ?_)) (by decide))
    have y18 : (ju (ju (ju (ju M 656 v1 v2) 657 v1 v3) 658 v1 (-1)) 598 88 (v1 + 1)) 598 73 = v5 := ((ju_i _ _ (by decide)).trans ((ju_c _ _ (by decide)).trans ((ju_c _ _ (by decide)).trans ((ju_c _ _ (by decide)).trans e5))))
    have y19 : (ju (ju (ju (ju M 656 v1 v2) 657 v1 v3) 658 v1 (-1)) 598 88 (v1 + 1)) 598 74 = v10 := ((ju_i _ _ (by decide)).trans ((ju_c _ _ (by decide)).trans ((ju_c _ _ (by decide)).trans ((ju_c _ _ (by decide)).trans e10))))
    have tb4 : TK (ju (ju (ju (ju M 656 v1 v2) 657 v1 v3) 658 v1 (-1)) 598 88 (v1 + 1)) = TK M := ((TK.o (Or.inr ⟨by decide, by decide⟩)).trans ((TK.o (Or.inl (by decide))).trans ((TK.o (Or.inl (by decide))).trans ((TK.o (Or.inl (by decide))).trans rfl))))
    have y7 : M 598 88 = v1 := e1
    have y8 : M 598 90 = v3 := e3
    have hX := XS.chn (nm := v2) hX e1 e3 (by omega) (by have z := hB; unfold LB at z; rw [e3] at z; exact z)
    have hA := AK.cp (M' := (ju (ju (ju (ju M 656 v1 v2) 657 v1 v3) 658 v1 (-1)) 598 88 (v1 + 1))) hA (CP.o (CP.o (CP.o (CP.o (CP.rfl _) (by decide) (Or.inl (by decide))) (by decide) (Or.inl (by decide))) (by decide) (Or.inl (by decide))) (by decide) (Or.inr (by decide))) (fun i => by rw [ju_c _ _ (by decide), ju_c _ _ (by decide), ju_c _ _ (by decide), ju_c _ _ (by decide)]) (by rw [ju_i _ _ (by decide), ju_c _ _ (by decide), ju_c _ _ (by decide), ju_c _ _ (by decide)])
    have hB := LB.fr (M' := (ju (ju (ju (ju M 656 v1 v2) 657 v1 v3) 658 v1 (-1)) 598 88 (v1 + 1))) hB (fun i => by rw [ju_c _ _ (by decide), ju_c _ _ (by decide), ju_c _ _ (by decide), ju_c _ _ (by decide)]) (by rw [ju_i _ _ (by decide), ju_c _ _ (by decide), ju_c _ _ (by decide), ju_c _ _ (by decide)])
    have y9 : (ju (ju (ju (ju M 656 v1 v2) 657 v1 v3) 658 v1 (-1)) 598 88 (v1 + 1)) 598 73 = v5 := ((ju_i _ _ (by decide)).trans ((ju_c _ _ (by decide)).trans ((ju_c _ _ (by decide)).trans ((ju_c _ _ (by decide)).trans e5))))
    have y11 : (ju (ju (ju (ju M 656 v1 v2) 657 v1 v3) 658 v1 (-1)) 598 88 (v1 + 1)) 598 74 = v10 := ((ju_i _ _ (by decide)).trans ((ju_c _ _ (by decide)).trans ((ju_c _ _ (by decide)).trans ((ju_c _ _ (by decide)).trans e10))))
    have y13 : (ju (ju (ju (ju M 656 v1 v2) 657 v1 v3) 658 v1 (-1)) 598 88 (v1 + 1)) 598 89 = v12 := ((ju_i _ _ (by decide)).trans ((ju_c _ _ (by decide)).trans ((ju_c _ _ (by decide)).trans ((ju_c _ _ (by decide)).trans e12))))
    have y15 : (ju (ju (ju (ju M 656 v1 v2) 657 v1 v3) 658 v1 (-1)) 598 88 (v1 + 1)) 598 100 = v14 := ((ju_i _ _ (by decide)).trans ((ju_c _ _ (by decide)).trans ((ju_c _ _ (by decide)).trans ((ju_c _ _ (by decide)).trans e14))))
    have y17 : (ju (ju (ju (ju M 656 v1 v2) 657 v1 v3) 658 v1 (-1)) 598 88 (v1 + 1)) 598 107 = v16 := ((ju_i _ _ (by decide)).trans ((ju_c _ _ (by decide)).trans ((ju_c _ _ (by decide)).trans ((ju_c _ _ (by decide)).trans e16))))
    have x4_89 := w4_6 89 (by decide) (by decide) (by decide) (by decide) (by decide) (by decide) (by decide)
    have x4_100 := w4_6 100 (by decide) (by decide) (by decide) (by decide) (by decide) (by decide) (by decide)
    have x4_107 := w4_6 107 (by decide) (by decide) (by decide) (by decide) (by decide) (by decide) (by decide)
    have hX := XS.fr2 hX w4_5 (w4_6 88 (by decide) (by decide) (by decide) (by decide) (by decide) (by decide) (by decide)) (w4_6 90 (by decide) (by decide) (by decide) (by decide) (by decide) (by decide) (by decide)) (w4_6 101 (by decide) (by decide) (by decide) (by decide) (by decide) (by decide) (by decide)) (w4_6 107 (by decide) (by decide) (by decide) (by decide) (by decide) (by decide) (by decide)) (k' := 0 + 4) (d' := dd) (z' := 0) (by omega) (by omega) (by omega) (by omega)
    have hA := AK.cp hA (CP.f (CP.rfl _) (fun i => w4_5 659 i (by decide)) (w4_6 90 (by decide) (by decide) (by decide) (by decide) (by decide) (by decide) (by decide))) (fun i => w4_5 663 i (by decide)) (w4_6 96 (by decide) (by decide) (by decide) (by decide) (by decide) (by decide) (by decide))
    have hB := LB.fr hB (fun i => w4_5 659 i (by decide)) (w4_6 90 (by decide) (by decide) (by decide) (by decide) (by decide) (by decide) (by decide))
    refine jr.aload_n rfl rfl ?_
    refine jr.iconst rfl ?_
    refine jr.putf (i := 100) (x := 0) rfl rfl (by decide) rfl (by decide) rfl rfl rfl rfl rfl ?_
    refine jr.aload_n rfl rfl ?_
    refine jr.iconst rfl ?_
    refine jr.putf (i := 101) (x := 0) rfl rfl (by decide) rfl (by decide) rfl rfl rfl rfl rfl ?_
    refine jr.aload_n rfl rfl ?_
    refine jr.iconst rfl ?_
    refine jr.iconst rfl ?_
    obtain ⟨v21, e21⟩ : ∃ z, M4 598 73 = z := ⟨_, rfl⟩
    have b21 : 0 ≤ v21 ∧ v21 ≤ 1600 := by rw [← e21]; exact hI_M4 598 73 (by decide)
    have e22 : M4 598 72 = v6 := ((w4_6 72 (by decide) (by decide) (by decide) (by decide) (by decide) (by decide) (by decide)).trans ((ju_i _ _ (by decide)).trans ((ju_c _ _ (by decide)).trans ((ju_c _ _ (by decide)).trans ((ju_c _ _ (by decide)).trans e6)))))
    obtain ⟨v23, e23⟩ : ∃ z, M 598 80 = z := ⟨_, rfl⟩
    have b23 : 0 ≤ v23 ∧ v23 ≤ 7 := by rw [← e23]; exact hI_M 598 80 (by decide)
    have e24 : M4 598 80 = v23 := ((w4_6 80 (by decide) (by decide) (by decide) (by decide) (by decide) (by decide) (by decide)).trans ((ju_i _ _ (by decide)).trans ((ju_c _ _ (by decide)).trans ((ju_c _ _ (by decide)).trans ((ju_c _ _ (by decide)).trans e23)))))
    have e25 : M4 598 107 = v16 := ((w4_6 107 (by decide) (by decide) (by decide) (by decide) (by decide) (by decide) (by decide)).trans ((ju_i _ _ (by decide)).trans ((ju_c _ _ (by decide)).trans ((ju_c _ _ (by decide)).trans ((ju_c _ _ (by decide)).trans e16)))))
    have e28 : M4 598 90 = v3 := ((w4_6 90 (by decide) (by decide) (by decide) (by decide) (by decide) (by decide) (by decide)).trans ((ju_i _ _ (by decide)).trans ((ju_c _ _ (by decide)).trans ((ju_c _ _ (by decide)).trans ((ju_c _ _ (by decide)).trans e3)))))
    obtain ⟨v30, e30⟩ : ∃ z, M4 598 74 = z := ⟨_, rfl⟩
    have b30 : 0 ≤ v30 ∧ v30 ≤ 4 := by rw [← e30]; exact hI_M4 598 74 (by decide)
    obtain ⟨v34, e34⟩ : ∃ z, M4 598 79 = z := ⟨_, rfl⟩
    have b34 : 0 ≤ v34 ∧ v34 ≤ 255 := by rw [← e34]; exact hI_M4 598 79 (by decide)
    refine jr_v rfl rfl (Or.inl rfl) rfl rfl (by decide) rfl ⟨rfl, Nat.le_of_ble_eq_true rfl, Nat.le_of_ble_eq_true rfl⟩ rfl (jc.deep (r_beginBlock (RI.u (RI.u hI_M4 (a := 598) (i := 100) (show (0 : Int) ≤ _ ∧ _ ≤ (13 : Int) from by omega)) (a := 598) (i := 101) (show (0 : Int) ≤ _ ∧ _ ≤ (1 : Int) from by omega)) (RH.o (RH.o hH_M4 (by decide) (by decide) (by decide)) (by decide) (by decide) (by decide)) (RF.o (RF.o hS_M4 (by decide) (by decide)) (by decide) (by decide))  (by omega) (by omega) (by rw [((ju_i _ _ (by decide)).trans ((ju_i _ _ (by decide)).trans e21)), ((ju_i _ _ (by decide)).trans ((ju_i _ _ (by decide)).trans e22))]; omega) (by rw [((ju_i _ _ (by decide)).trans ((ju_i _ _ (by decide)).trans e24)), ((ju_i _ _ (by decide)).trans (ju_same _ _ _ _))]; intro q; omega) (by rw [((ju_i _ _ (by decide)).trans ((ju_i _ _ (by decide)).trans e25))]; omega) (fun M20 hI_M20 hH_M20 hS_M20  w20_0 w20_1 w20_2 w20_3 w20_4 w20_5 w20_6 w20_7 w20_8 w20_9 w20_10 w20_11 => ?_)) (by decide))
    have y32 : (ju (ju M4 598 100 0) 598 101 0) 598 73 = v21 := ((ju_i _ _ (by decide)).trans ((ju_i _ _ (by decide)).trans e21))
    have y33 : (ju (ju M4 598 100 0) 598 101 0) 598 74 = v30 := ((ju_i _ _ (by decide)).trans ((ju_i _ _ (by decide)).trans e30))
    have y35 : (ju (ju M4 598 100 0) 598 101 0) 598 79 = v34 := ((ju_i _ _ (by decide)).trans ((ju_i _ _ (by decide)).trans e34))
    have y36 : (ju (ju M4 598 100 0) 598 101 0) 598 80 = v23 := ((ju_i _ _ (by decide)).trans ((ju_i _ _ (by decide)).trans e24))
    have y37 : (ju (ju M4 598 100 0) 598 101 0) 598 90 = v3 := ((ju_i _ _ (by decide)).trans ((ju_i _ _ (by decide)).trans e28))
    have y38 : (ju (ju M4 598 100 0) 598 101 0) 598 101 = 0 := (ju_same _ _ _ _)
    have y39 : (ju (ju M4 598 100 0) 598 101 0) 598 107 = v16 := ((ju_i _ _ (by decide)).trans ((ju_i _ _ (by decide)).trans e25))
    have tb20 : TK (ju (ju M4 598 100 0) 598 101 0) = TK M4 := ((TK.o (Or.inr ⟨by decide, by decide⟩)).trans ((TK.o (Or.inr ⟨by decide, by decide⟩)).trans rfl))
    have hX := XS.ib (XS.dpz hX (by rw [e25]; omega)) (by rw [((ju_i _ _ (by decide)).trans e25)]; omega) 0
    have hA := AK.cp (M' := (ju (ju M4 598 100 0) 598 101 0)) hA (CP.o (CP.o (CP.rfl _) (by decide) (Or.inr (by decide))) (by decide) (Or.inr (by decide))) (fun i => by rw [ju_c _ _ (by decide), ju_c _ _ (by decide)]) (by rw [ju_i _ _ (by decide), ju_i _ _ (by decide)])
    have hB := LB.fr (M' := (ju (ju M4 598 100 0) 598 101 0)) hB (fun i => by rw [ju_c _ _ (by decide), ju_c _ _ (by decide)]) (by rw [ju_i _ _ (by decide), ju_i _ _ (by decide)])
    have y26 : (ju (ju M4 598 100 0) 598 101 0) 598 101 = 0 := (ju_same _ _ _ _)
    have y27 : (ju (ju M4 598 100 0) 598 101 0) 598 107 = v16 := ((ju_i _ _ (by decide)).trans ((ju_i _ _ (by decide)).trans e25))
    have y29 : (ju (ju M4 598 100 0) 598 101 0) 598 90 = v3 := ((ju_i _ _ (by decide)).trans ((ju_i _ _ (by decide)).trans e28))
    have y31 : (ju (ju M4 598 100 0) 598 101 0) 598 74 = v30 := ((ju_i _ _ (by decide)).trans ((ju_i _ _ (by decide)).trans e30))
    have e40 : M20 598 72 = v6 := ((w20_11 72 (by decide) (by decide) (by decide) (by decide) (by decide) (by decide) (by decide) (by decide) (by decide) (by decide) (by decide)).trans ((ju_i _ _ (by decide)).trans ((ju_i _ _ (by decide)).trans e22)))
    have y41 : M20 598 72 = v6 := e40
    obtain ⟨v42, e42⟩ : ∃ z, M20 598 73 = z := ⟨_, rfl⟩
    have b42 : 0 ≤ v42 ∧ v42 ≤ 1600 := by rw [← e42]; exact hI_M20 598 73 (by decide)
    have y43 : M20 598 73 = v42 := e42
    obtain ⟨v44, e44⟩ : ∃ z, M20 598 74 = z := ⟨_, rfl⟩
    have b44 : 0 ≤ v44 ∧ v44 ≤ 4 := by rw [← e44]; exact hI_M20 598 74 (by decide)
    have y45 : M20 598 74 = v44 := e44
    obtain ⟨v46, e46⟩ : ∃ z, M20 598 79 = z := ⟨_, rfl⟩
    have b46 : 0 ≤ v46 ∧ v46 ≤ 255 := by rw [← e46]; exact hI_M20 598 79 (by decide)
    have y47 : M20 598 79 = v46 := e46
    obtain ⟨v48, e48⟩ : ∃ z, M20 598 80 = z := ⟨_, rfl⟩
    have b48 : 0 ≤ v48 ∧ v48 ≤ 7 := by rw [← e48]; exact hI_M20 598 80 (by decide)
    have y49 : M20 598 80 = v48 := e48
    have e50 : M4 598 89 = v12 := ((w4_6 89 (by decide) (by decide) (by decide) (by decide) (by decide) (by decide) (by decide)).trans ((ju_i _ _ (by decide)).trans ((ju_c _ _ (by decide)).trans ((ju_c _ _ (by decide)).trans ((ju_c _ _ (by decide)).trans e12)))))
    have e51 : M20 598 89 = v12 := ((w20_11 89 (by decide) (by decide) (by decide) (by decide) (by decide) (by decide) (by decide) (by decide) (by decide) (by decide) (by decide)).trans ((ju_i _ _ (by decide)).trans ((ju_i _ _ (by decide)).trans e50)))
    have y52 : M20 598 89 = v12 := e51
    have e53 : M20 598 90 = v3 := ((w20_11 90 (by decide) (by decide) (by decide) (by decide) (by decide) (by decide) (by decide) (by decide) (by decide) (by decide) (by decide)).trans ((ju_i _ _ (by decide)).trans ((ju_i _ _ (by decide)).trans e28)))
    have y54 : M20 598 90 = v3 := e53
    obtain ⟨v55, e55⟩ : ∃ z, M 598 96 = z := ⟨_, rfl⟩
    have b55 : 0 ≤ v55 ∧ v55 ≤ 300 := by rw [← e55]; exact hI_M 598 96 (by decide)
    have e56 : M4 598 96 = v55 := ((w4_6 96 (by decide) (by decide) (by decide) (by decide) (by decide) (by decide) (by decide)).trans ((ju_i _ _ (by decide)).trans ((ju_c _ _ (by decide)).trans ((ju_c _ _ (by decide)).trans ((ju_c _ _ (by decide)).trans e55)))))
    have e57 : M20 598 96 = v55 := ((w20_11 96 (by decide) (by decide) (by decide) (by decide) (by decide) (by decide) (by decide) (by decide) (by decide) (by decide) (by decide)).trans ((ju_i _ _ (by decide)).trans ((ju_i _ _ (by decide)).trans e56)))
    have y58 : M20 598 96 = v55 := e57
    obtain ⟨v59, e59⟩ : ∃ z, M20 598 100 = z := ⟨_, rfl⟩
    have b59 : 0 ≤ v59 ∧ v59 ≤ 13 := by rw [← e59]; exact hI_M20 598 100 (by decide)
    have y60 : M20 598 100 = v59 := e59
    obtain ⟨v61, e61⟩ : ∃ z, M20 598 107 = z := ⟨_, rfl⟩
    have b61 : 0 ≤ v61 ∧ v61 ≤ 16 := by rw [← e61]; exact hI_M20 598 107 (by decide)
    have y62 : M20 598 107 = v61 := e61
    have y63 : M20 598 80 = v48 := e48
    have e64 : M4 598 88 = v1 + 1 := ((w4_6 88 (by decide) (by decide) (by decide) (by decide) (by decide) (by decide) (by decide)).trans (ju_same _ _ _ _))
    have e65 : M20 598 88 = v1 + 1 := ((w20_11 88 (by decide) (by decide) (by decide) (by decide) (by decide) (by decide) (by decide) (by decide) (by decide) (by decide) (by decide)).trans ((ju_i _ _ (by decide)).trans ((ju_i _ _ (by decide)).trans e64)))
    refine jr.pick [0] rfl rfl ?_
    have y66 : M20 598 80 = v48 := e48
    exact r_chain_L148 (dd := dd) q 3203 M20  hI_M20 hH_M20 hS_M20  (fun a i f598 f659 f660 f661 f662 f663 f664 f665 f666 f667 f668 f669 f656 f657 f658 => ((w20_10 a i f598 f668 f669).trans ((ju_c _ _ f598).trans ((ju_c _ _ f598).trans ((w4_5 a i f598).trans ((ju_c _ _ f598).trans ((ju_c _ _ f658).trans ((ju_c _ _ f657).trans ((ju_c _ _ f656).trans (hF_M a i f598 f659 f660 f661 f662 f663 f664 f665 f666 f667 f668 f669 f656 f657 f658)))))))))) (fun i g73 g74 g75 g76 g77 g78 g79 g80 g81 g89 g90 g96 g100 g102 g107 g88 g101 => ((w20_11 i g73 g74 g75 g76 g77 g78 g79 g80 g81 g100 g107).trans ((ju_i _ _ g101).trans ((ju_i _ _ g100).trans ((w4_6 i g73 g74 g75 g76 g77 g78 g79).trans ((ju_i _ _ g88).trans ((ju_c _ _ (by decide)).trans ((ju_c _ _ (by decide)).trans ((ju_c _ _ (by decide)).trans (hG_M i g73 g74 g75 g76 g77 g78 g79 g80 g81 g89 g90 g96 g100 g102 g107 g88 g101))))))))))  (by by_cases hf : v48 = 0; (first | (exfalso; omega) | (have e0 : (ju (ju M4 598 100 0) 598 101 0) 598 107 = 0 := (by omega); have e1 : (ju (ju M4 598 100 0) 598 101 0) 598 101 = 0 := (by omega); have hX := w20_9 0 (0 + 4) 0 0 _ hX (by omega) (fun _ => ⟨by omega, by omega, by omega, rfl⟩) (fun q => by exfalso; omega) (by rw [e0, e1]; decide) (by omega); have hB := LB.fr hB (fun i => w20_10 659 i (by decide) (by decide) (by decide)) (w20_11 90 (by decide) (by decide) (by decide) (by decide) (by decide) (by decide) (by decide) (by decide) (by decide) (by decide) (by decide)); have hA := AK.cp hA (CP.f (CP.rfl _) (fun i => w20_10 659 i (by decide) (by decide) (by decide)) (w20_11 90 (by decide) (by decide) (by decide) (by decide) (by decide) (by decide) (by decide) (by decide) (by decide) (by decide) (by decide))) (fun i => w20_10 663 i (by decide) (by decide) (by decide)) (w20_11 96 (by decide) (by decide) (by decide) (by decide) (by decide) (by decide) (by decide) (by decide) (by decide) (by decide) (by decide)); exact Or.inr (Or.inl ⟨by omega, ⟨by omega, XS.adj hX (k' := 0) (z' := 0) (by omega) (by omega) (by omega), by omega, by omega, by omega, by omega, hB, hA, by omega⟩⟩))); (exact Or.inl ⟨by omega, by omega⟩)) (by rw [e42, e40] <;> omega) (by omega) (by omega) (by rw [e65] <;> omega) (by have t := TK.le (M := M20) (by omega); omega)
theorem r_chain_L37 {A : Nat → Option (Nat × (Nat → Int32))} {Q : Option Value → jm → Prop} {dd : Int} {M0 : jm} (q : ∀ (M' : jm), RI M' → RH M' → RF M' → (BT M' ∨ (DS M' 1 ∧ M' 598 107 = 0 ∧ TK M' < TK M0 ∧ 1 ≤ M' 598 88 ∧ 1 ≤ M' 598 90 ∧ M' 659 (M' 598 90 - 1) = 3)) → TK M' ≤ TK M0 → M' 598 73 ≤ M' 598 72 → (M' 598 80 ≠ 0 ∨ TK M' < TK M0) → (∀ (a : Nat) (i : Int), a ≠ 598 → a ≠ 659 → a ≠ 660 → a ≠ 661 → a ≠ 662 → a ≠ 663 → a ≠ 664 → a ≠ 665 → a ≠ 666 → a ≠ 667 → a ≠ 668 → a ≠ 669 → a ≠ 656 → a ≠ 657 → a ≠ 658 → M' a i = M0 a i) → (∀ (i : Int), i ≠ 73 → i ≠ 74 → i ≠ 75 → i ≠ 76 → i ≠ 77 → i ≠ 78 → i ≠ 79 → i ≠ 80 → i ≠ 81 → i ≠ 89 → i ≠ 90 → i ≠ 96 → i ≠ 100 → i ≠ 102 → i ≠ 107 → i ≠ 88 → i ≠ 101 → M' 598 i = M0 598 i) → Q none M') : ∀ (nM : Nat) (M : jm) (k : Int), RI M → RH M → RF M → (∀ (a : Nat) (i : Int), a ≠ 598 → a ≠ 659 → a ≠ 660 → a ≠ 661 → a ≠ 662 → a ≠ 663 → a ≠ 664 → a ≠ 665 → a ≠ 666 → a ≠ 667 → a ≠ 668 → a ≠ 669 → a ≠ 656 → a ≠ 657 → a ≠ 658 → M a i = M0 a i) → (∀ (i : Int), i ≠ 73 → i ≠ 74 → i ≠ 75 → i ≠ 76 → i ≠ 77 → i ≠ 78 → i ≠ 79 → i ≠ 80 → i ≠ 81 → i ≠ 89 → i ≠ 90 → i ≠ 96 → i ≠ 100 → i ≠ 102 → i ≠ 107 → i ≠ 88 → i ≠ 101 → M 598 i = M0 598 i) → 0 ≤ k ∧ k ≤ 16 → XS M 0 0 dd 0 (-1) → AK M → LB M → M 598 96 ≤ M 598 89 ∧ M 598 89 ≤ 300 → M 598 73 ≤ M 598 72 → M 598 107 = 0 → 0 ≤ M 598 88 ∧ M 598 88 ≤ 15 → (M 598 74 = 3 → M 598 79 ≠ 10 ∧ M 598 79 ≠ 11) → TK M < TK M0 → M 598 74 = 1 → 16 - k ≤ nM → jr A 8 xm_369 37 [(1, .int (Int32.ofInt (k))), (0, .ref (598))] [] M Q := by
  intro nM
  induction nM using Nat.strongRecOn with
  | ind nM ih =>
    intro M k hI_M hH_M hS_M hF_M hG_M h_k hy0 hy1 hy2 hy3 hy4 hy5 hy6 hy7 hy8 hy9 hm
    have hX := hy0
    have hA := hy1
    have hB := hy2
    have dpx := XS.dep hy0
    have sl := XS.sgle hy0
    have kb := XS.kz hy0
    have bM_107 : (0 : Int) ≤ M 598 107 ∧ M 598 107 ≤ 16 := hI_M 598 107 (by decide)
    have bM_73 : (0 : Int) ≤ M 598 73 ∧ M 598 73 ≤ 1600 := hI_M 598 73 (by decide)
    have bM_88 : (0 : Int) ≤ M 598 88 ∧ M 598 88 ≤ 16 := hI_M 598 88 (by decide)
    have bM_100 : (0 : Int) ≤ M 598 100 ∧ M 598 100 ≤ 13 := hI_M 598 100 (by decide)
    refine jr.iload_n rfl rfl ?_
    refine jr.aload_n rfl rfl ?_
    obtain ⟨v1, e1⟩ : ∃ z, M 598 88 = z := ⟨_, rfl⟩
    have b1 : 0 ≤ v1 ∧ v1 ≤ 16 := by rw [← e1]; exact hI_M 598 88 (by decide)
    refine jr.getf (i := 88) (x := v1) (v := .int (Int32.ofInt (v1))) rfl rfl (by decide) rfl (by decide) rfl rfl e1 rfl ?_
    refine jr.icmp_ge rfl rfl (by omega) (by omega) (fun h42 => ?_) (fun h42 => ?_)
    · refine jr.aload_n rfl rfl ?_
      refine jr_v rfl rfl (Or.inl rfl) rfl rfl (by decide) rfl ⟨rfl, Nat.le_of_ble_eq_true rfl, Nat.le_of_ble_eq_true rfl⟩ rfl (jc.deep (c_good hI_M  (fun t75_0 => ?_) (fun f75_0 => ?_)) (by decide))
      · refine jr.if_ne rfl rfl (by omega) (fun _ => ?_) (fun h => absurd (by decide) h)
        obtain ⟨v2, e2⟩ : ∃ z, M 598 96 = z := ⟨_, rfl⟩
        have b2 : 0 ≤ v2 ∧ v2 ≤ 300 := by rw [← e2]; exact hI_M 598 96 (by decide)
        obtain ⟨v3, e3⟩ : ∃ z, M 598 89 = z := ⟨_, rfl⟩
        have b3 : 0 ≤ v3 ∧ v3 ≤ 301 := by rw [← e3]; exact hI_M 598 89 (by decide)
        obtain ⟨v4, e4⟩ : ∃ z, M 598 73 = z := ⟨_, rfl⟩
        have b4 : 0 ≤ v4 ∧ v4 ≤ 1600 := by rw [← e4]; exact hI_M 598 73 (by decide)
        obtain ⟨v5, e5⟩ : ∃ z, M 598 72 = z := ⟨_, rfl⟩
        have b5 : 0 ≤ v5 ∧ v5 ≤ 1600 := by rw [← e5]; exact hI_M 598 72 (by decide)
        obtain ⟨v6, e6⟩ : ∃ z, M 598 107 = z := ⟨_, rfl⟩
        have b6 : 0 ≤ v6 ∧ v6 ≤ 16 := by rw [← e6]; exact hI_M 598 107 (by decide)
        obtain ⟨v7, e7⟩ : ∃ z, M 598 74 = z := ⟨_, rfl⟩
        have b7 : 0 ≤ v7 ∧ v7 ≤ 4 := by rw [← e7]; exact hI_M 598 74 (by decide)
        obtain ⟨v8, e8⟩ : ∃ z, M 598 79 = z := ⟨_, rfl⟩
        have b8 : 0 ≤ v8 ∧ v8 ≤ 255 := by rw [← e8]; exact hI_M 598 79 (by decide)
        obtain ⟨v9, e9⟩ : ∃ z, M 598 80 = z := ⟨_, rfl⟩
        have b9 : 0 ≤ v9 ∧ v9 ≤ 7 := by rw [← e9]; exact hI_M 598 80 (by decide)
        refine jr.pick [1] rfl rfl ?_
        exact r_chain_L82 q M  hI_M hH_M hS_M  (fun a i f598 f659 f660 f661 f662 f663 f664 f665 f666 f667 f668 f669 f656 f657 f658 => (hF_M a i f598 f659 f660 f661 f662 f663 f664 f665 f666 f667 f668 f669 f656 f657 f658)) (fun i g73 g74 g75 g76 g77 g78 g79 g80 g81 g89 g90 g96 g100 g102 g107 g88 g101 => (hG_M i g73 g74 g75 g76 g77 g78 g79 g80 g81 g89 g90 g96 g100 g102 g107 g88 g101))  hX hA hB (by rw [e2, e3] <;> omega) (by rw [e4, e5] <;> omega) (by rw [e6] <;> omega) (by rw [e1] <;> omega) (by rw [e7, e8] <;> omega) (by omega) (by rw [e7] <;> omega) (by rw [e9] <;> omega)
      · refine jr.if_ne rfl rfl (by omega) (fun h => absurd h (by decide)) (fun _ => ?_)
        obtain ⟨v10, e10⟩ : ∃ z, M 598 72 = z := ⟨_, rfl⟩
        have b10 : 0 ≤ v10 ∧ v10 ≤ 1600 := by rw [← e10]; exact hI_M 598 72 (by decide)
        have y11 : M 598 72 = v10 := e10
        obtain ⟨v12, e12⟩ : ∃ z, M 598 73 = z := ⟨_, rfl⟩
        have b12 : 0 ≤ v12 ∧ v12 ≤ 1600 := by rw [← e12]; exact hI_M 598 73 (by decide)
        have y13 : M 598 73 = v12 := e12
        obtain ⟨v14, e14⟩ : ∃ z, M 598 80 = z := ⟨_, rfl⟩
        have b14 : 0 ≤ v14 ∧ v14 ≤ 7 := by rw [← e14]; exact hI_M 598 80 (by decide)
        have y15 : M 598 80 = v14 := e14
        obtain ⟨v16, e16⟩ : ∃ z, M 598 90 = z := ⟨_, rfl⟩
        have b16 : 0 ≤ v16 ∧ v16 ≤ 2200 := by rw [← e16]; exact hI_M 598 90 (by decide)
        have y17 : M 598 90 = v16 := e16
        exact jr.vreturn rfl rfl (q _ hI_M hH_M hS_M  (Or.inl ⟨by omega, by omega⟩) (by omega) (by omega) (by omega) (fun a i f598 f659 f660 f661 f662 f663 f664 f665 f666 f667 f668 f669 f656 f657 f658 => (hF_M a i f598 f659 f660 f661 f662 f663 f664 f665 f666 f667 f668 f669 f656 f657 f658)) (fun i g73 g74 g75 g76 g77 g78 g79 g80 g81 g89 g90 g96 g100 g102 g107 g88 g101 => (hG_M i g73 g74 g75 g76 g77 g78 g79 g80 g81 g89 g90 g96 g100 g102 g107 g88 g101)))
    · refine jr.aload_n rfl rfl ?_
      refine jr.getf (i := 91) (v := .ref 656) rfl rfl (by decide) rfl (by decide) rfl rfl rfl rfl ?_
      refine jr.iload_n rfl rfl ?_
      obtain ⟨v18, e18⟩ : ∃ z, M 656 k = z := ⟨_, rfl⟩
      have b18 : (-9223372036854775808) ≤ v18 ∧ v18 ≤ 9223372036854775807 := by rw [← e18]; exact (by have q := hI_M 656 k (by decide); rw [xri_row rfl rfl] at q; exact q)
      refine jr.lald (i := k) (x := v18) rfl (by decide) rfl (by decide) (by omega) (by omega) e18 ?_
      refine jr.aload_n rfl rfl ?_
      obtain ⟨v19, e19⟩ : ∃ z, M 598 77 = z := ⟨_, rfl⟩
      have b19 : (-9223372036854775808) ≤ v19 ∧ v19 ≤ 9223372036854775807 := by rw [← e19]; exact hI_M 598 77 (by decide)
      refine jr.getf (i := 77) (x := v19) (v := .long (Int64.ofInt (v19))) rfl rfl (by decide) rfl (by decide) rfl rfl e19 rfl ?_
      refine jr.lcmp_ne rfl rfl rfl (by omega) (by omega) (fun h55 => ?_) (fun h55 => ?_)
      · refine jr.iinc rfl rfl (by decide) rfl ?_
        refine jr.goto rfl rfl ?_
        obtain ⟨v20, e20⟩ : ∃ z, M 598 96 = z := ⟨_, rfl⟩
        have b20 : 0 ≤ v20 ∧ v20 ≤ 300 := by rw [← e20]; exact hI_M 598 96 (by decide)
        obtain ⟨v21, e21⟩ : ∃ z, M 598 89 = z := ⟨_, rfl⟩
        have b21 : 0 ≤ v21 ∧ v21 ≤ 301 := by rw [← e21]; exact hI_M 598 89 (by decide)
        obtain ⟨v22, e22⟩ : ∃ z, M 598 73 = z := ⟨_, rfl⟩
        have b22 : 0 ≤ v22 ∧ v22 ≤ 1600 := by rw [← e22]; exact hI_M 598 73 (by decide)
        obtain ⟨v23, e23⟩ : ∃ z, M 598 72 = z := ⟨_, rfl⟩
        have b23 : 0 ≤ v23 ∧ v23 ≤ 1600 := by rw [← e23]; exact hI_M 598 72 (by decide)
        obtain ⟨v24, e24⟩ : ∃ z, M 598 107 = z := ⟨_, rfl⟩
        have b24 : 0 ≤ v24 ∧ v24 ≤ 16 := by rw [← e24]; exact hI_M 598 107 (by decide)
        obtain ⟨v25, e25⟩ : ∃ z, M 598 74 = z := ⟨_, rfl⟩
        have b25 : 0 ≤ v25 ∧ v25 ≤ 4 := by rw [← e25]; exact hI_M 598 74 (by decide)
        obtain ⟨v26, e26⟩ : ∃ z, M 598 79 = z := ⟨_, rfl⟩
        have b26 : 0 ≤ v26 ∧ v26 ≤ 255 := by rw [← e26]; exact hI_M 598 79 (by decide)
        refine jr.pick [0, 1] rfl rfl ?_
        exact ih (nM - 1) (by omega) M (k + 1) hI_M hH_M hS_M  (fun a i f598 f659 f660 f661 f662 f663 f664 f665 f666 f667 f668 f669 f656 f657 f658 => (hF_M a i f598 f659 f660 f661 f662 f663 f664 f665 f666 f667 f668 f669 f656 f657 f658)) (fun i g73 g74 g75 g76 g77 g78 g79 g80 g81 g89 g90 g96 g100 g102 g107 g88 g101 => (hG_M i g73 g74 g75 g76 g77 g78 g79 g80 g81 g89 g90 g96 g100 g102 g107 g88 g101)) (by omega) hX hA hB (by rw [e20, e21] <;> omega) (by rw [e22, e23] <;> omega) (by rw [e24] <;> omega) (by rw [e1] <;> omega) (by rw [e25, e26] <;> omega) (by omega) (by rw [e25] <;> omega) (by omega)
      · refine jr.aload_n rfl rfl ?_
        refine jr.iconst rfl ?_
        refine jr.aload_n rfl rfl ?_
        obtain ⟨v27, e27⟩ : ∃ z, M 598 75 = z := ⟨_, rfl⟩
        have b27 : 0 ≤ v27 ∧ v27 ≤ 1600 := by rw [← e27]; exact hI_M 598 75 (by decide)
        refine jr.getf (i := 75) (x := v27) (v := .int (Int32.ofInt (v27))) rfl rfl (by decide) rfl (by decide) rfl rfl e27 rfl ?_
        obtain ⟨v29, e29⟩ : ∃ z, M 598 73 = z := ⟨_, rfl⟩
        have b29 : 0 ≤ v29 ∧ v29 ≤ 1600 := by rw [← e29]; exact hI_M 598 73 (by decide)
        obtain ⟨v31, e31⟩ : ∃ z, M 598 74 = z := ⟨_, rfl⟩
        have b31 : 0 ≤ v31 ∧ v31 ≤ 4 := by rw [← e31]; exact hI_M 598 74 (by decide)
        obtain ⟨v33, e33⟩ : ∃ z, M 598 89 = z := ⟨_, rfl⟩
        have b33 : 0 ≤ v33 ∧ v33 ≤ 301 := by rw [← e33]; exact hI_M 598 89 (by decide)
        obtain ⟨v35, e35⟩ : ∃ z, M 598 100 = z := ⟨_, rfl⟩
        have b35 : 0 ≤ v35 ∧ v35 ≤ 13 := by rw [← e35]; exact hI_M 598 100 (by decide)
        refine jr_v rfl rfl (Or.inl rfl) rfl rfl (by decide) rfl ⟨rfl, Nat.le_of_ble_eq_true rfl, Nat.le_of_ble_eq_true rfl⟩ rfl (jc.deep (r_fails hI_M hH_M hS_M  (by omega) (by omega)  (fun M28 hI_M28 hH_M28 hS_M28  w28_0 w28_1 w28_2 => ?_)) (by decide))
        have tk28 : TK M28 = TK M := TK.fr (w28_2 73 (by decide) (by decide)) (w28_2 74 (by decide) (by decide))
        have y30 : M 598 73 = v29 := e29
        have y32 : M 598 74 = v31 := e31
        have y34 : M 598 89 = v33 := e33
        have y36 : M 598 100 = v35 := e35
        have x28_73 := w28_2 73 (by decide) (by decide)
        have x28_74 := w28_2 74 (by decide) (by decide)
        have x28_89 := w28_2 89 (by decide) (by decide)
        have x28_100 := w28_2 100 (by decide) (by decide)
        have hX := XS.fr2 hX w28_1 (w28_2 88 (by decide) (by decide)) (w28_2 90 (by decide) (by decide)) (w28_2 101 (by decide) (by decide)) (w28_2 107 (by decide) (by decide)) (k' := 0) (d' := dd) (z' := 0) (by omega) (by omega) (by omega) (by omega)
        have hA := AK.cp hA (CP.f (CP.rfl _) (fun i => w28_1 659 i (by decide)) (w28_2 90 (by decide) (by decide))) (fun i => w28_1 663 i (by decide)) (w28_2 96 (by decide) (by decide))
        have hB := LB.fr hB (fun i => w28_1 659 i (by decide)) (w28_2 90 (by decide) (by decide))
        refine jr.iinc rfl rfl (by decide) rfl ?_
        refine jr.goto rfl rfl ?_
        obtain ⟨v37, e37⟩ : ∃ z, M 598 96 = z := ⟨_, rfl⟩
        have b37 : 0 ≤ v37 ∧ v37 ≤ 300 := by rw [← e37]; exact hI_M 598 96 (by decide)
        have e38 : M28 598 96 = v37 := ((w28_2 96 (by decide) (by decide)).trans e37)
        have e39 : M28 598 89 = v33 := ((w28_2 89 (by decide) (by decide)).trans e33)
        have e40 : M28 598 73 = v29 := ((w28_2 73 (by decide) (by decide)).trans e29)
        obtain ⟨v41, e41⟩ : ∃ z, M 598 72 = z := ⟨_, rfl⟩
        have b41 : 0 ≤ v41 ∧ v41 ≤ 1600 := by rw [← e41]; exact hI_M 598 72 (by decide)
        have e42 : M28 598 72 = v41 := ((w28_2 72 (by decide) (by decide)).trans e41)
        obtain ⟨v43, e43⟩ : ∃ z, M 598 107 = z := ⟨_, rfl⟩
        have b43 : 0 ≤ v43 ∧ v43 ≤ 16 := by rw [← e43]; exact hI_M 598 107 (by decide)
        have e44 : M28 598 107 = v43 := ((w28_2 107 (by decide) (by decide)).trans e43)
        have e45 : M28 598 88 = v1 := ((w28_2 88 (by decide) (by decide)).trans e1)
        have e46 : M28 598 74 = v31 := ((w28_2 74 (by decide) (by decide)).trans e31)
        obtain ⟨v47, e47⟩ : ∃ z, M 598 79 = z := ⟨_, rfl⟩
        have b47 : 0 ≤ v47 ∧ v47 ≤ 255 := by rw [← e47]; exact hI_M 598 79 (by decide)
        have e48 : M28 598 79 = v47 := ((w28_2 79 (by decide) (by decide)).trans e47)
        refine jr.pick [0, 1] rfl rfl ?_
        exact ih (nM - 1) (by omega) M28 (k + 1) hI_M28 hH_M28 hS_M28  (fun a i f598 f659 f660 f661 f662 f663 f664 f665 f666 f667 f668 f669 f656 f657 f658 => ((w28_1 a i f598).trans (hF_M a i f598 f659 f660 f661 f662 f663 f664 f665 f666 f667 f668 f669 f656 f657 f658))) (fun i g73 g74 g75 g76 g77 g78 g79 g80 g81 g89 g90 g96 g100 g102 g107 g88 g101 => ((w28_2 i g80 g81).trans (hG_M i g73 g74 g75 g76 g77 g78 g79 g80 g81 g89 g90 g96 g100 g102 g107 g88 g101))) (by omega) hX hA hB (by rw [e38, e39] <;> omega) (by rw [e40, e42] <;> omega) (by rw [e44] <;> omega) (by rw [e45] <;> omega) (by rw [e46, e48] <;> omega) (by omega) (by rw [e46] <;> omega) (by omega)
theorem r_chain {A : Nat → Option (Nat × (Nat → Int32))} {Q : Option Value → jm → Prop} {dd : Int} {M : jm} (hI_M : RI M) (hH_M : RH M) (hS_M : RF M) (p0 : XS M 0 0 dd 1 (-1)) (p1 : AK M) (p2 : LB M) (p3 : (M 598 80 = 0 ∧ M 598 96 ≤ M 598 89 ∧ M 598 89 ≤ 300 ∧ M 598 107 = 0)) (p4 : M 598 73 ≤ M 598 72) (p5 : (M 598 74 = 3 → M 598 79 ≠ 10 ∧ M 598 79 ≠ 11)) (p6 : M 598 74 = 1) (q : ∀ (M' : jm), RI M' → RH M' → RF M' → (BT M' ∨ (DS M' 1 ∧ M' 598 107 = 0 ∧ TK M' < TK M ∧ 1 ≤ M' 598 88 ∧ 1 ≤ M' 598 90 ∧ M' 659 (M' 598 90 - 1) = 3)) → TK M' ≤ TK M → M' 598 73 ≤ M' 598 72 → (M' 598 80 ≠ 0 ∨ TK M' < TK M) → (∀ (a : Nat) (i : Int), a ≠ 598 → a ≠ 659 → a ≠ 660 → a ≠ 661 → a ≠ 662 → a ≠ 663 → a ≠ 664 → a ≠ 665 → a ≠ 666 → a ≠ 667 → a ≠ 668 → a ≠ 669 → a ≠ 656 → a ≠ 657 → a ≠ 658 → M' a i = M a i) → (∀ (i : Int), i ≠ 73 → i ≠ 74 → i ≠ 75 → i ≠ 76 → i ≠ 77 → i ≠ 78 → i ≠ 79 → i ≠ 80 → i ≠ 81 → i ≠ 89 → i ≠ 90 → i ≠ 96 → i ≠ 100 → i ≠ 102 → i ≠ 107 → i ≠ 88 → i ≠ 101 → M' 598 i = M 598 i) → Q none M') : jc A 9 369 [.ref (598)] M Q := by
  have hX := p0
  have hA := p1
  have hB := p2
  have dpx := XS.dep p0
  have sl := XS.sgle p0
  have kb := XS.kz p0
  have bM_107 : (0 : Int) ≤ M 598 107 ∧ M 598 107 ≤ 16 := hI_M 598 107 (by decide)
  have bM_73 : (0 : Int) ≤ M 598 73 ∧ M 598 73 ≤ 1600 := hI_M 598 73 (by decide)
  have bM_88 : (0 : Int) ≤ M 598 88 ∧ M 598 88 ≤ 16 := hI_M 598 88 (by decide)
  have bM_100 : (0 : Int) ≤ M 598 100 ∧ M 598 100 ≤ 13 := hI_M 598 100 (by decide)
  refine jc_of (m := xm_369) rfl (Nat.le_of_ble_eq_true rfl) rfl ?_
  refine jr.aload_n rfl rfl ?_
  obtain ⟨v1, e1⟩ : ∃ z, M 598 88 = z := ⟨_, rfl⟩
  have b1 : 0 ≤ v1 ∧ v1 ≤ 16 := by rw [← e1]; exact hI_M 598 88 (by decide)
  refine jr.getf (i := 88) (x := v1) (v := .int (Int32.ofInt (v1))) rfl rfl (by decide) rfl (by decide) rfl rfl e1 rfl ?_
  refine jr.bipush rfl (by decide) ?_
  refine jr.icmp_ne rfl rfl (by omega) (by omega) (fun h6 => ?_) (fun h6 => ?_)
  · refine jr.aload_n rfl rfl ?_
    obtain ⟨v3, e3⟩ : ∃ z, M 598 73 = z := ⟨_, rfl⟩
    have b3 : 0 ≤ v3 ∧ v3 ≤ 1600 := by rw [← e3]; exact hI_M 598 73 (by decide)
    obtain ⟨v4, e4⟩ : ∃ z, M 598 72 = z := ⟨_, rfl⟩
    have b4 : 0 ≤ v4 ∧ v4 ≤ 1600 := by rw [← e4]; exact hI_M 598 72 (by decide)
    obtain ⟨v6, e6⟩ : ∃ z, M 598 74 = z := ⟨_, rfl⟩
    have b6 : 0 ≤ v6 ∧ v6 ≤ 4 := by rw [← e6]; exact hI_M 598 74 (by decide)
    obtain ⟨v8, e8⟩ : ∃ z, M 598 89 = z := ⟨_, rfl⟩
    have b8 : 0 ≤ v8 ∧ v8 ≤ 301 := by rw [← e8]; exact hI_M 598 89 (by decide)
    obtain ⟨v10, e10⟩ : ∃ z, M 598 100 = z := ⟨_, rfl⟩
    have b10 : 0 ≤ v10 ∧ v10 ≤ 13 := by rw [← e10]; exact hI_M 598 100 (by decide)
    refine jr_v rfl rfl (Or.inl rfl) rfl rfl (by decide) rfl ⟨rfl, Nat.le_of_ble_eq_true rfl, Nat.le_of_ble_eq_true rfl⟩ rfl (jc.deep (r_next hI_M hH_M hS_M   (by rw [e3, e4]; omega) (fun M2 hI_M2 hH_M2 hS_M2  w2_0 w2_1 w2_2 w2_3 w2_4 w2_5 w2_6 => ?_)) (by decide))
    have y5 : M 598 73 = v3 := e3
    have y7 : M 598 74 = v6 := e6
    have y9 : M 598 89 = v8 := e8
    have y11 : M 598 100 = v10 := e10
    have x2_89 := w2_6 89 (by decide) (by decide) (by decide) (by decide) (by decide) (by decide) (by decide)
    have x2_100 := w2_6 100 (by decide) (by decide) (by decide) (by decide) (by decide) (by decide) (by decide)
    have hX := XS.fr2 hX w2_5 (w2_6 88 (by decide) (by decide) (by decide) (by decide) (by decide) (by decide) (by decide)) (w2_6 90 (by decide) (by decide) (by decide) (by decide) (by decide) (by decide) (by decide)) (w2_6 101 (by decide) (by decide) (by decide) (by decide) (by decide) (by decide) (by decide)) (w2_6 107 (by decide) (by decide) (by decide) (by decide) (by decide) (by decide) (by decide)) (k' := 0) (d' := dd) (z' := 0) (by omega) (by omega) (by omega) (by omega)
    have hA := AK.cp hA (CP.f (CP.rfl _) (fun i => w2_5 659 i (by decide)) (w2_6 90 (by decide) (by decide) (by decide) (by decide) (by decide) (by decide) (by decide))) (fun i => w2_5 663 i (by decide)) (w2_6 96 (by decide) (by decide) (by decide) (by decide) (by decide) (by decide) (by decide))
    have hB := LB.fr hB (fun i => w2_5 659 i (by decide)) (w2_6 90 (by decide) (by decide) (by decide) (by decide) (by decide) (by decide) (by decide))
    refine jr.aload_n rfl rfl ?_
    refine jr_v rfl rfl (Or.inl rfl) rfl rfl (by decide) rfl ⟨rfl, Nat.le_of_ble_eq_true rfl, Nat.le_of_ble_eq_true rfl⟩ rfl (jc.deep (c_isName hI_M2  (fun t24_0 => ?_) (fun f24_0 => ?_)) (by decide))
    · refine jr.if_ne rfl rfl (by omega) (fun _ => ?_) (fun h => absurd (by decide) h)
      refine jr.iconst rfl ?_
      refine jr.istore_n rfl (by decide) rfl ?_
      obtain ⟨v12, e12⟩ : ∃ z, M 598 96 = z := ⟨_, rfl⟩
      have b12 : 0 ≤ v12 ∧ v12 ≤ 300 := by rw [← e12]; exact hI_M 598 96 (by decide)
      have e13 : M2 598 96 = v12 := ((w2_6 96 (by decide) (by decide) (by decide) (by decide) (by decide) (by decide) (by decide)).trans e12)
      have e14 : M2 598 89 = v8 := ((w2_6 89 (by decide) (by decide) (by decide) (by decide) (by decide) (by decide) (by decide)).trans e8)
      obtain ⟨v15, e15⟩ : ∃ z, M2 598 73 = z := ⟨_, rfl⟩
      have b15 : 0 ≤ v15 ∧ v15 ≤ 1600 := by rw [← e15]; exact hI_M2 598 73 (by decide)
      have e16 : M2 598 72 = v4 := ((w2_6 72 (by decide) (by decide) (by decide) (by decide) (by decide) (by decide) (by decide)).trans e4)
      obtain ⟨v17, e17⟩ : ∃ z, M 598 107 = z := ⟨_, rfl⟩
      have b17 : 0 ≤ v17 ∧ v17 ≤ 16 := by rw [← e17]; exact hI_M 598 107 (by decide)
      have e18 : M2 598 107 = v17 := ((w2_6 107 (by decide) (by decide) (by decide) (by decide) (by decide) (by decide) (by decide)).trans e17)
      have e19 : M2 598 88 = v1 := ((w2_6 88 (by decide) (by decide) (by decide) (by decide) (by decide) (by decide) (by decide)).trans e1)
      obtain ⟨v20, e20⟩ : ∃ z, M2 598 74 = z := ⟨_, rfl⟩
      have b20 : 0 ≤ v20 ∧ v20 ≤ 4 := by rw [← e20]; exact hI_M2 598 74 (by decide)
      obtain ⟨v21, e21⟩ : ∃ z, M2 598 79 = z := ⟨_, rfl⟩
      have b21 : 0 ≤ v21 ∧ v21 ≤ 255 := by rw [← e21]; exact hI_M2 598 79 (by decide)
      refine jr.pick [0, 1] rfl rfl ?_
      exact r_chain_L37 q 16 M2 0 hI_M2 hH_M2 hS_M2  (fun a i f598 f659 f660 f661 f662 f663 f664 f665 f666 f667 f668 f669 f656 f657 f658 => ((w2_5 a i f598).trans rfl)) (fun i g73 g74 g75 g76 g77 g78 g79 g80 g81 g89 g90 g96 g100 g102 g107 g88 g101 => ((w2_6 i g73 g74 g75 g76 g77 g78 g79).trans rfl)) (by omega) hX hA hB (by rw [e13, e14] <;> omega) (by rw [e15, e16] <;> omega) (by rw [e18] <;> omega) (by rw [e19] <;> omega) (by rw [e20, e21] <;> omega) (by omega) (by rw [e20] <;> omega) (by omega)
    · refine jr.if_ne rfl rfl (by omega) (fun h => absurd h (by decide)) (fun _ => ?_)
      refine jr.aload_n rfl rfl ?_
      refine jr_v rfl rfl (Or.inl rfl) rfl rfl (by decide) rfl ⟨rfl, Nat.le_of_ble_eq_true rfl, Nat.le_of_ble_eq_true rfl⟩ rfl (jc.deep (r_wrongToken hI_M2 hH_M2 hS_M2    (fun M22 hI_M22 hH_M22 hS_M22  w22_0 w22_1 w22_2 => ?_)) (by decide))
      have tk22 : TK M22 = TK M2 := TK.fr (w22_2 73 (by decide) (by decide)) (w22_2 74 (by decide) (by decide))
      have e23 : M2 598 72 = v4 := ((w2_6 72 (by decide) (by decide) (by decide) (by decide) (by decide) (by decide) (by decide)).trans e4)
      have e24 : M22 598 72 = v4 := ((w22_2 72 (by decide) (by decide)).trans e23)
      have y25 : M22 598 72 = v4 := e24
      obtain ⟨v26, e26⟩ : ∃ z, M2 598 73 = z := ⟨_, rfl⟩
      have b26 : 0 ≤ v26 ∧ v26 ≤ 1600 := by rw [← e26]; exact hI_M2 598 73 (by decide)
      have e27 : M22 598 73 = v26 := ((w22_2 73 (by decide) (by decide)).trans e26)
      have y28 : M22 598 73 = v26 := e27
      obtain ⟨v29, e29⟩ : ∃ z, M22 598 80 = z := ⟨_, rfl⟩
      have b29 : 0 ≤ v29 ∧ v29 ≤ 7 := by rw [← e29]; exact hI_M22 598 80 (by decide)
      have y30 : M22 598 80 = v29 := e29
      obtain ⟨v31, e31⟩ : ∃ z, M 598 90 = z := ⟨_, rfl⟩
      have b31 : 0 ≤ v31 ∧ v31 ≤ 2200 := by rw [← e31]; exact hI_M 598 90 (by decide)
      have e32 : M2 598 90 = v31 := ((w2_6 90 (by decide) (by decide) (by decide) (by decide) (by decide) (by decide) (by decide)).trans e31)
      have e33 : M22 598 90 = v31 := ((w22_2 90 (by decide) (by decide)).trans e32)
      have y34 : M22 598 90 = v31 := e33
      exact jr.vreturn rfl rfl (q _ hI_M22 hH_M22 hS_M22  (Or.inl ⟨by omega, by omega⟩) (by omega) (by omega) (by omega) (fun a i f598 f659 f660 f661 f662 f663 f664 f665 f666 f667 f668 f669 f656 f657 f658 => ((w22_1 a i f598).trans ((w2_5 a i f598).trans rfl))) (fun i g73 g74 g75 g76 g77 g78 g79 g80 g81 g89 g90 g96 g100 g102 g107 g88 g101 => ((w22_2 i g80 g81).trans ((w2_6 i g73 g74 g75 g76 g77 g78 g79).trans rfl))))
  · refine jr.aload_n rfl rfl ?_
    refine jr.iconst rfl ?_
    refine jr.aload_n rfl rfl ?_
    obtain ⟨v35, e35⟩ : ∃ z, M 598 75 = z := ⟨_, rfl⟩
    have b35 : 0 ≤ v35 ∧ v35 ≤ 1600 := by rw [← e35]; exact hI_M 598 75 (by decide)
    refine jr.getf (i := 75) (x := v35) (v := .int (Int32.ofInt (v35))) rfl rfl (by decide) rfl (by decide) rfl rfl e35 rfl ?_
    refine jr_v rfl rfl (Or.inl rfl) rfl rfl (by decide) rfl ⟨rfl, Nat.le_of_ble_eq_true rfl, Nat.le_of_ble_eq_true rfl⟩ rfl (jc.deep (r_fails hI_M hH_M hS_M  (by omega) (by omega)  (fun M36 hI_M36 hH_M36 hS_M36  w36_0 w36_1 w36_2 => ?_)) (by decide))
    have tk36 : TK M36 = TK M := TK.fr (w36_2 73 (by decide) (by decide)) (w36_2 74 (by decide) (by decide))
    obtain ⟨v37, e37⟩ : ∃ z, M 598 72 = z := ⟨_, rfl⟩
    have b37 : 0 ≤ v37 ∧ v37 ≤ 1600 := by rw [← e37]; exact hI_M 598 72 (by decide)
    have e38 : M36 598 72 = v37 := ((w36_2 72 (by decide) (by decide)).trans e37)
    have y39 : M36 598 72 = v37 := e38
    obtain ⟨v40, e40⟩ : ∃ z, M 598 73 = z := ⟨_, rfl⟩
    have b40 : 0 ≤ v40 ∧ v40 ≤ 1600 := by rw [← e40]; exact hI_M 598 73 (by decide)
    have e41 : M36 598 73 = v40 := ((w36_2 73 (by decide) (by decide)).trans e40)
    have y42 : M36 598 73 = v40 := e41
    obtain ⟨v43, e43⟩ : ∃ z, M36 598 80 = z := ⟨_, rfl⟩
    have b43 : 0 ≤ v43 ∧ v43 ≤ 7 := by rw [← e43]; exact hI_M36 598 80 (by decide)
    have y44 : M36 598 80 = v43 := e43
    obtain ⟨v45, e45⟩ : ∃ z, M 598 90 = z := ⟨_, rfl⟩
    have b45 : 0 ≤ v45 ∧ v45 ≤ 2200 := by rw [← e45]; exact hI_M 598 90 (by decide)
    have e46 : M36 598 90 = v45 := ((w36_2 90 (by decide) (by decide)).trans e45)
    have y47 : M36 598 90 = v45 := e46
    exact jr.vreturn rfl rfl (q _ hI_M36 hH_M36 hS_M36  (Or.inl ⟨by omega, by omega⟩) (by omega) (by omega) (by omega) (fun a i f598 f659 f660 f661 f662 f663 f664 f665 f666 f667 f668 f669 f656 f657 f658 => ((w36_1 a i f598).trans rfl)) (fun i g73 g74 g75 g76 g77 g78 g79 g80 g81 g89 g90 g96 g100 g102 g107 g88 g101 => ((w36_2 i g80 g81).trans rfl)))
