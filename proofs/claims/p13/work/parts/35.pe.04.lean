section
theorem r_chain_L37 {A : Nat → Option (Nat × (Nat → Int32))} {Q : Option Value → jm → Prop} {dd : Int} {M0 : jm} (q : ∀ (M' : jm), RI M' → RH M' → RF M' → (BT M' ∨ (DS M' 1 ∧ M' 598 107 = 0 ∧ TK M' < TK M0 ∧ 1 ≤ M' 598 88 ∧ 1 ≤ M' 598 90 ∧ M' 659 (M' 598 90 - 1) = 3)) → TK M' ≤ TK M0 → M' 598 73 ≤ M' 598 72 → (M' 598 80 ≠ 0 ∨ TK M' < TK M0) → (∀ (a : Nat) (i : Int), a ≠ 598 → a ≠ 659 → a ≠ 660 → a ≠ 661 → a ≠ 662 → a ≠ 663 → a ≠ 664 → a ≠ 665 → a ≠ 666 → a ≠ 667 → a ≠ 668 → a ≠ 669 → a ≠ 656 → a ≠ 657 → a ≠ 658 → M' a i = M0 a i) → (∀ (i : Int), i ≠ 73 → i ≠ 74 → i ≠ 75 → i ≠ 76 → i ≠ 77 → i ≠ 78 → i ≠ 79 → i ≠ 80 → i ≠ 81 → i ≠ 89 → i ≠ 90 → i ≠ 96 → i ≠ 100 → i ≠ 102 → i ≠ 107 → i ≠ 88 → i ≠ 101 → M' 598 i = M0 598 i) → Q none M') : ∀ (nM : Nat) (M : jm) (k : Int), RI M → RH M → RF M → (∀ (a : Nat) (i : Int), a ≠ 598 → a ≠ 659 → a ≠ 660 → a ≠ 661 → a ≠ 662 → a ≠ 663 → a ≠ 664 → a ≠ 665 → a ≠ 666 → a ≠ 667 → a ≠ 668 → a ≠ 669 → a ≠ 656 → a ≠ 657 → a ≠ 658 → M a i = M0 a i) → (∀ (i : Int), i ≠ 73 → i ≠ 74 → i ≠ 75 → i ≠ 76 → i ≠ 77 → i ≠ 78 → i ≠ 79 → i ≠ 80 → i ≠ 81 → i ≠ 89 → i ≠ 90 → i ≠ 96 → i ≠ 100 → i ≠ 102 → i ≠ 107 → i ≠ 88 → i ≠ 101 → M 598 i = M0 598 i) → 0 ≤ k ∧ k ≤ 16 → XS M 0 0 dd 0 (-1) → AK M → LB M → M 598 96 ≤ M 598 89 ∧ M 598 89 ≤ 300 → M 598 73 ≤ M 598 72 → M 598 107 = 0 → 0 ≤ M 598 88 ∧ M 598 88 ≤ 15 → (M 598 74 = 3 → M 598 79 ≠ 10 ∧ M 598 79 ≠ 11) → TK M < TK M0 → M 598 74 = 1 → 16 - k ≤ nM → jr A 8 xm_369 37 [(1, .int (Int32.ofInt (k))), (0, .ref (598))] [] M Q := by
  intro nM
  induction nM using Nat.strongRecOn with
  | ind nM ih =>
    intro M k hI_M hH_M hS_M hF_M hG_M h_k hy0 hy1 hy2 hy3 hy4 hy5 hy6 hy7 hy8 hy9 hm
    have hX := hy0
    have hA := hy1
    have hB := hy2
    have dpx := XS.dep hy0
    have sl := XS.sgle hy0
    have kb := XS.kz hy0
    have bM_107 : (0 : Int) ≤ M 598 107 ∧ M 598 107 ≤ 16 := hI_M 598 107 (by decide)
    have bM_73 : (0 : Int) ≤ M 598 73 ∧ M 598 73 ≤ 1600 := hI_M 598 73 (by decide)
    have bM_88 : (0 : Int) ≤ M 598 88 ∧ M 598 88 ≤ 16 := hI_M 598 88 (by decide)
    have bM_100 : (0 : Int) ≤ M 598 100 ∧ M 598 100 ≤ 13 := hI_M 598 100 (by decide)
    refine jr.iload_n rfl rfl ?_
    refine jr.aload_n rfl rfl ?_
    obtain ⟨v1, e1⟩ : ∃ z, M 598 88 = z := ⟨_, rfl⟩
    have b1 : 0 ≤ v1 ∧ v1 ≤ 16 := by rw [← e1]; exact hI_M 598 88 (by decide)
    refine jr.getf (i := 88) (x := v1) (v := .int (Int32.ofInt (v1))) rfl rfl (by decide) rfl (by decide) rfl rfl e1 rfl ?_
    refine jr.icmp_ge rfl rfl (by omega) (by omega) (fun h42 => ?_) (fun h42 => ?_)
    · refine jr.aload_n rfl rfl ?_
      refine jr_v rfl rfl (Or.inl rfl) rfl rfl (by decide) rfl ⟨rfl, Nat.le_of_ble_eq_true rfl, Nat.le_of_ble_eq_true rfl⟩ rfl (jc.deep (c_good hI_M  (fun t75_0 => ?_) (fun f75_0 => ?_)) (by decide))
      · refine jr.if_ne rfl rfl (by omega) (fun _ => ?_) (fun h => absurd (by decide) h)
        obtain ⟨v2, e2⟩ : ∃ z, M 598 96 = z := ⟨_, rfl⟩
        have b2 : 0 ≤ v2 ∧ v2 ≤ 300 := by rw [← e2]; exact hI_M 598 96 (by decide)
        obtain ⟨v3, e3⟩ : ∃ z, M 598 89 = z := ⟨_, rfl⟩
        have b3 : 0 ≤ v3 ∧ v3 ≤ 301 := by rw [← e3]; exact hI_M 598 89 (by decide)
        obtain ⟨v4, e4⟩ : ∃ z, M 598 73 = z := ⟨_, rfl⟩
        have b4 : 0 ≤ v4 ∧ v4 ≤ 1600 := by rw [← e4]; exact hI_M 598 73 (by decide)
        obtain ⟨v5, e5⟩ : ∃ z, M 598 72 = z := ⟨_, rfl⟩
        have b5 : 0 ≤ v5 ∧ v5 ≤ 1600 := by rw [← e5]; exact hI_M 598 72 (by decide)
        obtain ⟨v6, e6⟩ : ∃ z, M 598 107 = z := ⟨_, rfl⟩
        have b6 : 0 ≤ v6 ∧ v6 ≤ 16 := by rw [← e6]; exact hI_M 598 107 (by decide)
        obtain ⟨v7, e7⟩ : ∃ z, M 598 74 = z := ⟨_, rfl⟩
        have b7 : 0 ≤ v7 ∧ v7 ≤ 4 := by rw [← e7]; exact hI_M 598 74 (by decide)
        obtain ⟨v8, e8⟩ : ∃ z, M 598 79 = z := ⟨_, rfl⟩
        have b8 : 0 ≤ v8 ∧ v8 ≤ 255 := by rw [← e8]; exact hI_M 598 79 (by decide)
        obtain ⟨v9, e9⟩ : ∃ z, M 598 80 = z := ⟨_, rfl⟩
        have b9 : 0 ≤ v9 ∧ v9 ≤ 7 := by rw [← e9]; exact hI_M 598 80 (by decide)
        refine jr.pick (ls := [_]) [1] rfl rfl ?_
        exact r_chain_L82 q M  hI_M hH_M hS_M  (fun a i f598 f659 f660 f661 f662 f663 f664 f665 f666 f667 f668 f669 f656 f657 f658 => (hF_M a i f598 f659 f660 f661 f662 f663 f664 f665 f666 f667 f668 f669 f656 f657 f658)) (fun i g73 g74 g75 g76 g77 g78 g79 g80 g81 g89 g90 g96 g100 g102 g107 g88 g101 => (hG_M i g73 g74 g75 g76 g77 g78 g79 g80 g81 g89 g90 g96 g100 g102 g107 g88 g101))  hX hA hB (by rw [e2, e3] <;> omega) (by rw [e4, e5] <;> omega) (by rw [e6] <;> omega) (by rw [e1] <;> omega) (by rw [e7, e8] <;> omega) (by omega) (by rw [e7] <;> omega) (by rw [e9] <;> omega)
      · refine jr.if_ne rfl rfl (by omega) (fun h => absurd h (by decide)) (fun _ => ?_)
        obtain ⟨v10, e10⟩ : ∃ z, M 598 72 = z := ⟨_, rfl⟩
        have b10 : 0 ≤ v10 ∧ v10 ≤ 1600 := by rw [← e10]; exact hI_M 598 72 (by decide)
        have y11 : M 598 72 = v10 := e10
        obtain ⟨v12, e12⟩ : ∃ z, M 598 73 = z := ⟨_, rfl⟩
        have b12 : 0 ≤ v12 ∧ v12 ≤ 1600 := by rw [← e12]; exact hI_M 598 73 (by decide)
        have y13 : M 598 73 = v12 := e12
        obtain ⟨v14, e14⟩ : ∃ z, M 598 80 = z := ⟨_, rfl⟩
        have b14 : 0 ≤ v14 ∧ v14 ≤ 7 := by rw [← e14]; exact hI_M 598 80 (by decide)
        have y15 : M 598 80 = v14 := e14
        obtain ⟨v16, e16⟩ : ∃ z, M 598 90 = z := ⟨_, rfl⟩
        have b16 : 0 ≤ v16 ∧ v16 ≤ 2200 := by rw [← e16]; exact hI_M 598 90 (by decide)
        have y17 : M 598 90 = v16 := e16
        exact jr.vreturn rfl rfl (q _ hI_M hH_M hS_M  (Or.inl ⟨by omega, by omega⟩) (by omega) (by omega) (by omega) (fun a i f598 f659 f660 f661 f662 f663 f664 f665 f666 f667 f668 f669 f656 f657 f658 => (hF_M a i f598 f659 f660 f661 f662 f663 f664 f665 f666 f667 f668 f669 f656 f657 f658)) (fun i g73 g74 g75 g76 g77 g78 g79 g80 g81 g89 g90 g96 g100 g102 g107 g88 g101 => (hG_M i g73 g74 g75 g76 g77 g78 g79 g80 g81 g89 g90 g96 g100 g102 g107 g88 g101)))
    · refine jr.aload_n rfl rfl ?_
      refine jr.getf (i := 91) (v := .ref 656) rfl rfl (by decide) rfl (by decide) rfl rfl rfl rfl ?_
      refine jr.iload_n rfl rfl ?_
      obtain ⟨v18, e18⟩ : ∃ z, M 656 k = z := ⟨_, rfl⟩
      have b18 : (-9223372036854775808) ≤ v18 ∧ v18 ≤ 9223372036854775807 := by rw [← e18]; exact (by have q := hI_M 656 k (by decide); rw [xri_row rfl rfl] at q; exact q)
      refine jr.lald (i := k) (x := v18) rfl (by decide) rfl (by decide) (by omega) (by omega) e18 ?_
      refine jr.aload_n rfl rfl ?_
      obtain ⟨v19, e19⟩ : ∃ z, M 598 77 = z := ⟨_, rfl⟩
      have b19 : (-9223372036854775808) ≤ v19 ∧ v19 ≤ 9223372036854775807 := by rw [← e19]; exact hI_M 598 77 (by decide)
      refine jr.getf (i := 77) (x := v19) (v := .long (Int64.ofInt (v19))) rfl rfl (by decide) rfl (by decide) rfl rfl e19 rfl ?_
      refine jr.lcmp_ne rfl rfl rfl (by omega) (by omega) (fun h55 => ?_) (fun h55 => ?_)
      · refine jr.iinc (ls' := [_, _]) rfl rfl (by decide) rfl ?_
        refine jr.goto rfl rfl ?_
        obtain ⟨v20, e20⟩ : ∃ z, M 598 96 = z := ⟨_, rfl⟩
        have b20 : 0 ≤ v20 ∧ v20 ≤ 300 := by rw [← e20]; exact hI_M 598 96 (by decide)
        obtain ⟨v21, e21⟩ : ∃ z, M 598 89 = z := ⟨_, rfl⟩
        have b21 : 0 ≤ v21 ∧ v21 ≤ 301 := by rw [← e21]; exact hI_M 598 89 (by decide)
        obtain ⟨v22, e22⟩ : ∃ z, M 598 73 = z := ⟨_, rfl⟩
        have b22 : 0 ≤ v22 ∧ v22 ≤ 1600 := by rw [← e22]; exact hI_M 598 73 (by decide)
        obtain ⟨v23, e23⟩ : ∃ z, M 598 72 = z := ⟨_, rfl⟩
        have b23 : 0 ≤ v23 ∧ v23 ≤ 1600 := by rw [← e23]; exact hI_M 598 72 (by decide)
        obtain ⟨v24, e24⟩ : ∃ z, M 598 107 = z := ⟨_, rfl⟩
        have b24 : 0 ≤ v24 ∧ v24 ≤ 16 := by rw [← e24]; exact hI_M 598 107 (by decide)
        obtain ⟨v25, e25⟩ : ∃ z, M 598 74 = z := ⟨_, rfl⟩
        have b25 : 0 ≤ v25 ∧ v25 ≤ 4 := by rw [← e25]; exact hI_M 598 74 (by decide)
        obtain ⟨v26, e26⟩ : ∃ z, M 598 79 = z := ⟨_, rfl⟩
        have b26 : 0 ≤ v26 ∧ v26 ≤ 255 := by rw [← e26]; exact hI_M 598 79 (by decide)
        refine jr.pick (ls := [_, _]) [0, 1] rfl rfl ?_
        exact ih (nM - 1) (by omega) M (k + 1) hI_M hH_M hS_M  (fun a i f598 f659 f660 f661 f662 f663 f664 f665 f666 f667 f668 f669 f656 f657 f658 => (hF_M a i f598 f659 f660 f661 f662 f663 f664 f665 f666 f667 f668 f669 f656 f657 f658)) (fun i g73 g74 g75 g76 g77 g78 g79 g80 g81 g89 g90 g96 g100 g102 g107 g88 g101 => (hG_M i g73 g74 g75 g76 g77 g78 g79 g80 g81 g89 g90 g96 g100 g102 g107 g88 g101)) (by omega) hX hA hB (by rw [e20, e21] <;> omega) (by rw [e22, e23] <;> omega) (by rw [e24] <;> omega) (by rw [e1] <;> omega) (by rw [e25, e26] <;> omega) (by omega) (by rw [e25] <;> omega) (by omega)
      · refine jr.aload_n rfl rfl ?_
        refine jr.iconst rfl ?_
        refine jr.aload_n rfl rfl ?_
        obtain ⟨v27, e27⟩ : ∃ z, M 598 75 = z := ⟨_, rfl⟩
        have b27 : 0 ≤ v27 ∧ v27 ≤ 1600 := by rw [← e27]; exact hI_M 598 75 (by decide)
        refine jr.getf (i := 75) (x := v27) (v := .int (Int32.ofInt (v27))) rfl rfl (by decide) rfl (by decide) rfl rfl e27 rfl ?_
        obtain ⟨v29, e29⟩ : ∃ z, M 598 73 = z := ⟨_, rfl⟩
        have b29 : 0 ≤ v29 ∧ v29 ≤ 1600 := by rw [← e29]; exact hI_M 598 73 (by decide)
        obtain ⟨v31, e31⟩ : ∃ z, M 598 74 = z := ⟨_, rfl⟩
        have b31 : 0 ≤ v31 ∧ v31 ≤ 4 := by rw [← e31]; exact hI_M 598 74 (by decide)
        obtain ⟨v33, e33⟩ : ∃ z, M 598 89 = z := ⟨_, rfl⟩
        have b33 : 0 ≤ v33 ∧ v33 ≤ 301 := by rw [← e33]; exact hI_M 598 89 (by decide)
        obtain ⟨v35, e35⟩ : ∃ z, M 598 100 = z := ⟨_, rfl⟩
        have b35 : 0 ≤ v35 ∧ v35 ≤ 13 := by rw [← e35]; exact hI_M 598 100 (by decide)
        refine jr_v rfl rfl (Or.inl rfl) rfl rfl (by decide) rfl ⟨rfl, Nat.le_of_ble_eq_true rfl, Nat.le_of_ble_eq_true rfl⟩ rfl (jc.deep (r_fails hI_M hH_M hS_M  (by omega) (by omega)  (fun M28 hI_M28 hH_M28 hS_M28  w28_0 w28_1 w28_2 => ?_)) (by decide))
        have tk28 : TK M28 = TK M := TK.fr (w28_2 73 (by decide) (by decide)) (w28_2 74 (by decide) (by decide))
        have y30 : M 598 73 = v29 := e29
        have y32 : M 598 74 = v31 := e31
        have y34 : M 598 89 = v33 := e33
        have y36 : M 598 100 = v35 := e35
        have x28_73 := w28_2 73 (by decide) (by decide)
        have x28_74 := w28_2 74 (by decide) (by decide)
        have x28_89 := w28_2 89 (by decide) (by decide)
        have x28_100 := w28_2 100 (by decide) (by decide)
        have hX := XS.fr2 hX w28_1 (w28_2 88 (by decide) (by decide)) (w28_2 90 (by decide) (by decide)) (w28_2 101 (by decide) (by decide)) (w28_2 107 (by decide) (by decide)) (k' := 0) (d' := dd) (z' := 0) (by omega) (by omega) (by omega) (by omega)
        have hA := AK.cp hA (CP.f (CP.rfl _) (fun i => w28_1 659 i (by decide)) (w28_2 90 (by decide) (by decide))) (fun i => w28_1 663 i (by decide)) (w28_2 96 (by decide) (by decide))
        have hB := LB.fr hB (fun i => w28_1 659 i (by decide)) (w28_2 90 (by decide) (by decide))
        refine jr.iinc (ls' := [_, _]) rfl rfl (by decide) rfl ?_
        refine jr.goto rfl rfl ?_
        obtain ⟨v37, e37⟩ : ∃ z, M 598 96 = z := ⟨_, rfl⟩
        have b37 : 0 ≤ v37 ∧ v37 ≤ 300 := by rw [← e37]; exact hI_M 598 96 (by decide)
        have e38 : M28 598 96 = v37 := ((w28_2 96 (by decide) (by decide)).trans e37)
        have e39 : M28 598 89 = v33 := ((w28_2 89 (by decide) (by decide)).trans e33)
        have e40 : M28 598 73 = v29 := ((w28_2 73 (by decide) (by decide)).trans e29)
        obtain ⟨v41, e41⟩ : ∃ z, M 598 72 = z := ⟨_, rfl⟩
        have b41 : 0 ≤ v41 ∧ v41 ≤ 1600 := by rw [← e41]; exact hI_M 598 72 (by decide)
        have e42 : M28 598 72 = v41 := ((w28_2 72 (by decide) (by decide)).trans e41)
        obtain ⟨v43, e43⟩ : ∃ z, M 598 107 = z := ⟨_, rfl⟩
        have b43 : 0 ≤ v43 ∧ v43 ≤ 16 := by rw [← e43]; exact hI_M 598 107 (by decide)
        have e44 : M28 598 107 = v43 := ((w28_2 107 (by decide) (by decide)).trans e43)
        have e45 : M28 598 88 = v1 := ((w28_2 88 (by decide) (by decide)).trans e1)
        have e46 : M28 598 74 = v31 := ((w28_2 74 (by decide) (by decide)).trans e31)
        obtain ⟨v47, e47⟩ : ∃ z, M 598 79 = z := ⟨_, rfl⟩
        have b47 : 0 ≤ v47 ∧ v47 ≤ 255 := by rw [← e47]; exact hI_M 598 79 (by decide)
        have e48 : M28 598 79 = v47 := ((w28_2 79 (by decide) (by decide)).trans e47)
        refine jr.pick (ls := [_, _]) [0, 1] rfl rfl ?_
        exact ih (nM - 1) (by omega) M28 (k + 1) hI_M28 hH_M28 hS_M28  (fun a i f598 f659 f660 f661 f662 f663 f664 f665 f666 f667 f668 f669 f656 f657 f658 => ((w28_1 a i f598).trans (hF_M a i f598 f659 f660 f661 f662 f663 f664 f665 f666 f667 f668 f669 f656 f657 f658))) (fun i g73 g74 g75 g76 g77 g78 g79 g80 g81 g89 g90 g96 g100 g102 g107 g88 g101 => ((w28_2 i g80 g81).trans (hG_M i g73 g74 g75 g76 g77 g78 g79 g80 g81 g89 g90 g96 g100 g102 g107 g88 g101))) (by omega) hX hA hB (by rw [e38, e39] <;> omega) (by rw [e40, e42] <;> omega) (by rw [e44] <;> omega) (by rw [e45] <;> omega) (by rw [e46, e48] <;> omega) (by omega) (by rw [e46] <;> omega) (by omega)
end
