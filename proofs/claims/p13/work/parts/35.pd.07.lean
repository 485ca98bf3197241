theorem r_deed_L63 {A : Nat → Option (Nat × (Nat → Int32))} {Q : Option Value → jm → Prop} {M0 : jm} (q : ∀ (M' : jm), RI M' → RH M' → RF M' → (BT M' ∨ (DS M' 0 ∧ TK M' < TK M0)) → TK M' ≤ TK M0 → M' 598 73 ≤ M' 598 72 → (M' 598 80 ≠ 0 ∨ TK M' < TK M0) → M0 598 107 ≤ M' 598 107 → (∀ (a : Nat) (i : Int), a ≠ 598 → a ≠ 659 → a ≠ 660 → a ≠ 661 → a ≠ 662 → a ≠ 663 → a ≠ 664 → a ≠ 665 → a ≠ 666 → a ≠ 667 → a ≠ 668 → a ≠ 669 → M' a i = M0 a i) → (∀ (i : Int), i ≠ 73 → i ≠ 74 → i ≠ 75 → i ≠ 76 → i ≠ 77 → i ≠ 78 → i ≠ 79 → i ≠ 80 → i ≠ 81 → i ≠ 89 → i ≠ 90 → i ≠ 96 → i ≠ 100 → i ≠ 102 → i ≠ 107 → M' 598 i = M0 598 i) → Q none M') : ∀ (M : jm) (w : Int), RI M → RH M → RF M → (∀ (a : Nat) (i : Int), a ≠ 598 → a ≠ 659 → a ≠ 660 → a ≠ 661 → a ≠ 662 → a ≠ 663 → a ≠ 664 → a ≠ 665 → a ≠ 666 → a ≠ 667 → a ≠ 668 → a ≠ 669 → M a i = M0 a i) → (∀ (i : Int), i ≠ 73 → i ≠ 74 → i ≠ 75 → i ≠ 76 → i ≠ 77 → i ≠ 78 → i ≠ 79 → i ≠ 80 → i ≠ 81 → i ≠ 89 → i ≠ 90 → i ≠ 96 → i ≠ 100 → i ≠ 102 → i ≠ 107 → M 598 i = M0 598 i) → 2 ≤ w ∧ w ≤ 18 → XS M 0 (2 + 2 + 2) 0 0 (-1) → AK M → M 598 80 = 0 → M 598 96 < M 598 89 ∧ M 598 89 ≤ 300 → M 598 100 ≤ 12 → M 598 73 ≤ M 598 72 → 1 ≤ M 598 107 ∧ M 598 107 = M0 598 107 → 1 ≤ M 598 88 → (M 598 74 = 3 → M 598 79 ≠ 10 ∧ M 598 79 ≠ 11) → TK M = TK M0 → M 598 74 = 1 → (w = 2 ∨ 4 ≤ w) → jr A 7 xm_367 63 [(1, .int (Int32.ofInt (w))), (0, .ref (598))] [] M Q := by
    intro M w hI_M hH_M hS_M hF_M hG_M h_w hy0 hy1 hy2 hy3 hy4 hy5 hy6 hy7 hy8 hy9 hy10 hy11
    have hX := hy0
    have hA := hy1
    have dpx := XS.dep hy0
    have sl := XS.sgle hy0
    have bM_107 : (0 : Int) ≤ M 598 107 ∧ M 598 107 ≤ 16 := hI_M 598 107 (by decide)
    have bM_73 : (0 : Int) ≤ M 598 73 ∧ M 598 73 ≤ 1600 := hI_M 598 73 (by decide)
    have bM_88 : (0 : Int) ≤ M 598 88 ∧ M 598 88 ≤ 16 := hI_M 598 88 (by decide)
    have bM_100 : (0 : Int) ≤ M 598 100 ∧ M 598 100 ≤ 13 := hI_M 598 100 (by decide)
    have nn0 := (ndo_le (20 + w)).1
    refine jr.aload_n rfl rfl ?_
    refine jr.iconst rfl ?_
    refine jr.lconst (x := 0) rfl (by decide) ?_
    obtain ⟨v1, e1⟩ : ∃ z, M 598 90 = z := ⟨_, rfl⟩
    have b1 : 0 ≤ v1 ∧ v1 ≤ 2200 := by rw [← e1]; exact hI_M 598 90 (by decide)
    obtain ⟨v2, e2⟩ : ∃ z, M 598 100 = z := ⟨_, rfl⟩
    have b2 : 0 ≤ v2 ∧ v2 ≤ 13 := by rw [← e2]; exact hI_M 598 100 (by decide)
    obtain ⟨v4, e4⟩ : ∃ z, M 598 107 = z := ⟨_, rfl⟩
    have b4 : 0 ≤ v4 ∧ v4 ≤ 16 := by rw [← e4]; exact hI_M 598 107 (by decide)
    refine jr_v rfl rfl (Or.inl rfl) rfl rfl (by decide) rfl ⟨rfl, Nat.le_of_ble_eq_true rfl, Nat.le_of_ble_eq_true rfl⟩ rfl (jc.deep (r_emit e1 (by omega) (by omega) (by omega) ?_) (by decide))
    have y3 : M 598 100 = v2 := e2
    have y5 : M 598 107 = v4 := e4
    have hX := XS.step hX e1 (by omega) (by omega)
    have hA := AK.emit (op := 0) (a := 0) hA e1
    refine jr.aload_n rfl rfl ?_
    obtain ⟨v7, e7⟩ : ∃ z, M 598 73 = z := ⟨_, rfl⟩
    have b7 : 0 ≤ v7 ∧ v7 ≤ 1600 := by rw [← e7]; exact hI_M 598 73 (by decide)
    obtain ⟨v8, e8⟩ : ∃ z, M 598 72 = z := ⟨_, rfl⟩
    have b8 : 0 ≤ v8 ∧ v8 ≤ 1600 := by rw [← e8]; exact hI_M 598 72 (by decide)
    obtain ⟨v10, e10⟩ : ∃ z, M 598 74 = z := ⟨_, rfl⟩
    have b10 : 0 ≤ v10 ∧ v10 ≤ 4 := by rw [← e10]; exact hI_M 598 74 (by decide)
    obtain ⟨v12, e12⟩ : ∃ z, M 598 89 = z := ⟨_, rfl⟩
    have b12 : 0 ≤ v12 ∧ v12 ≤ 301 := by rw [← e12]; exact hI_M 598 89 (by decide)
    refine jr_v rfl rfl (Or.inl rfl) rfl rfl (by decide) rfl ⟨rfl, Nat.le_of_ble_eq_true rfl, Nat.le_of_ble_eq_true rfl⟩ rfl (jc.deep (r_next (RI.u (RI.u (RI.u hI_M (a := 659) (i := v1) (by rw [xri_row rfl rfl]; show (0 : Int) ≤ _ ∧ _ ≤ (1000 : Int); omega)) (a := 660) (i := v1) (by rw [xri_row rfl rfl]; show (-9223372036854775808 : Int) ≤ _ ∧ _ ≤ (9223372036854775807 : Int); omega)) (a := 598) (i := 90) (show (0 : Int) ≤ _ ∧ _ ≤ (2200 : Int) from by omega)) (RH.o (RH.o (RH.o hH_M (by decide) (by decide) (by decide)) (by decide) (by decide) (by decide)) (by decide) (by decide) (by decide)) (RF.o (RF.o (RF.o hS_M (by decide) (by decide)) (by decide) (by decide)) (by decide) (by decide))   (by rw [((ju_i _ _ (by decide)).trans ((ju_c _ _ (by decide)).trans ((ju_c _ _ (by decide)).trans e7))), ((ju_i _ _ (by decide)).trans ((ju_c _ _ (by decide)).trans ((ju_c _ _ (by decide)).trans e8)))]; omega) (fun M6 hI_M6 hH_M6 hS_M6  w6_0 w6_1 w6_2 w6_3 w6_4 w6_5 w6_6 => ?_)) (by decide))
    have y15 : (ju (ju (ju M 659 v1 0) 660 v1 0) 598 90 (v1 + 1)) 598 73 = v7 := ((ju_i _ _ (by decide)).trans ((ju_c _ _ (by decide)).trans ((ju_c _ _ (by decide)).trans e7)))
    have y16 : (ju (ju (ju M 659 v1 0) 660 v1 0) 598 90 (v1 + 1)) 598 74 = v10 := ((ju_i _ _ (by decide)).trans ((ju_c _ _ (by decide)).trans ((ju_c _ _ (by decide)).trans e10)))
    have tb6 : TK (ju (ju (ju M 659 v1 0) 660 v1 0) 598 90 (v1 + 1)) = TK M := ((TK.o (Or.inr ⟨by decide, by decide⟩)).trans ((TK.o (Or.inl (by decide))).trans ((TK.o (Or.inl (by decide))).trans rfl)))
    have y9 : (ju (ju (ju M 659 v1 0) 660 v1 0) 598 90 (v1 + 1)) 598 73 = v7 := ((ju_i _ _ (by decide)).trans ((ju_c _ _ (by decide)).trans ((ju_c _ _ (by decide)).trans e7)))
    have y11 : (ju (ju (ju M 659 v1 0) 660 v1 0) 598 90 (v1 + 1)) 598 74 = v10 := ((ju_i _ _ (by decide)).trans ((ju_c _ _ (by decide)).trans ((ju_c _ _ (by decide)).trans e10)))
    have y13 : (ju (ju (ju M 659 v1 0) 660 v1 0) 598 90 (v1 + 1)) 598 89 = v12 := ((ju_i _ _ (by decide)).trans ((ju_c _ _ (by decide)).trans ((ju_c _ _ (by decide)).trans e12)))
    have y14 : (ju (ju (ju M 659 v1 0) 660 v1 0) 598 90 (v1 + 1)) 598 100 = v2 := ((ju_i _ _ (by decide)).trans ((ju_c _ _ (by decide)).trans ((ju_c _ _ (by decide)).trans e2)))
    have x6_89 := w6_6 89 (by decide) (by decide) (by decide) (by decide) (by decide) (by decide) (by decide)
    have x6_100 := w6_6 100 (by decide) (by decide) (by decide) (by decide) (by decide) (by decide) (by decide)
    have hX := XS.fr2 hX w6_5 (w6_6 88 (by decide) (by decide) (by decide) (by decide) (by decide) (by decide) (by decide)) (w6_6 90 (by decide) (by decide) (by decide) (by decide) (by decide) (by decide) (by decide)) (w6_6 101 (by decide) (by decide) (by decide) (by decide) (by decide) (by decide) (by decide)) (w6_6 107 (by decide) (by decide) (by decide) (by decide) (by decide) (by decide) (by decide)) (k' := 0 + 2 + 2) (d' := 0) (z' := 0) (by omega) (by omega) (by omega) (by omega)
    have hA := AK.cp hA (CP.f (CP.rfl _) (fun i => w6_5 659 i (by decide)) (w6_6 90 (by decide) (by decide) (by decide) (by decide) (by decide) (by decide) (by decide))) (fun i => w6_5 663 i (by decide)) (w6_6 96 (by decide) (by decide) (by decide) (by decide) (by decide) (by decide) (by decide))
    refine jr.iload_n rfl rfl ?_
    refine jr.iconst rfl ?_
    refine jr.icmp_ne rfl rfl (by omega) (by omega) (fun h75 => ?_) (fun h75 => ?_)
    · have sx75 : (3 : Int) ≤ w := by omega
      clear h75
      refine jr.iload_n rfl rfl ?_
      refine jr.bipush rfl (by decide) ?_
      refine jr.icmp_eq rfl rfl (by omega) (by omega) (fun h103 => ?_) (fun h103 => ?_)
      · obtain ⟨v17, e17⟩ : ∃ z, M 598 80 = z := ⟨_, rfl⟩
        have b17 : 0 ≤ v17 ∧ v17 ≤ 7 := by rw [← e17]; exact hI_M 598 80 (by decide)
        have e18 : M6 598 80 = v17 := ((w6_6 80 (by decide) (by decide) (by decide) (by decide) (by decide) (by decide) (by decide)).trans ((ju_i _ _ (by decide)).trans ((ju_c _ _ (by decide)).trans ((ju_c _ _ (by decide)).trans e17))))
        obtain ⟨v19, e19⟩ : ∃ z, M 598 96 = z := ⟨_, rfl⟩
        have b19 : 0 ≤ v19 ∧ v19 ≤ 300 := by rw [← e19]; exact hI_M 598 96 (by decide)
        have e20 : M6 598 96 = v19 := ((w6_6 96 (by decide) (by decide) (by decide) (by decide) (by decide) (by decide) (by decide)).trans ((ju_i _ _ (by decide)).trans ((ju_c _ _ (by decide)).trans ((ju_c _ _ (by decide)).trans e19))))
        have e21 : M6 598 89 = v12 := ((w6_6 89 (by decide) (by decide) (by decide) (by decide) (by decide) (by decide) (by decide)).trans ((ju_i _ _ (by decide)).trans ((ju_c _ _ (by decide)).trans ((ju_c _ _ (by decide)).trans e12))))
        have e22 : M6 598 100 = v2 := ((w6_6 100 (by decide) (by decide) (by decide) (by decide) (by decide) (by decide) (by decide)).trans ((ju_i _ _ (by decide)).trans ((ju_c _ _ (by decide)).trans ((ju_c _ _ (by decide)).trans e2))))
        obtain ⟨v23, e23⟩ : ∃ z, M6 598 73 = z := ⟨_, rfl⟩
        have b23 : 0 ≤ v23 ∧ v23 ≤ 1600 := by rw [← e23]; exact hI_M6 598 73 (by decide)
        have e24 : M6 598 72 = v8 := ((w6_6 72 (by decide) (by decide) (by decide) (by decide) (by decide) (by decide) (by decide)).trans ((ju_i _ _ (by decide)).trans ((ju_c _ _ (by decide)).trans ((ju_c _ _ (by decide)).trans e8))))
        have e25 : M6 598 107 = v4 := ((w6_6 107 (by decide) (by decide) (by decide) (by decide) (by decide) (by decide) (by decide)).trans ((ju_i _ _ (by decide)).trans ((ju_c _ _ (by decide)).trans ((ju_c _ _ (by decide)).trans e4))))
        obtain ⟨v26, e26⟩ : ∃ z, M 598 88 = z := ⟨_, rfl⟩
        have b26 : 0 ≤ v26 ∧ v26 ≤ 16 := by rw [← e26]; exact hI_M 598 88 (by decide)
        have e27 : M6 598 88 = v26 := ((w6_6 88 (by decide) (by decide) (by decide) (by decide) (by decide) (by decide) (by decide)).trans ((ju_i _ _ (by decide)).trans ((ju_c _ _ (by decide)).trans ((ju_c _ _ (by decide)).trans e26))))
        obtain ⟨v28, e28⟩ : ∃ z, M6 598 74 = z := ⟨_, rfl⟩
        have b28 : 0 ≤ v28 ∧ v28 ≤ 4 := by rw [← e28]; exact hI_M6 598 74 (by decide)
        obtain ⟨v29, e29⟩ : ∃ z, M6 598 79 = z := ⟨_, rfl⟩
        have b29 : 0 ≤ v29 ∧ v29 ≤ 255 := by rw [← e29]; exact hI_M6 598 79 (by decide)
        have e30 : M6 598 90 = v1 + 1 := ((w6_6 90 (by decide) (by decide) (by decide) (by decide) (by decide) (by decide) (by decide)).trans (ju_same _ _ _ _))
        have e31 : M6 659 v1 = 0 := ((w6_5 659 v1 (by decide)).trans ((ju_c _ _ (by decide)).trans ((ju_c _ _ (by decide)).trans (ju_same _ _ _ _))))
        refine jr.pick (ls := [_, _]) [0, 1] rfl rfl ?_
        exact r_deed_L112 q M6 w hI_M6 hH_M6 hS_M6  (fun a i f598 f659 f660 f661 f662 f663 f664 f665 f666 f667 f668 f669 => ((w6_5 a i f598).trans ((ju_c _ _ f598).trans ((ju_c _ _ f660).trans ((ju_c _ _ f659).trans (hF_M a i f598 f659 f660 f661 f662 f663 f664 f665 f666 f667 f668 f669)))))) (fun i g73 g74 g75 g76 g77 g78 g79 g80 g81 g89 g90 g96 g100 g102 g107 => ((w6_6 i g73 g74 g75 g76 g77 g78 g79).trans ((ju_i _ _ g90).trans ((ju_c _ _ (by decide)).trans ((ju_c _ _ (by decide)).trans (hG_M i g73 g74 g75 g76 g77 g78 g79 g80 g81 g89 g90 g96 g100 g102 g107)))))) (by omega) hX hA (by rw [e18] <;> omega) (by rw [e20, e21] <;> omega) (by rw [e22] <;> omega) (by rw [e23, e24] <;> omega) (by rw [e25] <;> omega) (by rw [e27] <;> omega) (by rw [e28, e29] <;> omega) (by omega) (by rw [e20] <;> omega) (by rw [e30]; exact ⟨by omega, by rw [show v1 + 1 - 1 = v1 by omega]; exact e31⟩)
      · refine jr.iload_n rfl rfl ?_
        refine jr.bipush rfl (by decide) ?_
        refine jr.icmp_ne rfl rfl (by omega) (by omega) (fun h109 => ?_) (fun h109 => ?_)
        · refine jr.iload_n rfl rfl ?_
          refine jr.bipush rfl (by decide) ?_
          refine jr.icmp_le rfl rfl (by omega) (by omega) (fun h183 => ?_) (fun h183 => ?_)
          · have e32 : M6 598 72 = v8 := ((w6_6 72 (by decide) (by decide) (by decide) (by decide) (by decide) (by decide) (by decide)).trans ((ju_i _ _ (by decide)).trans ((ju_c _ _ (by decide)).trans ((ju_c _ _ (by decide)).trans e8))))
            have y33 : M6 598 72 = v8 := e32
            obtain ⟨v34, e34⟩ : ∃ z, M6 598 73 = z := ⟨_, rfl⟩
            have b34 : 0 ≤ v34 ∧ v34 ≤ 1600 := by rw [← e34]; exact hI_M6 598 73 (by decide)
            have y35 : M6 598 73 = v34 := e34
            obtain ⟨v36, e36⟩ : ∃ z, M6 598 74 = z := ⟨_, rfl⟩
            have b36 : 0 ≤ v36 ∧ v36 ≤ 4 := by rw [← e36]; exact hI_M6 598 74 (by decide)
            have y37 : M6 598 74 = v36 := e36
            obtain ⟨v38, e38⟩ : ∃ z, M6 598 79 = z := ⟨_, rfl⟩
            have b38 : 0 ≤ v38 ∧ v38 ≤ 255 := by rw [← e38]; exact hI_M6 598 79 (by decide)
            have y39 : M6 598 79 = v38 := e38
            obtain ⟨v40, e40⟩ : ∃ z, M 598 80 = z := ⟨_, rfl⟩
            have b40 : 0 ≤ v40 ∧ v40 ≤ 7 := by rw [← e40]; exact hI_M 598 80 (by decide)
            have e41 : M6 598 80 = v40 := ((w6_6 80 (by decide) (by decide) (by decide) (by decide) (by decide) (by decide) (by decide)).trans ((ju_i _ _ (by decide)).trans ((ju_c _ _ (by decide)).trans ((ju_c _ _ (by decide)).trans e40))))
            have y42 : M6 598 80 = v40 := e41
            have e43 : M6 598 89 = v12 := ((w6_6 89 (by decide) (by decide) (by decide) (by decide) (by decide) (by decide) (by decide)).trans ((ju_i _ _ (by decide)).trans ((ju_c _ _ (by decide)).trans ((ju_c _ _ (by decide)).trans e12))))
            have y44 : M6 598 89 = v12 := e43
            have e45 : M6 598 90 = v1 + 1 := ((w6_6 90 (by decide) (by decide) (by decide) (by decide) (by decide) (by decide) (by decide)).trans (ju_same _ _ _ _))
            have y46 : M6 598 90 = v1 + 1 := e45
            obtain ⟨v47, e47⟩ : ∃ z, M 598 96 = z := ⟨_, rfl⟩
            have b47 : 0 ≤ v47 ∧ v47 ≤ 300 := by rw [← e47]; exact hI_M 598 96 (by decide)
            have e48 : M6 598 96 = v47 := ((w6_6 96 (by decide) (by decide) (by decide) (by decide) (by decide) (by decide) (by decide)).trans ((ju_i _ _ (by decide)).trans ((ju_c _ _ (by decide)).trans ((ju_c _ _ (by decide)).trans e47))))
            have y49 : M6 598 96 = v47 := e48
            have e50 : M6 598 100 = v2 := ((w6_6 100 (by decide) (by decide) (by decide) (by decide) (by decide) (by decide) (by decide)).trans ((ju_i _ _ (by decide)).trans ((ju_c _ _ (by decide)).trans ((ju_c _ _ (by decide)).trans e2))))
            have y51 : M6 598 100 = v2 := e50
            have e52 : M6 598 107 = v4 := ((w6_6 107 (by decide) (by decide) (by decide) (by decide) (by decide) (by decide) (by decide)).trans ((ju_i _ _ (by decide)).trans ((ju_c _ _ (by decide)).trans ((ju_c _ _ (by decide)).trans e4))))
            have y53 : M6 598 107 = v4 := e52
            obtain ⟨v54, e54⟩ : ∃ z, M 598 88 = z := ⟨_, rfl⟩
            have b54 : 0 ≤ v54 ∧ v54 ≤ 16 := by rw [← e54]; exact hI_M 598 88 (by decide)
            have e55 : M6 598 88 = v54 := ((w6_6 88 (by decide) (by decide) (by decide) (by decide) (by decide) (by decide) (by decide)).trans ((ju_i _ _ (by decide)).trans ((ju_c _ _ (by decide)).trans ((ju_c _ _ (by decide)).trans e54))))
            refine jr.pick (ls := [_, _]) [0, 1] rfl rfl ?_
            exact r_deed_L230 q M6 w hI_M6 hH_M6 hS_M6  (fun a i f598 f659 f660 f661 f662 f663 f664 f665 f666 f667 f668 f669 => ((w6_5 a i f598).trans ((ju_c _ _ f598).trans ((ju_c _ _ f660).trans ((ju_c _ _ f659).trans (hF_M a i f598 f659 f660 f661 f662 f663 f664 f665 f666 f667 f668 f669)))))) (fun i g73 g74 g75 g76 g77 g78 g79 g80 g81 g89 g90 g96 g100 g102 g107 => ((w6_6 i g73 g74 g75 g76 g77 g78 g79).trans ((ju_i _ _ g90).trans ((ju_c _ _ (by decide)).trans ((ju_c _ _ (by decide)).trans (hG_M i g73 g74 g75 g76 g77 g78 g79 g80 g81 g89 g90 g96 g100 g102 g107)))))) (by omega) (Or.inr ⟨⟨by omega, by have dl := dl_deed (w := w) (by omega); rw [dl.2.2.2 (by omega)]; exact hX, by omega, by omega, by omega, by omega⟩, by omega, Or.inl ⟨by omega, by omega, hA⟩⟩) (by rw [e34, e32] <;> omega) (by omega) (by omega) (by rw [e52] <;> omega) (by rw [e55] <;> omega) (by rw [e52] <;> omega)
          · refine jr.iconst rfl ?_
            refine jr.istore_n (ls' := [_, _, _]) rfl (by decide) rfl ?_
            have e56 : M6 598 72 = v8 := ((w6_6 72 (by decide) (by decide) (by decide) (by decide) (by decide) (by decide) (by decide)).trans ((ju_i _ _ (by decide)).trans ((ju_c _ _ (by decide)).trans ((ju_c _ _ (by decide)).trans e8))))
            have y57 : M6 598 72 = v8 := e56
            obtain ⟨v58, e58⟩ : ∃ z, M6 598 73 = z := ⟨_, rfl⟩
            have b58 : 0 ≤ v58 ∧ v58 ≤ 1600 := by rw [← e58]; exact hI_M6 598 73 (by decide)
            have y59 : M6 598 73 = v58 := e58
            obtain ⟨v60, e60⟩ : ∃ z, M6 598 74 = z := ⟨_, rfl⟩
            have b60 : 0 ≤ v60 ∧ v60 ≤ 4 := by rw [← e60]; exact hI_M6 598 74 (by decide)
            have y61 : M6 598 74 = v60 := e60
            obtain ⟨v62, e62⟩ : ∃ z, M6 598 79 = z := ⟨_, rfl⟩
            have b62 : 0 ≤ v62 ∧ v62 ≤ 255 := by rw [← e62]; exact hI_M6 598 79 (by decide)
            have y63 : M6 598 79 = v62 := e62
            obtain ⟨v64, e64⟩ : ∃ z, M 598 80 = z := ⟨_, rfl⟩
            have b64 : 0 ≤ v64 ∧ v64 ≤ 7 := by rw [← e64]; exact hI_M 598 80 (by decide)
            have e65 : M6 598 80 = v64 := ((w6_6 80 (by decide) (by decide) (by decide) (by decide) (by decide) (by decide) (by decide)).trans ((ju_i _ _ (by decide)).trans ((ju_c _ _ (by decide)).trans ((ju_c _ _ (by decide)).trans e64))))
            have y66 : M6 598 80 = v64 := e65
            have e67 : M6 598 89 = v12 := ((w6_6 89 (by decide) (by decide) (by decide) (by decide) (by decide) (by decide) (by decide)).trans ((ju_i _ _ (by decide)).trans ((ju_c _ _ (by decide)).trans ((ju_c _ _ (by decide)).trans e12))))
            have y68 : M6 598 89 = v12 := e67
            have e69 : M6 598 90 = v1 + 1 := ((w6_6 90 (by decide) (by decide) (by decide) (by decide) (by decide) (by decide) (by decide)).trans (ju_same _ _ _ _))
            have y70 : M6 598 90 = v1 + 1 := e69
            obtain ⟨v71, e71⟩ : ∃ z, M 598 96 = z := ⟨_, rfl⟩
            have b71 : 0 ≤ v71 ∧ v71 ≤ 300 := by rw [← e71]; exact hI_M 598 96 (by decide)
            have e72 : M6 598 96 = v71 := ((w6_6 96 (by decide) (by decide) (by decide) (by decide) (by decide) (by decide) (by decide)).trans ((ju_i _ _ (by decide)).trans ((ju_c _ _ (by decide)).trans ((ju_c _ _ (by decide)).trans e71))))
            have y73 : M6 598 96 = v71 := e72
            have e74 : M6 598 100 = v2 := ((w6_6 100 (by decide) (by decide) (by decide) (by decide) (by decide) (by decide) (by decide)).trans ((ju_i _ _ (by decide)).trans ((ju_c _ _ (by decide)).trans ((ju_c _ _ (by decide)).trans e2))))
            have y75 : M6 598 100 = v2 := e74
            have e76 : M6 598 107 = v4 := ((w6_6 107 (by decide) (by decide) (by decide) (by decide) (by decide) (by decide) (by decide)).trans ((ju_i _ _ (by decide)).trans ((ju_c _ _ (by decide)).trans ((ju_c _ _ (by decide)).trans e4))))
            have y77 : M6 598 107 = v4 := e76
            obtain ⟨v78, e78⟩ : ∃ z, M 598 88 = z := ⟨_, rfl⟩
            have b78 : 0 ≤ v78 ∧ v78 ≤ 16 := by rw [← e78]; exact hI_M 598 88 (by decide)
            have e79 : M6 598 88 = v78 := ((w6_6 88 (by decide) (by decide) (by decide) (by decide) (by decide) (by decide) (by decide)).trans ((ju_i _ _ (by decide)).trans ((ju_c _ _ (by decide)).trans ((ju_c _ _ (by decide)).trans e78))))
            refine jr.pick (ls := [_, _, _]) [0, 1, 2] rfl rfl ?_
            exact r_deed_L188 q 5 M6 0 w hI_M6 hH_M6 hS_M6  (fun a i f598 f659 f660 f661 f662 f663 f664 f665 f666 f667 f668 f669 => ((w6_5 a i f598).trans ((ju_c _ _ f598).trans ((ju_c _ _ f660).trans ((ju_c _ _ f659).trans (hF_M a i f598 f659 f660 f661 f662 f663 f664 f665 f666 f667 f668 f669)))))) (fun i g73 g74 g75 g76 g77 g78 g79 g80 g81 g89 g90 g96 g100 g102 g107 => ((w6_6 i g73 g74 g75 g76 g77 g78 g79).trans ((ju_i _ _ g90).trans ((ju_c _ _ (by decide)).trans ((ju_c _ _ (by decide)).trans (hG_M i g73 g74 g75 g76 g77 g78 g79 g80 g81 g89 g90 g96 g100 g102 g107)))))) (by omega) (by omega) (Or.inr ⟨⟨by omega, hX, by omega, by omega, by omega, by omega⟩, hA, by omega⟩) (by rw [e58, e56] <;> omega) (by omega) (by omega) (by rw [e76] <;> omega) (by rw [e79] <;> omega) (by omega) (by rw [e76] <;> omega) (by omega)
        · obtain ⟨v80, e80⟩ : ∃ z, M 598 80 = z := ⟨_, rfl⟩
          have b80 : 0 ≤ v80 ∧ v80 ≤ 7 := by rw [← e80]; exact hI_M 598 80 (by decide)
          have e81 : M6 598 80 = v80 := ((w6_6 80 (by decide) (by decide) (by decide) (by decide) (by decide) (by decide) (by decide)).trans ((ju_i _ _ (by decide)).trans ((ju_c _ _ (by decide)).trans ((ju_c _ _ (by decide)).trans e80))))
          obtain ⟨v82, e82⟩ : ∃ z, M 598 96 = z := ⟨_, rfl⟩
          have b82 : 0 ≤ v82 ∧ v82 ≤ 300 := by rw [← e82]; exact hI_M 598 96 (by decide)
          have e83 : M6 598 96 = v82 := ((w6_6 96 (by decide) (by decide) (by decide) (by decide) (by decide) (by decide) (by decide)).trans ((ju_i _ _ (by decide)).trans ((ju_c _ _ (by decide)).trans ((ju_c _ _ (by decide)).trans e82))))
          have e84 : M6 598 89 = v12 := ((w6_6 89 (by decide) (by decide) (by decide) (by decide) (by decide) (by decide) (by decide)).trans ((ju_i _ _ (by decide)).trans ((ju_c _ _ (by decide)).trans ((ju_c _ _ (by decide)).trans e12))))
          have e85 : M6 598 100 = v2 := ((w6_6 100 (by decide) (by decide) (by decide) (by decide) (by decide) (by decide) (by decide)).trans ((ju_i _ _ (by decide)).trans ((ju_c _ _ (by decide)).trans ((ju_c _ _ (by decide)).trans e2))))
          obtain ⟨v86, e86⟩ : ∃ z, M6 598 73 = z := ⟨_, rfl⟩
          have b86 : 0 ≤ v86 ∧ v86 ≤ 1600 := by rw [← e86]; exact hI_M6 598 73 (by decide)
          have e87 : M6 598 72 = v8 := ((w6_6 72 (by decide) (by decide) (by decide) (by decide) (by decide) (by decide) (by decide)).trans ((ju_i _ _ (by decide)).trans ((ju_c _ _ (by decide)).trans ((ju_c _ _ (by decide)).trans e8))))
          have e88 : M6 598 107 = v4 := ((w6_6 107 (by decide) (by decide) (by decide) (by decide) (by decide) (by decide) (by decide)).trans ((ju_i _ _ (by decide)).trans ((ju_c _ _ (by decide)).trans ((ju_c _ _ (by decide)).trans e4))))
          obtain ⟨v89, e89⟩ : ∃ z, M 598 88 = z := ⟨_, rfl⟩
          have b89 : 0 ≤ v89 ∧ v89 ≤ 16 := by rw [← e89]; exact hI_M 598 88 (by decide)
          have e90 : M6 598 88 = v89 := ((w6_6 88 (by decide) (by decide) (by decide) (by decide) (by decide) (by decide) (by decide)).trans ((ju_i _ _ (by decide)).trans ((ju_c _ _ (by decide)).trans ((ju_c _ _ (by decide)).trans e89))))
          obtain ⟨v91, e91⟩ : ∃ z, M6 598 74 = z := ⟨_, rfl⟩
          have b91 : 0 ≤ v91 ∧ v91 ≤ 4 := by rw [← e91]; exact hI_M6 598 74 (by decide)
          obtain ⟨v92, e92⟩ : ∃ z, M6 598 79 = z := ⟨_, rfl⟩
          have b92 : 0 ≤ v92 ∧ v92 ≤ 255 := by rw [← e92]; exact hI_M6 598 79 (by decide)
          have e93 : M6 598 90 = v1 + 1 := ((w6_6 90 (by decide) (by decide) (by decide) (by decide) (by decide) (by decide) (by decide)).trans (ju_same _ _ _ _))
          have e94 : M6 659 v1 = 0 := ((w6_5 659 v1 (by decide)).trans ((ju_c _ _ (by decide)).trans ((ju_c _ _ (by decide)).trans (ju_same _ _ _ _))))
          refine jr.pick (ls := [_, _]) [0, 1] rfl rfl ?_
          exact r_deed_L112 q M6 w hI_M6 hH_M6 hS_M6  (fun a i f598 f659 f660 f661 f662 f663 f664 f665 f666 f667 f668 f669 => ((w6_5 a i f598).trans ((ju_c _ _ f598).trans ((ju_c _ _ f660).trans ((ju_c _ _ f659).trans (hF_M a i f598 f659 f660 f661 f662 f663 f664 f665 f666 f667 f668 f669)))))) (fun i g73 g74 g75 g76 g77 g78 g79 g80 g81 g89 g90 g96 g100 g102 g107 => ((w6_6 i g73 g74 g75 g76 g77 g78 g79).trans ((ju_i _ _ g90).trans ((ju_c _ _ (by decide)).trans ((ju_c _ _ (by decide)).trans (hG_M i g73 g74 g75 g76 g77 g78 g79 g80 g81 g89 g90 g96 g100 g102 g107)))))) (by omega) hX hA (by rw [e81] <;> omega) (by rw [e83, e84] <;> omega) (by rw [e85] <;> omega) (by rw [e86, e87] <;> omega) (by rw [e88] <;> omega) (by rw [e90] <;> omega) (by rw [e91, e92] <;> omega) (by omega) (by rw [e83] <;> omega) (by rw [e93]; exact ⟨by omega, by rw [show v1 + 1 - 1 = v1 by omega]; exact e94⟩)
    · obtain ⟨v95, e95⟩ : ∃ z, M 598 80 = z := ⟨_, rfl⟩
      have b95 : 0 ≤ v95 ∧ v95 ≤ 7 := by rw [← e95]; exact hI_M 598 80 (by decide)
      have e96 : M6 598 80 = v95 := ((w6_6 80 (by decide) (by decide) (by decide) (by decide) (by decide) (by decide) (by decide)).trans ((ju_i _ _ (by decide)).trans ((ju_c _ _ (by decide)).trans ((ju_c _ _ (by decide)).trans e95))))
      obtain ⟨v97, e97⟩ : ∃ z, M 598 96 = z := ⟨_, rfl⟩
      have b97 : 0 ≤ v97 ∧ v97 ≤ 300 := by rw [← e97]; exact hI_M 598 96 (by decide)
      have e98 : M6 598 96 = v97 := ((w6_6 96 (by decide) (by decide) (by decide) (by decide) (by decide) (by decide) (by decide)).trans ((ju_i _ _ (by decide)).trans ((ju_c _ _ (by decide)).trans ((ju_c _ _ (by decide)).trans e97))))
      have e99 : M6 598 89 = v12 := ((w6_6 89 (by decide) (by decide) (by decide) (by decide) (by decide) (by decide) (by decide)).trans ((ju_i _ _ (by decide)).trans ((ju_c _ _ (by decide)).trans ((ju_c _ _ (by decide)).trans e12))))
      have e100 : M6 598 100 = v2 := ((w6_6 100 (by decide) (by decide) (by decide) (by decide) (by decide) (by decide) (by decide)).trans ((ju_i _ _ (by decide)).trans ((ju_c _ _ (by decide)).trans ((ju_c _ _ (by decide)).trans e2))))
      obtain ⟨v101, e101⟩ : ∃ z, M6 598 73 = z := ⟨_, rfl⟩
      have b101 : 0 ≤ v101 ∧ v101 ≤ 1600 := by rw [← e101]; exact hI_M6 598 73 (by decide)
      have e102 : M6 598 72 = v8 := ((w6_6 72 (by decide) (by decide) (by decide) (by decide) (by decide) (by decide) (by decide)).trans ((ju_i _ _ (by decide)).trans ((ju_c _ _ (by decide)).trans ((ju_c _ _ (by decide)).trans e8))))
      have e103 : M6 598 107 = v4 := ((w6_6 107 (by decide) (by decide) (by decide) (by decide) (by decide) (by decide) (by decide)).trans ((ju_i _ _ (by decide)).trans ((ju_c _ _ (by decide)).trans ((ju_c _ _ (by decide)).trans e4))))
      obtain ⟨v104, e104⟩ : ∃ z, M 598 88 = z := ⟨_, rfl⟩
      have b104 : 0 ≤ v104 ∧ v104 ≤ 16 := by rw [← e104]; exact hI_M 598 88 (by decide)
      have e105 : M6 598 88 = v104 := ((w6_6 88 (by decide) (by decide) (by decide) (by decide) (by decide) (by decide) (by decide)).trans ((ju_i _ _ (by decide)).trans ((ju_c _ _ (by decide)).trans ((ju_c _ _ (by decide)).trans e104))))
      obtain ⟨v106, e106⟩ : ∃ z, M6 598 74 = z := ⟨_, rfl⟩
      have b106 : 0 ≤ v106 ∧ v106 ≤ 4 := by rw [← e106]; exact hI_M6 598 74 (by decide)
      obtain ⟨v107, e107⟩ : ∃ z, M6 598 79 = z := ⟨_, rfl⟩
      have b107 : 0 ≤ v107 ∧ v107 ≤ 255 := by rw [← e107]; exact hI_M6 598 79 (by decide)
      refine jr.pick (ls := [_]) [1] rfl rfl ?_
      exact r_deed_L78 q M6  hI_M6 hH_M6 hS_M6  (fun a i f598 f659 f660 f661 f662 f663 f664 f665 f666 f667 f668 f669 => ((w6_5 a i f598).trans ((ju_c _ _ f598).trans ((ju_c _ _ f660).trans ((ju_c _ _ f659).trans (hF_M a i f598 f659 f660 f661 f662 f663 f664 f665 f666 f667 f668 f669)))))) (fun i g73 g74 g75 g76 g77 g78 g79 g80 g81 g89 g90 g96 g100 g102 g107 => ((w6_6 i g73 g74 g75 g76 g77 g78 g79).trans ((ju_i _ _ g90).trans ((ju_c _ _ (by decide)).trans ((ju_c _ _ (by decide)).trans (hG_M i g73 g74 g75 g76 g77 g78 g79 g80 g81 g89 g90 g96 g100 g102 g107))))))  hX hA (by rw [e96] <;> omega) (by rw [e98, e99] <;> omega) (by rw [e100] <;> omega) (by rw [e101, e102] <;> omega) (by rw [e103] <;> omega) (by rw [e105] <;> omega) (by rw [e106, e107] <;> omega) (by omega)
