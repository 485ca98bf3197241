theorem r_takeOperand {A : Nat → Option (Nat × (Nat → Int32))} {Q : Option Value → jm → Prop} {b kk : Int} {M : jm} (hI_M : RI M) (hH_M : RH M) (hS_M : RF M) (p0 : GS M b 0 kk) (q : ∀ (r : Int) (M' : jm), RI M' → RH M' → RF M' → 0 ≤ r ∧ r ≤ 1 → (BS M' ∨ (GS M' b r kk ∧ TK M' < TK M)) → TK M' ≤ TK M → M' 598 73 ≤ M' 598 72 → (M' 598 80 ≠ 0 ∨ TK M' < TK M) → CP M M' → M 598 89 ≤ M' 598 89 → (∀ (a : Nat) (i : Int), a ≠ 598 → a ≠ 659 → a ≠ 660 → a ≠ 664 → a ≠ 666 → a ≠ 667 → M' a i = M a i) → (∀ (i : Int), i ≠ 73 → i ≠ 74 → i ≠ 75 → i ≠ 76 → i ≠ 77 → i ≠ 78 → i ≠ 79 → i ≠ 80 → i ≠ 81 → i ≠ 89 → i ≠ 90 → i ≠ 100 → i ≠ 102 → M' 598 i = M 598 i) → Q (some (.int (Int32.ofInt r))) M') : jc A 6 360 [.ref (598)] M Q := by
  obtain ⟨gs1, gs2, gs3, gs4, gs5, gs6⟩ := id p0
  have hE := gs2
  have sl := ES.sgle gs2
  have bb := ES.bb gs2
  have kb := ES.kz gs2
  have b107 : (0 : Int) ≤ M 598 107 ∧ M 598 107 ≤ 16 := hI_M 598 107 (by decide)
  have b73 : (0 : Int) ≤ M 598 73 ∧ M 598 73 ≤ 1600 := hI_M 598 73 (by decide)
  have b88 : (0 : Int) ≤ M 598 88 ∧ M 598 88 ≤ 16 := hI_M 598 88 (by decide)
  have b100 : (0 : Int) ≤ M 598 100 ∧ M 598 100 ≤ 13 := hI_M 598 100 (by decide)
  refine jc_of (m := xm_360) rfl (Nat.le_of_ble_eq_true rfl) rfl ?_
  refine jr.aload_n rfl rfl ?_
  refine jr.bipush rfl (by decide) ?_
  refine jr_v rfl rfl (Or.inl rfl) rfl rfl (by decide) rfl ⟨rfl, Nat.le_of_ble_eq_true rfl, Nat.le_of_ble_eq_true rfl⟩ rfl (jc.deep (c_isSign hI_M (by omega) (fun t3_0 t3_1 => ?_) (fun f3_0 => ?_)) (by decide))
  · refine jr.if_ne rfl rfl (by omega) (fun _ => ?_) (fun h => absurd (by decide) h)
    refine jr.pick (ls := [_]) [0] rfl rfl ?_
    exact r_takeOperand_L18 q M  hI_M hH_M hS_M  (fun a i f598 f659 f660 f664 f666 f667 => rfl) (fun i g73 g74 g75 g76 g77 g78 g79 g80 g81 g89 g90 g100 g102 => rfl)  p0 rfl (CP.rfl _) rfl (by omega)
  · refine jr.if_ne rfl rfl (by omega) (fun h => absurd h (by decide)) (fun _ => ?_)
    refine jr.aload_n rfl rfl ?_
    refine jr.bipush rfl (by decide) ?_
    refine jr_v rfl rfl (Or.inl rfl) rfl rfl (by decide) rfl ⟨rfl, Nat.le_of_ble_eq_true rfl, Nat.le_of_ble_eq_true rfl⟩ rfl (jc.deep (c_isSign hI_M (by omega) (fun t12_0 t12_1 => ?_) (fun f12_0 => ?_)) (by decide))
    · refine jr.if_eq rfl rfl (by omega) (fun h => absurd h (by decide)) (fun _ => ?_)
      refine jr.pick (ls := [_]) [0] rfl rfl ?_
      exact r_takeOperand_L18 q M  hI_M hH_M hS_M  (fun a i f598 f659 f660 f664 f666 f667 => rfl) (fun i g73 g74 g75 g76 g77 g78 g79 g80 g81 g89 g90 g100 g102 => rfl)  p0 rfl (CP.rfl _) rfl (by omega)
    · refine jr.if_eq rfl rfl (by omega) (fun _ => ?_) (fun h => absurd (by decide) h)
      refine jr.aload_n rfl rfl ?_
      refine jr.bipush rfl (by decide) ?_
      refine jr_v rfl rfl (Or.inl rfl) rfl rfl (by decide) rfl ⟨rfl, Nat.le_of_ble_eq_true rfl, Nat.le_of_ble_eq_true rfl⟩ rfl (jc.deep (c_isSign hI_M (by omega) (fun t59_0 t59_1 => ?_) (fun f59_0 => ?_)) (by decide))
      · refine jr.if_eq rfl rfl (by omega) (fun h => absurd h (by decide)) (fun _ => ?_)
        refine jr.pick (ls := [_]) [0] rfl rfl ?_
        exact r_takeOperand_L65 q M  hI_M hH_M hS_M  (fun a i f598 f659 f660 f664 f666 f667 => rfl) (fun i g73 g74 g75 g76 g77 g78 g79 g80 g81 g89 g90 g100 g102 => rfl)  p0 rfl (CP.rfl _) rfl (by omega)
      · refine jr.if_eq rfl rfl (by omega) (fun _ => ?_) (fun h => absurd (by decide) h)
        refine jr.aload_n rfl rfl ?_
        obtain ⟨v1, e1⟩ : ∃ z, M 598 74 = z := ⟨_, rfl⟩
        have b1 : 0 ≤ v1 ∧ v1 ≤ 4 := by rw [← e1]; exact hI_M 598 74 (by decide)
        refine jr.getf (i := 74) (x := v1) (v := .int (Int32.ofInt (v1))) rfl rfl (by decide) rfl (by decide) rfl rfl e1 rfl ?_
        refine jr.iconst rfl ?_
        refine jr.icmp_ne rfl rfl (by omega) (by omega) (fun h83 => ?_) (fun h83 => ?_)
        · refine jr.aload_n rfl rfl ?_
          refine jr.bipush rfl (by decide) ?_
          refine jr_v rfl rfl (Or.inl rfl) rfl rfl (by decide) rfl ⟨rfl, Nat.le_of_ble_eq_true rfl, Nat.le_of_ble_eq_true rfl⟩ rfl (jc.deep (c_isWord hI_M (by omega) (fun t129_0 t129_1 => ?_) (fun f129_0 => ?_)) (by decide))
          · refine jr.if_ne rfl rfl (by omega) (fun _ => ?_) (fun h => absurd (by decide) h)
            refine jr.pick (ls := [_]) [0] rfl rfl ?_
            exact r_takeOperand_L146 q M  hI_M hH_M hS_M  (fun a i f598 f659 f660 f664 f666 f667 => rfl) (fun i g73 g74 g75 g76 g77 g78 g79 g80 g81 g89 g90 g100 g102 => rfl)  p0 rfl (CP.rfl _) rfl (by omega) (by omega)
          · refine jr.if_ne rfl rfl (by omega) (fun h => absurd h (by decide)) (fun _ => ?_)
            refine jr.aload_n rfl rfl ?_
            refine jr.bipush rfl (by decide) ?_
            refine jr.bipush rfl (by decide) ?_
            refine jr_v rfl rfl (Or.inl rfl) rfl rfl (by decide) rfl ⟨rfl, Nat.le_of_ble_eq_true rfl, Nat.le_of_ble_eq_true rfl⟩ rfl (jc.deep (c_isWordIn hI_M (by omega) (by omega) (fun t140_0 t140_1 t140_2 => ?_) (fun f140_0 => ?_)) (by decide))
            · refine jr.if_eq rfl rfl (by omega) (fun h => absurd h (by decide)) (fun _ => ?_)
              refine jr.pick (ls := [_]) [0] rfl rfl ?_
              exact r_takeOperand_L146 q M  hI_M hH_M hS_M  (fun a i f598 f659 f660 f664 f666 f667 => rfl) (fun i g73 g74 g75 g76 g77 g78 g79 g80 g81 g89 g90 g100 g102 => rfl)  p0 rfl (CP.rfl _) rfl (by omega) (by omega)
            · refine jr.if_eq rfl rfl (by omega) (fun _ => ?_) (fun h => absurd (by decide) h)
              refine jr.aload_n rfl rfl ?_
              refine jr.bipush rfl (by decide) ?_
              refine jr_v rfl rfl (Or.inl rfl) rfl rfl (by decide) rfl ⟨rfl, Nat.le_of_ble_eq_true rfl, Nat.le_of_ble_eq_true rfl⟩ rfl (jc.deep (c_isWord hI_M (by omega) (fun t172_0 t172_1 => ?_) (fun f172_0 => ?_)) (by decide))
              · refine jr.if_eq rfl rfl (by omega) (fun h => absurd h (by decide)) (fun _ => ?_)
                refine jr.aload_n rfl rfl ?_
                refine jr_v rfl rfl (Or.inl rfl) rfl rfl (by decide) rfl ⟨rfl, Nat.le_of_ble_eq_true rfl, Nat.le_of_ble_eq_true rfl⟩ rfl (jc.deep (r_hasKind hI_M hH_M hS_M   p0 (by rw [e1]; omega) (fun M2 hI_M2 hH_M2 hS_M2  w2_0 w2_1 w2_2 w2_3 w2_4 w2_5 w2_6 w2_7 => ?_)) (by decide))
                refine jr.iconst rfl ?_
                exact jr.ireturn rfl rfl rfl (q _ _ hI_M2 hH_M2 hS_M2  (by omega) w2_0 w2_1 w2_2 w2_3 (CP.trans (CP.rfl _) w2_4) w2_5 (fun a i f598 f659 f660 f664 f666 f667 => ((w2_6 a i f598 f659 f660).trans rfl)) (fun i g73 g74 g75 g76 g77 g78 g79 g80 g81 g89 g90 g100 g102 => ((w2_7 i g73 g74 g75 g76 g77 g78 g79 g80 g81 g89 g90 g100).trans rfl)))
              · refine jr.if_eq rfl rfl (by omega) (fun _ => ?_) (fun h => absurd (by decide) h)
                refine jr.aload_n rfl rfl ?_
                refine jr.bipush rfl (by decide) ?_
                refine jr.bipush rfl (by decide) ?_
                refine jr_v rfl rfl (Or.inl rfl) rfl rfl (by decide) rfl ⟨rfl, Nat.le_of_ble_eq_true rfl, Nat.le_of_ble_eq_true rfl⟩ rfl (jc.deep (c_isWordIn hI_M (by omega) (by omega) (fun t189_0 t189_1 t189_2 => ?_) (fun f189_0 => ?_)) (by decide))
                · refine jr.if_eq rfl rfl (by omega) (fun h => absurd h (by decide)) (fun _ => ?_)
                  refine jr.pick (ls := [_]) [0] rfl rfl ?_
                  exact r_takeOperand_L195 q M  hI_M hH_M hS_M  (fun a i f598 f659 f660 f664 f666 f667 => rfl) (fun i g73 g74 g75 g76 g77 g78 g79 g80 g81 g89 g90 g100 g102 => rfl)  p0 rfl (CP.rfl _) rfl (by omega) (by omega)
                · refine jr.if_eq rfl rfl (by omega) (fun _ => ?_) (fun h => absurd (by decide) h)
                  refine jr.aload_n rfl rfl ?_
                  refine jr.bipush rfl (by decide) ?_
                  refine jr.bipush rfl (by decide) ?_
                  refine jr_v rfl rfl (Or.inl rfl) rfl rfl (by decide) rfl ⟨rfl, Nat.le_of_ble_eq_true rfl, Nat.le_of_ble_eq_true rfl⟩ rfl (jc.deep (c_isWordIn hI_M (by omega) (by omega) (fun t235_0 t235_1 t235_2 => ?_) (fun f235_0 => ?_)) (by decide))
                  · refine jr.if_eq rfl rfl (by omega) (fun h => absurd h (by decide)) (fun _ => ?_)
                    refine jr.aload_n rfl rfl ?_
                    obtain ⟨v4, e4⟩ : ∃ z, M 598 76 = z := ⟨_, rfl⟩
                    have b4 : (-1) ≤ v4 ∧ v4 ≤ 68 := by rw [← e4]; exact hI_M 598 76 (by decide)
                    refine jr_v rfl rfl (Or.inl rfl) rfl rfl (by decide) rfl ⟨rfl, Nat.le_of_ble_eq_true rfl, Nat.le_of_ble_eq_true rfl⟩ rfl (jc.deep (r_kindAndField hI_M hH_M hS_M   p0 (by rw [e1, e4]; omega) (fun M3 hI_M3 hH_M3 hS_M3  w3_0 w3_1 w3_2 w3_3 w3_4 w3_5 w3_6 w3_7 => ?_)) (by decide))
                    refine jr.iconst rfl ?_
                    exact jr.ireturn rfl rfl rfl (q _ _ hI_M3 hH_M3 hS_M3  (by omega) w3_0 w3_1 w3_2 w3_3 (CP.trans (CP.rfl _) w3_4) w3_5 (fun a i f598 f659 f660 f664 f666 f667 => ((w3_6 a i f598 f659 f660).trans rfl)) (fun i g73 g74 g75 g76 g77 g78 g79 g80 g81 g89 g90 g100 g102 => ((w3_7 i g73 g74 g75 g76 g77 g78 g79 g80 g81 g89 g90).trans rfl)))
                  · refine jr.if_eq rfl rfl (by omega) (fun _ => ?_) (fun h => absurd (by decide) h)
                    refine jr.aload_n rfl rfl ?_
                    refine jr_v rfl rfl (Or.inl rfl) rfl rfl (by decide) rfl ⟨rfl, Nat.le_of_ble_eq_true rfl, Nat.le_of_ble_eq_true rfl⟩ rfl (jc.deep (r_wrongToken hI_M hH_M hS_M    (fun M5 hI_M5 hH_M5 hS_M5  w5_0 w5_1 w5_2 => ?_)) (by decide))
                    have tk5 : TK M5 = TK M := TK.fr (w5_2 73 (by decide) (by decide)) (w5_2 74 (by decide) (by decide))
                    refine jr.iconst rfl ?_
                    obtain ⟨v6, e6⟩ : ∃ z, M 598 72 = z := ⟨_, rfl⟩
                    have b6 : 0 ≤ v6 ∧ v6 ≤ 1600 := by rw [← e6]; exact hI_M 598 72 (by decide)
                    have e7 : M5 598 72 = v6 := ((w5_2 72 (by decide) (by decide)).trans e6)
                    have y8 : M5 598 72 = v6 := e7
                    obtain ⟨v9, e9⟩ : ∃ z, M 598 73 = z := ⟨_, rfl⟩
                    have b9 : 0 ≤ v9 ∧ v9 ≤ 1600 := by rw [← e9]; exact hI_M 598 73 (by decide)
                    have e10 : M5 598 73 = v9 := ((w5_2 73 (by decide) (by decide)).trans e9)
                    have y11 : M5 598 73 = v9 := e10
                    have e12 : M5 598 74 = v1 := ((w5_2 74 (by decide) (by decide)).trans e1)
                    have y13 : M5 598 74 = v1 := e12
                    obtain ⟨v14, e14⟩ : ∃ z, M 598 79 = z := ⟨_, rfl⟩
                    have b14 : 0 ≤ v14 ∧ v14 ≤ 255 := by rw [← e14]; exact hI_M 598 79 (by decide)
                    have e15 : M5 598 79 = v14 := ((w5_2 79 (by decide) (by decide)).trans e14)
                    have y16 : M5 598 79 = v14 := e15
                    obtain ⟨v17, e17⟩ : ∃ z, M5 598 80 = z := ⟨_, rfl⟩
                    have b17 : 0 ≤ v17 ∧ v17 ≤ 7 := by rw [← e17]; exact hI_M5 598 80 (by decide)
                    have y18 : M5 598 80 = v17 := e17
                    obtain ⟨v19, e19⟩ : ∃ z, M 598 89 = z := ⟨_, rfl⟩
                    have b19 : 0 ≤ v19 ∧ v19 ≤ 301 := by rw [← e19]; exact hI_M 598 89 (by decide)
                    have e20 : M5 598 89 = v19 := ((w5_2 89 (by decide) (by decide)).trans e19)
                    have y21 : M5 598 89 = v19 := e20
                    obtain ⟨v22, e22⟩ : ∃ z, M 598 90 = z := ⟨_, rfl⟩
                    have b22 : 0 ≤ v22 ∧ v22 ≤ 2200 := by rw [← e22]; exact hI_M 598 90 (by decide)
                    have e23 : M5 598 90 = v22 := ((w5_2 90 (by decide) (by decide)).trans e22)
                    have y24 : M5 598 90 = v22 := e23
                    obtain ⟨v25, e25⟩ : ∃ z, M 598 100 = z := ⟨_, rfl⟩
                    have b25 : 0 ≤ v25 ∧ v25 ≤ 13 := by rw [← e25]; exact hI_M 598 100 (by decide)
                    have e26 : M5 598 100 = v25 := ((w5_2 100 (by decide) (by decide)).trans e25)
                    have y27 : M5 598 100 = v25 := e26
                    obtain ⟨v28, e28⟩ : ∃ z, M 598 107 = z := ⟨_, rfl⟩
                    have b28 : 0 ≤ v28 ∧ v28 ≤ 16 := by rw [← e28]; exact hI_M 598 107 (by decide)
                    have e29 : M5 598 107 = v28 := ((w5_2 107 (by decide) (by decide)).trans e28)
                    have y30 : M5 598 107 = v28 := e29
                    exact jr.ireturn rfl rfl rfl (q _ _ hI_M5 hH_M5 hS_M5  (by omega) (by by_cases hf : v17 = 0; (first | (exfalso; omega) | (exact Or.inr ⟨⟨by omega, ES.adj hE (k' := kk) (z' := 0) (by omega) (by omega) (by omega), by omega, by omega, by omega, by omega⟩, by omega⟩)); (exact Or.inl ⟨by omega, by omega⟩)) (by omega) (by omega) (by omega) (CP.f (CP.rfl _) (fun i => w5_1 659 i (by decide)) (w5_2 90 (by decide) (by decide))) (by omega) (fun a i f598 f659 f660 f664 f666 f667 => ((w5_1 a i f598).trans rfl)) (fun i g73 g74 g75 g76 g77 g78 g79 g80 g81 g89 g90 g100 g102 => ((w5_2 i g80 g81).trans rfl)))
        · refine jr.pick (ls := [_]) [0] rfl rfl ?_
          exact r_takeOperand_L86 q M  hI_M hH_M hS_M  (fun a i f598 f659 f660 f664 f666 f667 => rfl) (fun i g73 g74 g75 g76 g77 g78 g79 g80 g81 g89 g90 g100 g102 => rfl)  p0 rfl (CP.rfl _) rfl (by omega)
