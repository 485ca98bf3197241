theorem r_word_L64 {A : Nat → Option (Nat × (Nat → Int32))} {Q : Option Value → jm → Prop} {M0 : jm} {w0 : Int} (q : ∀ (M' : jm), RI M' → RH M' → RF M' → (25 ≤ w0 → M' 598 131 = M0 598 131 + 1 - argn w0) → (w0 < 25 → M' 598 131 = M0 598 131 + 1) → (∀ (a : Nat) (i : Int), a ≠ 598 → a ≠ 603 → a ≠ 604 → a ≠ 605 → a ≠ 624 → a ≠ 686 → M' a i = M0 a i) → (∀ (i : Int), i ≠ 6 → i ≠ 10 → i ≠ 11 → i ≠ 12 → i ≠ 59 → i ≠ 60 → i ≠ 61 → i ≠ 62 → i ≠ 63 → i ≠ 64 → i ≠ 65 → i ≠ 66 → i ≠ 131 → i ≠ 135 → M' 598 i = M0 598 i) → Q none M') : ∀ (M : jm) (x : Int) (a : Int) (b : Int) (c : Int) (v : Int) (w : Int), RI M → RH M → RF M → (∀ (a : Nat) (i : Int), a ≠ 598 → a ≠ 603 → a ≠ 604 → a ≠ 605 → a ≠ 624 → a ≠ 686 → M a i = M0 a i) → (∀ (i : Int), i ≠ 6 → i ≠ 10 → i ≠ 11 → i ≠ 12 → i ≠ 59 → i ≠ 60 → i ≠ 61 → i ≠ 62 → i ≠ 63 → i ≠ 64 → i ≠ 65 → i ≠ 66 → i ≠ 131 → i ≠ 135 → M 598 i = M0 598 i) → 0 ≤ x ∧ x ≤ 3 → (-9223372036854775808) ≤ a ∧ a ≤ 9223372036854775807 → (-9223372036854775808) ≤ b ∧ b ≤ 9223372036854775807 → (-9223372036854775808) ≤ c ∧ c ≤ 9223372036854775807 → 0 ≤ v ∧ v ≤ 0 → 10 ≤ w ∧ w ≤ 30 → M 598 131 = M0 598 131 - x ∧ 0 ≤ M 598 131 ∧ M 598 131 ≤ 250 → ((25 ≤ w ∧ x = argn w) ∨ (w < 25 ∧ x = 0)) → w = w0 → jr A 8 xm_394 64 [(2, .int (Int32.ofInt (x))), (3, .long (Int64.ofInt (a))), (5, .long (Int64.ofInt (b))), (7, .long (Int64.ofInt (c))), (9, .long (Int64.ofInt (v))), (1, .int (Int32.ofInt (w))), (0, .ref (598))] [] M Q := by
    intro M x a b c v w hI_M hH_M hS_M hF_M hG_M h_x h_a h_b h_c h_v h_w hy0 hy1 hy2
    subst hy2
    refine jr.iload_n rfl rfl ?_
    refine jr.bipush rfl (by decide) ?_
    refine jr.icmp_eq rfl rfl (by omega) (by omega) (fun h67 => ?_) (fun h67 => ?_)
    · refine jr.aload_n rfl rfl ?_
      refine jr_v rfl rfl (Or.inl rfl) rfl rfl (by decide) rfl ⟨rfl, Nat.le_of_ble_eq_true rfl, Nat.le_of_ble_eq_true rfl⟩ rfl (jc.deep (r_flowOfPacket hI_M hH_M hS_M (Kp.rfl _)   (fun r1 M1 hI_M1 hH_M1 hS_M1 ht_M1 z1 w1_0 w1_1 => ?_)) (by decide))
      refine jr.goto rfl rfl ?_
      refine jr.istore rfl (by decide) rfl ?_
      refine jr.iload_n rfl rfl ?_
      rcases (show w = 21 by omega) with h87
      · refine jr.tsw_k 21 rfl h87 rfl ?_
        refine jr.iload rfl rfl ?_
        refine jr.i2l rfl (by omega) ?_
        refine jr.lstore rfl (by decide) rfl ?_
        refine jr.goto rfl rfl ?_
        obtain ⟨v2, e2⟩ : ∃ z, M 598 131 = z := ⟨_, rfl⟩
        have b2 : 0 ≤ v2 ∧ v2 ≤ 400 := by rw [← e2]; exact hI_M 598 131 (by decide)
        have e3 : M1 598 131 = v2 := ((w1_1 131 (by decide) (by decide) (by decide) (by decide) (by decide) (by decide) (by decide) (by decide) (by decide) (by decide) (by decide) (by decide)).trans e2)
        refine jr.pick [0, 6, 7] rfl rfl ?_
        exact r_word_L378 q M1 r1 w hI_M1 hH_M1 hS_M1  (fun a i f598 f603 f604 f605 f624 f686 => ((w1_0 a i f598 f603 f604 f605).trans (hF_M a i f598 f603 f604 f605 f624 f686))) (fun i g6 g10 g11 g12 g59 g60 g61 g62 g63 g64 g65 g66 g131 g135 => ((w1_1 i g6 g10 g11 g12 g59 g60 g61 g62 g63 g64 g65 g66).trans (hG_M i g6 g10 g11 g12 g59 g60 g61 g62 g63 g64 g65 g66 g131 g135))) (by omega) (by omega) (by rw [e3] <;> omega) (by omega)
    · refine jr.iload_n rfl rfl ?_
      refine jr.bipush rfl (by decide) ?_
      refine jr.icmp_ne rfl rfl (by omega) (by omega) (fun h73 => ?_) (fun h73 => ?_)
      · refine jr.iconst rfl ?_
        refine jr.istore rfl (by decide) rfl ?_
        refine jr.iload_n rfl rfl ?_
        rcases (show w = 10 ∨ w = 11 ∨ w = 12 ∨ w = 13 ∨ w = 14 ∨ w = 15 ∨ w = 16 ∨ w = 17 ∨ w = 18 ∨ w = 19 ∨ w = 20 ∨ w = 21 ∨ w = 22 ∨ w = 23 ∨ w = 24 ∨ w = 25 ∨ w = 26 ∨ w = 27 ∨ w = 28 ∨ w = 29 ∨ (w ≠ 10 ∧ w ≠ 11 ∧ w ≠ 12 ∧ w ≠ 13 ∧ w ≠ 14 ∧ w ≠ 15 ∧ w ≠ 16 ∧ w ≠ 17 ∧ w ≠ 18 ∧ w ≠ 19 ∧ w ≠ 20 ∧ w ≠ 21 ∧ w ≠ 22 ∧ w ≠ 23 ∧ w ≠ 24 ∧ w ≠ 25 ∧ w ≠ 26 ∧ w ≠ 27 ∧ w ≠ 28 ∧ w ≠ 29) by omega) with h87 | h87 | h87 | h87 | h87 | h87 | h87 | h87 | h87 | h87 | h87 | h87 | h87 | h87 | h87 | h87 | h87 | h87 | h87 | h87 | h87
        · refine jr.tsw_k 10 rfl h87 rfl ?_
          refine jr.aload_n rfl rfl ?_
          refine jr.aload_n rfl rfl ?_
          refine jr.aload_n rfl rfl ?_
          obtain ⟨v4, e4⟩ : ∃ z, M 598 133 = z := ⟨_, rfl⟩
          have b4 : 0 ≤ v4 ∧ v4 ≤ 23 := by rw [← e4]; exact hI_M 598 133 (by decide)
          refine jr.getf (i := 133) (x := v4) (v := .int (Int32.ofInt (v4))) rfl rfl (by decide) rfl (by decide) rfl rfl e4 rfl ?_
          refine jr_v rfl rfl (Or.inl rfl) rfl rfl (by decide) rfl ⟨rfl, Nat.le_of_ble_eq_true rfl, Nat.le_of_ble_eq_true rfl⟩ rfl (jc.deep (r_mark_335 hI_M hH_M hS_M (Kp.rfl _) (by omega)  (fun r5 z5  => ?_)) (by decide))
          refine jr_v rfl rfl (Or.inl rfl) rfl rfl (by decide) rfl ⟨rfl, Nat.le_of_ble_eq_true rfl, Nat.le_of_ble_eq_true rfl⟩ rfl (jc.deep (r_needed hI_M hH_M hS_M  (by omega)  (fun r6 M6 hI_M6 hH_M6 hS_M6  z6 w6_0 w6_1 => ?_)) (by decide))
          refine jr.lstore rfl (by decide) rfl ?_
          refine jr.goto rfl rfl ?_
          obtain ⟨v7, e7⟩ : ∃ z, M 598 131 = z := ⟨_, rfl⟩
          have b7 : 0 ≤ v7 ∧ v7 ≤ 400 := by rw [← e7]; exact hI_M 598 131 (by decide)
          have e8 : M6 598 131 = v7 := ((w6_1 131 (by decide)).trans e7)
          refine jr.pick [0, 6, 7] rfl rfl ?_
          exact r_word_L378 q M6 r6 w hI_M6 hH_M6 hS_M6  (fun a i f598 f603 f604 f605 f624 f686 => ((w6_0 a i f598).trans (hF_M a i f598 f603 f604 f605 f624 f686))) (fun i g6 g10 g11 g12 g59 g60 g61 g62 g63 g64 g65 g66 g131 g135 => ((w6_1 i g135).trans (hG_M i g6 g10 g11 g12 g59 g60 g61 g62 g63 g64 g65 g66 g131 g135))) (by omega) (by omega) (by rw [e8] <;> omega) (by omega)
        · refine jr.tsw_k 11 rfl h87 rfl ?_
          refine jr.aload_n rfl rfl ?_
          refine jr.lload_n rfl rfl ?_
          refine jr.lload rfl rfl ?_
          refine jr.lload rfl rfl ?_
          refine jr_v rfl rfl (Or.inl rfl) rfl rfl (by decide) rfl ⟨rfl, Nat.le_of_ble_eq_true rfl, Nat.le_of_ble_eq_true rfl⟩ rfl (jc.deep (r_headOf hI_M hH_M hS_M  (by omega) (by omega) (by omega)  (fun r9 M9 hI_M9 hH_M9 hS_M9  z9 w9_0 w9_1 => ?_)) (by decide))
          refine jr.lstore rfl (by decide) rfl ?_
          obtain ⟨v10, e10⟩ : ∃ z, M 598 131 = z := ⟨_, rfl⟩
          have b10 : 0 ≤ v10 ∧ v10 ≤ 400 := by rw [← e10]; exact hI_M 598 131 (by decide)
          have e11 : M9 598 131 = v10 := ((w9_1 131 (by decide)).trans e10)
          refine jr.pick [0, 6, 7] rfl rfl ?_
          exact r_word_L378 q M9 r9 w hI_M9 hH_M9 hS_M9  (fun a i f598 f603 f604 f605 f624 f686 => ((w9_0 a i f598).trans (hF_M a i f598 f603 f604 f605 f624 f686))) (fun i g6 g10 g11 g12 g59 g60 g61 g62 g63 g64 g65 g66 g131 g135 => ((w9_1 i g135).trans (hG_M i g6 g10 g11 g12 g59 g60 g61 g62 g63 g64 g65 g66 g131 g135))) (by omega) (by omega) (by rw [e11] <;> omega) (by omega)
        · refine jr.tsw_k 12 rfl h87 rfl ?_
          refine jr.aload_n rfl rfl ?_
          refine jr.lload_n rfl rfl ?_
          refine jr.lload rfl rfl ?_
          refine jr.lload rfl rfl ?_
          refine jr_v rfl rfl (Or.inl rfl) rfl rfl (by decide) rfl ⟨rfl, Nat.le_of_ble_eq_true rfl, Nat.le_of_ble_eq_true rfl⟩ rfl (jc.deep (r_headOf hI_M hH_M hS_M  (by omega) (by omega) (by omega)  (fun r12 M12 hI_M12 hH_M12 hS_M12  z12 w12_0 w12_1 => ?_)) (by decide))
          refine jr.lstore rfl (by decide) rfl ?_
          obtain ⟨v13, e13⟩ : ∃ z, M 598 131 = z := ⟨_, rfl⟩
          have b13 : 0 ≤ v13 ∧ v13 ≤ 400 := by rw [← e13]; exact hI_M 598 131 (by decide)
          have e14 : M12 598 131 = v13 := ((w12_1 131 (by decide)).trans e13)
          refine jr.pick [0, 6, 7] rfl rfl ?_
          exact r_word_L378 q M12 r12 w hI_M12 hH_M12 hS_M12  (fun a i f598 f603 f604 f605 f624 f686 => ((w12_0 a i f598).trans (hF_M a i f598 f603 f604 f605 f624 f686))) (fun i g6 g10 g11 g12 g59 g60 g61 g62 g63 g64 g65 g66 g131 g135 => ((w12_1 i g135).trans (hG_M i g6 g10 g11 g12 g59 g60 g61 g62 g63 g64 g65 g66 g131 g135))) (by omega) (by omega) (by rw [e14] <;> omega) (by omega)
        · refine jr.tsw_k 13 rfl h87 rfl ?_
          refine jr.aload_n rfl rfl ?_
          refine jr.lload_n rfl rfl ?_
          refine jr.lload rfl rfl ?_
          refine jr.lload rfl rfl ?_
          refine jr_v rfl rfl (Or.inl rfl) rfl rfl (by decide) rfl ⟨rfl, Nat.le_of_ble_eq_true rfl, Nat.le_of_ble_eq_true rfl⟩ rfl (jc.deep (r_headOf hI_M hH_M hS_M  (by omega) (by omega) (by omega)  (fun r15 M15 hI_M15 hH_M15 hS_M15  z15 w15_0 w15_1 => ?_)) (by decide))
          refine jr.lstore rfl (by decide) rfl ?_
          obtain ⟨v16, e16⟩ : ∃ z, M 598 131 = z := ⟨_, rfl⟩
          have b16 : 0 ≤ v16 ∧ v16 ≤ 400 := by rw [← e16]; exact hI_M 598 131 (by decide)
          have e17 : M15 598 131 = v16 := ((w15_1 131 (by decide)).trans e16)
          refine jr.pick [0, 6, 7] rfl rfl ?_
          exact r_word_L378 q M15 r15 w hI_M15 hH_M15 hS_M15  (fun a i f598 f603 f604 f605 f624 f686 => ((w15_0 a i f598).trans (hF_M a i f598 f603 f604 f605 f624 f686))) (fun i g6 g10 g11 g12 g59 g60 g61 g62 g63 g64 g65 g66 g131 g135 => ((w15_1 i g135).trans (hG_M i g6 g10 g11 g12 g59 g60 g61 g62 g63 g64 g65 g66 g131 g135))) (by omega) (by omega) (by rw [e17] <;> omega) (by omega)
        · refine jr.tsw_k 14 rfl h87 rfl ?_
          refine jr.aload_n rfl rfl ?_
          refine jr.lload_n rfl rfl ?_
          refine jr.lload rfl rfl ?_
          refine jr.lload rfl rfl ?_
          refine jr_v rfl rfl (Or.inl rfl) rfl rfl (by decide) rfl ⟨rfl, Nat.le_of_ble_eq_true rfl, Nat.le_of_ble_eq_true rfl⟩ rfl (jc.deep (r_headOf hI_M hH_M hS_M  (by omega) (by omega) (by omega)  (fun r18 M18 hI_M18 hH_M18 hS_M18  z18 w18_0 w18_1 => ?_)) (by decide))
          refine jr.lstore rfl (by decide) rfl ?_
          obtain ⟨v19, e19⟩ : ∃ z, M 598 131 = z := ⟨_, rfl⟩
          have b19 : 0 ≤ v19 ∧ v19 ≤ 400 := by rw [← e19]; exact hI_M 598 131 (by decide)
          have e20 : M18 598 131 = v19 := ((w18_1 131 (by decide)).trans e19)
          refine jr.pick [0, 6, 7] rfl rfl ?_
          exact r_word_L378 q M18 r18 w hI_M18 hH_M18 hS_M18  (fun a i f598 f603 f604 f605 f624 f686 => ((w18_0 a i f598).trans (hF_M a i f598 f603 f604 f605 f624 f686))) (fun i g6 g10 g11 g12 g59 g60 g61 g62 g63 g64 g65 g66 g131 g135 => ((w18_1 i g135).trans (hG_M i g6 g10 g11 g12 g59 g60 g61 g62 g63 g64 g65 g66 g131 g135))) (by omega) (by omega) (by rw [e20] <;> omega) (by omega)
        · refine jr.tsw_k 15 rfl h87 rfl ?_
          refine jr.aload_n rfl rfl ?_
          refine jr.lload_n rfl rfl ?_
          refine jr.lload rfl rfl ?_
          refine jr.lload rfl rfl ?_
          refine jr_v rfl rfl (Or.inl rfl) rfl rfl (by decide) rfl ⟨rfl, Nat.le_of_ble_eq_true rfl, Nat.le_of_ble_eq_true rfl⟩ rfl (jc.deep (r_headOf hI_M hH_M hS_M  (by omega) (by omega) (by omega)  (fun r21 M21 hI_M21 hH_M21 hS_M21  z21 w21_0 w21_1 => ?_)) (by decide))
          refine jr.lstore rfl (by decide) rfl ?_
          obtain ⟨v22, e22⟩ : ∃ z, M 598 131 = z := ⟨_, rfl⟩
          have b22 : 0 ≤ v22 ∧ v22 ≤ 400 := by rw [← e22]; exact hI_M 598 131 (by decide)
          have e23 : M21 598 131 = v22 := ((w21_1 131 (by decide)).trans e22)
          refine jr.pick [0, 6, 7] rfl rfl ?_
          exact r_word_L378 q M21 r21 w hI_M21 hH_M21 hS_M21  (fun a i f598 f603 f604 f605 f624 f686 => ((w21_0 a i f598).trans (hF_M a i f598 f603 f604 f605 f624 f686))) (fun i g6 g10 g11 g12 g59 g60 g61 g62 g63 g64 g65 g66 g131 g135 => ((w21_1 i g135).trans (hG_M i g6 g10 g11 g12 g59 g60 g61 g62 g63 g64 g65 g66 g131 g135))) (by omega) (by omega) (by rw [e23] <;> omega) (by omega)
        · refine jr.tsw_k 16 rfl h87 rfl ?_
          refine jr.aload_n rfl rfl ?_
          refine jr.lload_n rfl rfl ?_
          refine jr.lload rfl rfl ?_
          refine jr.lload rfl rfl ?_
          refine jr_v rfl rfl (Or.inl rfl) rfl rfl (by decide) rfl ⟨rfl, Nat.le_of_ble_eq_true rfl, Nat.le_of_ble_eq_true rfl⟩ rfl (jc.deep (r_headOf hI_M hH_M hS_M  (by omega) (by omega) (by omega)  (fun r24 M24 hI_M24 hH_M24 hS_M24  z24 w24_0 w24_1 => ?_)) (by decide))
          refine jr.lstore rfl (by decide) rfl ?_
          obtain ⟨v25, e25⟩ : ∃ z, M 598 131 = z := ⟨_, rfl⟩
          have b25 : 0 ≤ v25 ∧ v25 ≤ 400 := by rw [← e25]; exact hI_M 598 131 (by decide)
          have e26 : M24 598 131 = v25 := ((w24_1 131 (by decide)).trans e25)
          refine jr.pick [0, 6, 7] rfl rfl ?_
          exact r_word_L378 q M24 r24 w hI_M24 hH_M24 hS_M24  (fun a i f598 f603 f604 f605 f624 f686 => ((w24_0 a i f598).trans (hF_M a i f598 f603 f604 f605 f624 f686))) (fun i g6 g10 g11 g12 g59 g60 g61 g62 g63 g64 g65 g66 g131 g135 => ((w24_1 i g135).trans (hG_M i g6 g10 g11 g12 g59 g60 g61 g62 g63 g64 g65 g66 g131 g135))) (by omega) (by omega) (by rw [e26] <;> omega) (by omega)
        · refine jr.tsw_k 17 rfl h87 rfl ?_
          refine jr.aload_n rfl rfl ?_
          refine jr.lload_n rfl rfl ?_
          refine jr.lload rfl rfl ?_
          refine jr.lload rfl rfl ?_
          refine jr_v rfl rfl (Or.inl rfl) rfl rfl (by decide) rfl ⟨rfl, Nat.le_of_ble_eq_true rfl, Nat.le_of_ble_eq_true rfl⟩ rfl (jc.deep (r_headOf hI_M hH_M hS_M  (by omega) (by omega) (by omega)  (fun r27 M27 hI_M27 hH_M27 hS_M27  z27 w27_0 w27_1 => ?_)) (by decide))
          refine jr.lstore rfl (by decide) rfl ?_
          obtain ⟨v28, e28⟩ : ∃ z, M 598 131 = z := ⟨_, rfl⟩
          have b28 : 0 ≤ v28 ∧ v28 ≤ 400 := by rw [← e28]; exact hI_M 598 131 (by decide)
          have e29 : M27 598 131 = v28 := ((w27_1 131 (by decide)).trans e28)
          refine jr.pick [0, 6, 7] rfl rfl ?_
          exact r_word_L378 q M27 r27 w hI_M27 hH_M27 hS_M27  (fun a i f598 f603 f604 f605 f624 f686 => ((w27_0 a i f598).trans (hF_M a i f598 f603 f604 f605 f624 f686))) (fun i g6 g10 g11 g12 g59 g60 g61 g62 g63 g64 g65 g66 g131 g135 => ((w27_1 i g135).trans (hG_M i g6 g10 g11 g12 g59 g60 g61 g62 g63 g64 g65 g66 g131 g135))) (by omega) (by omega) (by rw [e29] <;> omega) (by omega)
        · refine jr.tsw_k 18 rfl h87 rfl ?_
          refine jr.aload_n rfl rfl ?_
          refine jr.lload_n rfl rfl ?_
          refine jr.lload rfl rfl ?_
          refine jr.lload rfl rfl ?_
          refine jr_v rfl rfl (Or.inl rfl) rfl rfl (by decide) rfl ⟨rfl, Nat.le_of_ble_eq_true rfl, Nat.le_of_ble_eq_true rfl⟩ rfl (jc.deep (r_headOf hI_M hH_M hS_M  (by omega) (by omega) (by omega)  (fun r30 M30 hI_M30 hH_M30 hS_M30  z30 w30_0 w30_1 => ?_)) (by decide))
          refine jr.lstore rfl (by decide) rfl ?_
          obtain ⟨v31, e31⟩ : ∃ z, M 598 131 = z := ⟨_, rfl⟩
          have b31 : 0 ≤ v31 ∧ v31 ≤ 400 := by rw [← e31]; exact hI_M 598 131 (by decide)
          have e32 : M30 598 131 = v31 := ((w30_1 131 (by decide)).trans e31)
          refine jr.pick [0, 6, 7] rfl rfl ?_
          exact r_word_L378 q M30 r30 w hI_M30 hH_M30 hS_M30  (fun a i f598 f603 f604 f605 f624 f686 => ((w30_0 a i f598).trans (hF_M a i f598 f603 f604 f605 f624 f686))) (fun i g6 g10 g11 g12 g59 g60 g61 g62 g63 g64 g65 g66 g131 g135 => ((w30_1 i g135).trans (hG_M i g6 g10 g11 g12 g59 g60 g61 g62 g63 g64 g65 g66 g131 g135))) (by omega) (by omega) (by rw [e32] <;> omega) (by omega)
        · refine jr.tsw_k 19 rfl h87 rfl ?_
          refine jr.aload_n rfl rfl ?_
          obtain ⟨v33, e33⟩ : ∃ z, M 598 2 = z := ⟨_, rfl⟩
          have b33 : 0 ≤ v33 ∧ v33 ≤ 2000000 := by rw [← e33]; exact hI_M 598 2 (by decide)
          refine jr.getf (i := 2) (x := v33) (v := .int (Int32.ofInt (v33))) rfl rfl (by decide) rfl (by decide) rfl rfl e33 rfl ?_
          refine jr.i2l rfl (by omega) ?_
          refine jr.lstore rfl (by decide) rfl ?_
          refine jr.goto rfl rfl ?_
          obtain ⟨v34, e34⟩ : ∃ z, M 598 131 = z := ⟨_, rfl⟩
          have b34 : 0 ≤ v34 ∧ v34 ≤ 400 := by rw [← e34]; exact hI_M 598 131 (by decide)
          refine jr.pick [0, 6, 7] rfl rfl ?_
          exact r_word_L378 q M v33 w hI_M hH_M hS_M  (fun a i f598 f603 f604 f605 f624 f686 => (hF_M a i f598 f603 f604 f605 f624 f686)) (fun i g6 g10 g11 g12 g59 g60 g61 g62 g63 g64 g65 g66 g131 g135 => (hG_M i g6 g10 g11 g12 g59 g60 g61 g62 g63 g64 g65 g66 g131 g135)) (by omega) (by omega) (by rw [e34] <;> omega) (by omega)
        · refine jr.tsw_k 20 rfl h87 rfl ?_
          refine jr.aload_n rfl rfl ?_
          refine jr.aload_n rfl rfl ?_
          refine jr.aload_n rfl rfl ?_
          obtain ⟨v35, e35⟩ : ∃ z, M 598 133 = z := ⟨_, rfl⟩
          have b35 : 0 ≤ v35 ∧ v35 ≤ 23 := by rw [← e35]; exact hI_M 598 133 (by decide)
          refine jr.getf (i := 133) (x := v35) (v := .int (Int32.ofInt (v35))) rfl rfl (by decide) rfl (by decide) rfl rfl e35 rfl ?_
          refine jr_v rfl rfl (Or.inl rfl) rfl rfl (by decide) rfl ⟨rfl, Nat.le_of_ble_eq_true rfl, Nat.le_of_ble_eq_true rfl⟩ rfl (jc.deep (c_isThere hI_M (by omega) (fun l213 u213 t213 => ?_) (fun n213 => ?_)) (by decide))
          · refine jr.if_eq rfl rfl (by omega) (fun h => absurd h (by decide)) (fun _ => ?_)
            refine jr.aload_n rfl rfl ?_
            refine jr.getf (i := 3) (v := .ref 600) rfl rfl (by decide) rfl (by decide) rfl rfl rfl rfl ?_
            refine jr.aload_n rfl rfl ?_
            refine jr.getf (i := 133) (x := v35) (v := .int (Int32.ofInt (v35))) rfl rfl (by decide) rfl (by decide) rfl rfl e35 rfl ?_
            obtain ⟨v36, e36⟩ : ∃ z, M 600 v35 = z := ⟨_, rfl⟩
            have b36 : (-1) ≤ v36 ∧ v36 ≤ 400 := by rw [← e36]; exact (by have q := hI_M 600 v35 (by decide); rw [xri_row rfl rfl] at q; exact q)
            refine jr.iald (i := v35) (x := v36) rfl (by decide) rfl (by decide) (by omega) (by omega) e36 ?_
            refine jr.i2l rfl (by omega) ?_
            refine jr.goto rfl rfl ?_
            refine jr_v rfl rfl (Or.inl rfl) rfl rfl (by decide) rfl ⟨rfl, Nat.le_of_ble_eq_true rfl, Nat.le_of_ble_eq_true rfl⟩ rfl (jc.deep (r_needed hI_M hH_M hS_M  (by omega)  (fun r37 M37 hI_M37 hH_M37 hS_M37  z37 w37_0 w37_1 => ?_)) (by decide))
            refine jr.lstore rfl (by decide) rfl ?_
            refine jr.goto rfl rfl ?_
            obtain ⟨v38, e38⟩ : ∃ z, M 598 131 = z := ⟨_, rfl⟩
            have b38 : 0 ≤ v38 ∧ v38 ≤ 400 := by rw [← e38]; exact hI_M 598 131 (by decide)
            have e39 : M37 598 131 = v38 := ((w37_1 131 (by decide)).trans e38)
            refine jr.pick [0, 6, 7] rfl rfl ?_
            exact r_word_L378 q M37 r37 w hI_M37 hH_M37 hS_M37  (fun a i f598 f603 f604 f605 f624 f686 => ((w37_0 a i f598).trans (hF_M a i f598 f603 f604 f605 f624 f686))) (fun i g6 g10 g11 g12 g59 g60 g61 g62 g63 g64 g65 g66 g131 g135 => ((w37_1 i g135).trans (hG_M i g6 g10 g11 g12 g59 g60 g61 g62 g63 g64 g65 g66 g131 g135))) (by omega) (by omega) (by rw [e39] <;> omega) (by omega)
          · refine jr.if_eq rfl rfl (by omega) (fun _ => ?_) (fun h => absurd (by decide) h)
            refine jr.lconst (x := 0) rfl (by decide) ?_
            refine jr_v rfl rfl (Or.inl rfl) rfl rfl (by decide) rfl ⟨rfl, Nat.le_of_ble_eq_true rfl, Nat.le_of_ble_eq_true rfl⟩ rfl (jc.deep (r_needed hI_M hH_M hS_M  (by omega)  (fun r40 M40 hI_M40 hH_M40 hS_M40  z40 w40_0 w40_1 => ?_)) (by decide))
            refine jr.lstore rfl (by decide) rfl ?_
            refine jr.goto rfl rfl ?_
            obtain ⟨v41, e41⟩ : ∃ z, M 598 131 = z := ⟨_, rfl⟩
            have b41 : 0 ≤ v41 ∧ v41 ≤ 400 := by rw [← e41]; exact hI_M 598 131 (by decide)
            have e42 : M40 598 131 = v41 := ((w40_1 131 (by decide)).trans e41)
            refine jr.pick [0, 6, 7] rfl rfl ?_
            exact r_word_L378 q M40 r40 w hI_M40 hH_M40 hS_M40  (fun a i f598 f603 f604 f605 f624 f686 => ((w40_0 a i f598).trans (hF_M a i f598 f603 f604 f605 f624 f686))) (fun i g6 g10 g11 g12 g59 g60 g61 g62 g63 g64 g65 g66 g131 g135 => ((w40_1 i g135).trans (hG_M i g6 g10 g11 g12 g59 g60 g61 g62 g63 g64 g65 g66 g131 g135))) (by omega) (by omega) (by rw [e42] <;> omega) (by omega)
        · refine jr.tsw_k 21 rfl h87 rfl ?_
          refine jr.iload rfl rfl ?_
          refine jr.i2l rfl (by omega) ?_
          refine jr.lstore rfl (by decide) rfl ?_
          refine jr.goto rfl rfl ?_
          obtain ⟨v43, e43⟩ : ∃ z, M 598 131 = z := ⟨_, rfl⟩
          have b43 : 0 ≤ v43 ∧ v43 ≤ 400 := by rw [← e43]; exact hI_M 598 131 (by decide)
          refine jr.pick [0, 6, 7] rfl rfl ?_
          exact r_word_L378 q M (-1) w hI_M hH_M hS_M  (fun a i f598 f603 f604 f605 f624 f686 => (hF_M a i f598 f603 f604 f605 f624 f686)) (fun i g6 g10 g11 g12 g59 g60 g61 g62 g63 g64 g65 g66 g131 g135 => (hG_M i g6 g10 g11 g12 g59 g60 g61 g62 g63 g64 g65 g66 g131 g135)) (by omega) (by omega) (by rw [e43] <;> omega) (by omega)
        · refine jr.tsw_k 22 rfl h87 rfl ?_
          refine jr.iload rfl rfl ?_
          refine jr.iconst rfl ?_
          refine jr.icmp_ne rfl rfl (by omega) (by omega) (fun h => absurd h (by decide)) (fun _ => ?_)
          refine jr.ldc2 (x := (-1)) rfl rfl (by decide) ?_
          refine jr.goto rfl rfl ?_
          refine jr.lstore rfl (by decide) rfl ?_
          refine jr.goto rfl rfl ?_
          obtain ⟨v44, e44⟩ : ∃ z, M 598 131 = z := ⟨_, rfl⟩
          have b44 : 0 ≤ v44 ∧ v44 ≤ 400 := by rw [← e44]; exact hI_M 598 131 (by decide)
          refine jr.pick [0, 6, 7] rfl rfl ?_
          exact r_word_L378 q M (-1) w hI_M hH_M hS_M  (fun a i f598 f603 f604 f605 f624 f686 => (hF_M a i f598 f603 f604 f605 f624 f686)) (fun i g6 g10 g11 g12 g59 g60 g61 g62 g63 g64 g65 g66 g131 g135 => (hG_M i g6 g10 g11 g12 g59 g60 g61 g62 g63 g64 g65 g66 g131 g135)) (by omega) (by omega) (by rw [e44] <;> omega) (by omega)
        · refine jr.tsw_k 23 rfl h87 rfl ?_
          refine jr.aload_n rfl rfl ?_
          obtain ⟨v45, e45⟩ : ∃ z, M 598 134 = z := ⟨_, rfl⟩
          have b45 : 0 ≤ v45 ∧ v45 ≤ 8 := by rw [← e45]; exact hI_M 598 134 (by decide)
          refine jr.getf (i := 134) (x := v45) (v := .int (Int32.ofInt (v45))) rfl rfl (by decide) rfl (by decide) rfl rfl e45 rfl ?_
          refine jr.i2l rfl (by omega) ?_
          refine jr.lstore rfl (by decide) rfl ?_
          refine jr.goto rfl rfl ?_
          obtain ⟨v46, e46⟩ : ∃ z, M 598 131 = z := ⟨_, rfl⟩
          have b46 : 0 ≤ v46 ∧ v46 ≤ 400 := by rw [← e46]; exact hI_M 598 131 (by decide)
          refine jr.pick [0, 6, 7] rfl rfl ?_
          exact r_word_L378 q M v45 w hI_M hH_M hS_M  (fun a i f598 f603 f604 f605 f624 f686 => (hF_M a i f598 f603 f604 f605 f624 f686)) (fun i g6 g10 g11 g12 g59 g60 g61 g62 g63 g64 g65 g66 g131 g135 => (hG_M i g6 g10 g11 g12 g59 g60 g61 g62 g63 g64 g65 g66 g131 g135)) (by omega) (by omega) (by rw [e46] <;> omega) (by omega)
        · refine jr.tsw_k 24 rfl h87 rfl ?_
          refine jr.aload_n rfl rfl ?_
          refine jr.lload_n rfl rfl ?_
          refine jr.lload rfl rfl ?_
          refine jr.lload rfl rfl ?_
          refine jr_v rfl rfl (Or.inl rfl) rfl rfl (by decide) rfl ⟨rfl, Nat.le_of_ble_eq_true rfl, Nat.le_of_ble_eq_true rfl⟩ rfl (jc.deep (r_headOf hI_M hH_M hS_M  (by omega) (by omega) (by omega)  (fun r47 M47 hI_M47 hH_M47 hS_M47  z47 w47_0 w47_1 => ?_)) (by decide))
          refine jr.lstore rfl (by decide) rfl ?_
          obtain ⟨v48, e48⟩ : ∃ z, M 598 131 = z := ⟨_, rfl⟩
          have b48 : 0 ≤ v48 ∧ v48 ≤ 400 := by rw [← e48]; exact hI_M 598 131 (by decide)
          have e49 : M47 598 131 = v48 := ((w47_1 131 (by decide)).trans e48)
          refine jr.pick [0, 6, 7] rfl rfl ?_
          exact r_word_L378 q M47 r47 w hI_M47 hH_M47 hS_M47  (fun a i f598 f603 f604 f605 f624 f686 => ((w47_0 a i f598).trans (hF_M a i f598 f603 f604 f605 f624 f686))) (fun i g6 g10 g11 g12 g59 g60 g61 g62 g63 g64 g65 g66 g131 g135 => ((w47_1 i g135).trans (hG_M i g6 g10 g11 g12 g59 g60 g61 g62 g63 g64 g65 g66 g131 g135))) (by omega) (by omega) (by rw [e49] <;> omega) (by omega)
        · refine jr.tsw_k 25 rfl h87 rfl ?_
          refine jr.aload_n rfl rfl ?_
          refine jr.lload_n rfl rfl ?_
          refine jr_v rfl rfl (Or.inl rfl) rfl rfl (by decide) rfl ⟨rfl, Nat.le_of_ble_eq_true rfl, Nat.le_of_ble_eq_true rfl⟩ rfl (jc.deep (r_byteAt hI_M hH_M hS_M  (by omega)  (fun r50 M50 hI_M50 hH_M50 hS_M50  z50 w50_0 w50_1 => ?_)) (by decide))
          refine jr.lstore rfl (by decide) rfl ?_
          refine jr.goto rfl rfl ?_
          obtain ⟨v51, e51⟩ : ∃ z, M 598 131 = z := ⟨_, rfl⟩
          have b51 : 0 ≤ v51 ∧ v51 ≤ 400 := by rw [← e51]; exact hI_M 598 131 (by decide)
          have e52 : M50 598 131 = v51 := ((w50_1 131 (by decide)).trans e51)
          refine jr.pick [0, 6, 7] rfl rfl ?_
          exact r_word_L378 q M50 r50 w hI_M50 hH_M50 hS_M50  (fun a i f598 f603 f604 f605 f624 f686 => ((w50_0 a i f598).trans (hF_M a i f598 f603 f604 f605 f624 f686))) (fun i g6 g10 g11 g12 g59 g60 g61 g62 g63 g64 g65 g66 g131 g135 => ((w50_1 i g135).trans (hG_M i g6 g10 g11 g12 g59 g60 g61 g62 g63 g64 g65 g66 g131 g135))) (by omega) (by omega) (by rw [e52] <;> omega) (by omega)
        · refine jr.tsw_k 26 rfl h87 rfl ?_
          refine jr.aload_n rfl rfl ?_
          refine jr.lload_n rfl rfl ?_
          refine jr_v rfl rfl (Or.inl rfl) rfl rfl (by decide) rfl ⟨rfl, Nat.le_of_ble_eq_true rfl, Nat.le_of_ble_eq_true rfl⟩ rfl (jc.deep (r_spend hI_M hH_M hS_M  (by omega)  (fun r53 M53 hI_M53 hH_M53 hS_M53  z53 w53_0 w53_1 => ?_)) (by decide))
          refine jr.lstore rfl (by decide) rfl ?_
          refine jr.goto rfl rfl ?_
          obtain ⟨v54, e54⟩ : ∃ z, M 598 131 = z := ⟨_, rfl⟩
          have b54 : 0 ≤ v54 ∧ v54 ≤ 400 := by rw [← e54]; exact hI_M 598 131 (by decide)
          have e55 : M53 598 131 = v54 := ((w53_1 131 (by decide)).trans e54)
          refine jr.pick [0, 6, 7] rfl rfl ?_
          exact r_word_L378 q M53 r53 w hI_M53 hH_M53 hS_M53  (fun a i f598 f603 f604 f605 f624 f686 => ((w53_0 a i f598 f624).trans (hF_M a i f598 f603 f604 f605 f624 f686))) (fun i g6 g10 g11 g12 g59 g60 g61 g62 g63 g64 g65 g66 g131 g135 => ((w53_1 i g135).trans (hG_M i g6 g10 g11 g12 g59 g60 g61 g62 g63 g64 g65 g66 g131 g135))) (by omega) (by omega) (by rw [e55] <;> omega) (by omega)
        · refine jr.tsw_k 27 rfl h87 rfl ?_
          refine jr.aload_n rfl rfl ?_
          refine jr.lload_n rfl rfl ?_
          refine jr_v rfl rfl (Or.inl rfl) rfl rfl (by decide) rfl ⟨rfl, Nat.le_of_ble_eq_true rfl, Nat.le_of_ble_eq_true rfl⟩ rfl (jc.deep (r_rowFor hI_M hH_M hS_M  (by omega)  (fun r56 M56 hI_M56 hH_M56 hS_M56  z56 w56_0 w56_1 w56_2 => ?_)) (by decide))
          refine jr.istore rfl (by decide) rfl ?_
          refine jr.aload_n rfl rfl ?_
          obtain ⟨v57, e57⟩ : ∃ z, M56 598 135 = z := ⟨_, rfl⟩
          have b57 : 0 ≤ v57 ∧ v57 ≤ 8 := by rw [← e57]; exact hI_M56 598 135 (by decide)
          refine jr.getf (i := 135) (x := v57) (v := .int (Int32.ofInt (v57))) rfl rfl (by decide) rfl (by decide) rfl rfl e57 rfl ?_
          refine jr.if_ne rfl rfl (by omega) (fun h315 => ?_) (fun h315 => ?_)
          · have sx315 : (1 : Int) ≤ v57 := by omega
            refine jr.lconst (x := 0) rfl (by decide) ?_
            refine jr.lstore rfl (by decide) rfl ?_
            refine jr.goto rfl rfl ?_
            obtain ⟨v58, e58⟩ : ∃ z, M 598 131 = z := ⟨_, rfl⟩
            have b58 : 0 ≤ v58 ∧ v58 ≤ 400 := by rw [← e58]; exact hI_M 598 131 (by decide)
            have e59 : M56 598 131 = v58 := ((w56_2 131 (by decide)).trans e58)
            refine jr.pick [0, 7, 8] rfl rfl ?_
            exact r_word_L378 q M56 0 w hI_M56 hH_M56 hS_M56  (fun a i f598 f603 f604 f605 f624 f686 => ((w56_1 a i f598).trans (hF_M a i f598 f603 f604 f605 f624 f686))) (fun i g6 g10 g11 g12 g59 g60 g61 g62 g63 g64 g65 g66 g131 g135 => ((w56_2 i g135).trans (hG_M i g6 g10 g11 g12 g59 g60 g61 g62 g63 g64 g65 g66 g131 g135))) (by omega) (by omega) (by rw [e59] <;> omega) (by omega)
          · refine jr.aload_n rfl rfl ?_
            refine jr.getf (i := 118) (v := .ref 675) rfl rfl (by decide) rfl (by decide) rfl rfl rfl rfl ?_
            refine jr.iload rfl rfl ?_
            obtain ⟨v60, e60⟩ : ∃ z, M 675 r56 = z := ⟨_, rfl⟩
            have b60 : 0 ≤ v60 ∧ v60 ≤ 40 := by rw [← e60]; exact (by have q := hI_M 675 r56 (by decide); rw [xri_row rfl rfl] at q; exact q)
            have e61 : M56 675 r56 = v60 := ((w56_1 675 r56 (by decide)).trans e60)
            refine jr.iald (i := r56) (x := v60) rfl (by decide) rfl (by decide) (by omega) (by omega) e61 ?_
            refine jr.i2l rfl (by omega) ?_
            refine jr.goto rfl rfl ?_
            refine jr.lstore rfl (by decide) rfl ?_
            refine jr.goto rfl rfl ?_
            obtain ⟨v62, e62⟩ : ∃ z, M 598 131 = z := ⟨_, rfl⟩
            have b62 : 0 ≤ v62 ∧ v62 ≤ 400 := by rw [← e62]; exact hI_M 598 131 (by decide)
            have e63 : M56 598 131 = v62 := ((w56_2 131 (by decide)).trans e62)
            refine jr.pick [0, 7, 8] rfl rfl ?_
            exact r_word_L378 q M56 v60 w hI_M56 hH_M56 hS_M56  (fun a i f598 f603 f604 f605 f624 f686 => ((w56_1 a i f598).trans (hF_M a i f598 f603 f604 f605 f624 f686))) (fun i g6 g10 g11 g12 g59 g60 g61 g62 g63 g64 g65 g66 g131 g135 => ((w56_2 i g135).trans (hG_M i g6 g10 g11 g12 g59 g60 g61 g62 g63 g64 g65 g66 g131 g135))) (by omega) (by omega) (by rw [e63] <;> omega) (by omega)
        · refine jr.tsw_k 28 rfl h87 rfl ?_
          refine jr.aload_n rfl rfl ?_
          refine jr.lload_n rfl rfl ?_
          refine jr.lload rfl rfl ?_
          refine jr_v rfl rfl (Or.inl rfl) rfl rfl (by decide) rfl ⟨rfl, Nat.le_of_ble_eq_true rfl, Nat.le_of_ble_eq_true rfl⟩ rfl (jc.deep (r_isIn hI_M hH_M hS_M  (by omega) (by omega)  (fun r64 M64 hI_M64 hH_M64 hS_M64  z64 w64_0 w64_1 w64_2 => ?_)) (by decide))
          refine jr.if_eq rfl rfl (by omega) (fun h342 => ?_) (fun h342 => ?_)
          · refine jr.lconst (x := 0) rfl (by decide) ?_
            refine jr.lstore rfl (by decide) rfl ?_
            refine jr.goto rfl rfl ?_
            obtain ⟨v65, e65⟩ : ∃ z, M 598 131 = z := ⟨_, rfl⟩
            have b65 : 0 ≤ v65 ∧ v65 ≤ 400 := by rw [← e65]; exact hI_M 598 131 (by decide)
            have e66 : M64 598 131 = v65 := ((w64_2 131 (by decide)).trans e65)
            refine jr.pick [0, 6, 7] rfl rfl ?_
            exact r_word_L378 q M64 0 w hI_M64 hH_M64 hS_M64  (fun a i f598 f603 f604 f605 f624 f686 => ((w64_1 a i f598).trans (hF_M a i f598 f603 f604 f605 f624 f686))) (fun i g6 g10 g11 g12 g59 g60 g61 g62 g63 g64 g65 g66 g131 g135 => ((w64_2 i g135).trans (hG_M i g6 g10 g11 g12 g59 g60 g61 g62 g63 g64 g65 g66 g131 g135))) (by omega) (by omega) (by rw [e66] <;> omega) (by omega)
          · have sx342 : (1 : Int) ≤ r64 := by omega
            refine jr.lconst (x := 1) rfl (by decide) ?_
            refine jr.goto rfl rfl ?_
            refine jr.lstore rfl (by decide) rfl ?_
            refine jr.goto rfl rfl ?_
            obtain ⟨v67, e67⟩ : ∃ z, M 598 131 = z := ⟨_, rfl⟩
            have b67 : 0 ≤ v67 ∧ v67 ≤ 400 := by rw [← e67]; exact hI_M 598 131 (by decide)
            have e68 : M64 598 131 = v67 := ((w64_2 131 (by decide)).trans e67)
            refine jr.pick [0, 6, 7] rfl rfl ?_
            exact r_word_L378 q M64 1 w hI_M64 hH_M64 hS_M64  (fun a i f598 f603 f604 f605 f624 f686 => ((w64_1 a i f598).trans (hF_M a i f598 f603 f604 f605 f624 f686))) (fun i g6 g10 g11 g12 g59 g60 g61 g62 g63 g64 g65 g66 g131 g135 => ((w64_2 i g135).trans (hG_M i g6 g10 g11 g12 g59 g60 g61 g62 g63 g64 g65 g66 g131 g135))) (by omega) (by omega) (by rw [e68] <;> omega) (by omega)
        · refine jr.tsw_k 29 rfl h87 rfl ?_
          refine jr.aload_n rfl rfl ?_
          refine jr.lload_n rfl rfl ?_
          refine jr.lload rfl rfl ?_
          refine jr_v rfl rfl (Or.inl rfl) rfl rfl (by decide) rfl ⟨rfl, Nat.le_of_ble_eq_true rfl, Nat.le_of_ble_eq_true rfl⟩ rfl (jc.deep (r_itemOf hI_M hH_M hS_M  (by omega) (by omega)  (fun r69 M69 hI_M69 hH_M69 hS_M69  z69 w69_0 w69_1 w69_2 => ?_)) (by decide))
          refine jr.lstore rfl (by decide) rfl ?_
          refine jr.goto rfl rfl ?_
          obtain ⟨v70, e70⟩ : ∃ z, M 598 131 = z := ⟨_, rfl⟩
          have b70 : 0 ≤ v70 ∧ v70 ≤ 400 := by rw [← e70]; exact hI_M 598 131 (by decide)
          have e71 : M69 598 131 = v70 := ((w69_2 131 (by decide)).trans e70)
          refine jr.pick [0, 6, 7] rfl rfl ?_
          exact r_word_L378 q M69 r69 w hI_M69 hH_M69 hS_M69  (fun a i f598 f603 f604 f605 f624 f686 => ((w69_1 a i f598).trans (hF_M a i f598 f603 f604 f605 f624 f686))) (fun i g6 g10 g11 g12 g59 g60 g61 g62 g63 g64 g65 g66 g131 g135 => ((w69_2 i g135).trans (hG_M i g6 g10 g11 g12 g59 g60 g61 g62 g63 g64 g65 g66 g131 g135))) (by omega) (by omega) (by rw [e71] <;> omega) (by omega)
        · refine jr.tsw_d rfl (by omega) (by omega) rfl ?_
          refine jr.aload_n rfl rfl ?_
          refine jr.lload_n rfl rfl ?_
          refine jr.lload rfl rfl ?_
          refine jr.lload rfl rfl ?_
          refine jr_v rfl rfl (Or.inl rfl) rfl rfl (by decide) rfl ⟨rfl, Nat.le_of_ble_eq_true rfl, Nat.le_of_ble_eq_true rfl⟩ rfl (jc.deep (r_headOf hI_M hH_M hS_M  (by omega) (by omega) (by omega)  (fun r72 M72 hI_M72 hH_M72 hS_M72  z72 w72_0 w72_1 => ?_)) (by decide))
          refine jr.lstore rfl (by decide) rfl ?_
          obtain ⟨v73, e73⟩ : ∃ z, M 598 131 = z := ⟨_, rfl⟩
          have b73 : 0 ≤ v73 ∧ v73 ≤ 400 := by rw [← e73]; exact hI_M 598 131 (by decide)
          have e74 : M72 598 131 = v73 := ((w72_1 131 (by decide)).trans e73)
          refine jr.pick [0, 6, 7] rfl rfl ?_
          exact r_word_L378 q M72 r72 w hI_M72 hH_M72 hS_M72  (fun a i f598 f603 f604 f605 f624 f686 => ((w72_0 a i f598).trans (hF_M a i f598 f603 f604 f605 f624 f686))) (fun i g6 g10 g11 g12 g59 g60 g61 g62 g63 g64 g65 g66 g131 g135 => ((w72_1 i g135).trans (hG_M i g6 g10 g11 g12 g59 g60 g61 g62 g63 g64 g65 g66 g131 g135))) (by omega) (by omega) (by rw [e74] <;> omega) (by omega)
      · refine jr.aload_n rfl rfl ?_
        refine jr_v rfl rfl (Or.inl rfl) rfl rfl (by decide) rfl ⟨rfl, Nat.le_of_ble_eq_true rfl, Nat.le_of_ble_eq_true rfl⟩ rfl (jc.deep (r_flowOfPacket hI_M hH_M hS_M (Kp.rfl _)   (fun r75 M75 hI_M75 hH_M75 hS_M75 ht_M75 z75 w75_0 w75_1 => ?_)) (by decide))
        refine jr.goto rfl rfl ?_
        refine jr.istore rfl (by decide) rfl ?_
        refine jr.iload_n rfl rfl ?_
        rcases (show w = 22 by omega) with h87
        · refine jr.tsw_k 22 rfl h87 rfl ?_
          refine jr.iload rfl rfl ?_
          refine jr.iconst rfl ?_
          refine jr.icmp_ne rfl rfl (by omega) (by omega) (fun h252 => ?_) (fun h252 => ?_)
          · have sx252 : (0 : Int) ≤ r75 := by omega
            refine jr.aload_n rfl rfl ?_
            refine jr.getf (i := 50) (v := .ref 638) rfl rfl (by decide) rfl (by decide) rfl rfl rfl rfl ?_
            refine jr.iload rfl rfl ?_
            obtain ⟨v76, e76⟩ : ∃ z, M 638 r75 = z := ⟨_, rfl⟩
            have b76 : 0 ≤ v76 ∧ v76 ≤ 15 := by rw [← e76]; exact (by have q := hI_M 638 r75 (by decide); rw [xri_row rfl rfl] at q; exact q)
            have e77 : M75 638 r75 = v76 := ((w75_0 638 r75 (by decide) (by decide) (by decide) (by decide)).trans e76)
            refine jr.iald (i := r75) (x := v76) rfl (by decide) rfl (by decide) (by omega) (by omega) e77 ?_
            refine jr.i2l rfl (by omega) ?_
            refine jr.lstore rfl (by decide) rfl ?_
            refine jr.goto rfl rfl ?_
            obtain ⟨v78, e78⟩ : ∃ z, M 598 131 = z := ⟨_, rfl⟩
            have b78 : 0 ≤ v78 ∧ v78 ≤ 400 := by rw [← e78]; exact hI_M 598 131 (by decide)
            have e79 : M75 598 131 = v78 := ((w75_1 131 (by decide) (by decide) (by decide) (by decide) (by decide) (by decide) (by decide) (by decide) (by decide) (by decide) (by decide) (by decide)).trans e78)
            refine jr.pick [0, 6, 7] rfl rfl ?_
            exact r_word_L378 q M75 v76 w hI_M75 hH_M75 hS_M75  (fun a i f598 f603 f604 f605 f624 f686 => ((w75_0 a i f598 f603 f604 f605).trans (hF_M a i f598 f603 f604 f605 f624 f686))) (fun i g6 g10 g11 g12 g59 g60 g61 g62 g63 g64 g65 g66 g131 g135 => ((w75_1 i g6 g10 g11 g12 g59 g60 g61 g62 g63 g64 g65 g66).trans (hG_M i g6 g10 g11 g12 g59 g60 g61 g62 g63 g64 g65 g66 g131 g135))) (by omega) (by omega) (by rw [e79] <;> omega) (by omega)
          · refine jr.ldc2 (x := (-1)) rfl rfl (by decide) ?_
            refine jr.goto rfl rfl ?_
            refine jr.lstore rfl (by decide) rfl ?_
            refine jr.goto rfl rfl ?_
            obtain ⟨v80, e80⟩ : ∃ z, M 598 131 = z := ⟨_, rfl⟩
            have b80 : 0 ≤ v80 ∧ v80 ≤ 400 := by rw [← e80]; exact hI_M 598 131 (by decide)
            have e81 : M75 598 131 = v80 := ((w75_1 131 (by decide) (by decide) (by decide) (by decide) (by decide) (by decide) (by decide) (by decide) (by decide) (by decide) (by decide) (by decide)).trans e80)
            refine jr.pick [0, 6, 7] rfl rfl ?_
            exact r_word_L378 q M75 (-1) w hI_M75 hH_M75 hS_M75  (fun a i f598 f603 f604 f605 f624 f686 => ((w75_0 a i f598 f603 f604 f605).trans (hF_M a i f598 f603 f604 f605 f624 f686))) (fun i g6 g10 g11 g12 g59 g60 g61 g62 g63 g64 g65 g66 g131 g135 => ((w75_1 i g6 g10 g11 g12 g59 g60 g61 g62 g63 g64 g65 g66).trans (hG_M i g6 g10 g11 g12 g59 g60 g61 g62 g63 g64 g65 g66 g131 g135))) (by omega) (by omega) (by rw [e81] <;> omega) (by omega)
